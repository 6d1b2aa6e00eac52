/-! what noteVariables leaves of 'varying' -/
theorem xu_self (f : Nat → Int32) (k : Nat) : upd f k (f k) = f := by
  funext j
  by_cases h : j = k
  · subst h; exact pk_us
  · exact pk_un h
def pc_nv (P V : Nat → Int32) (t κ α : Nat) : Nat → Nat → Int32
  | 0 => V
  | i + 1 => upd (pc_nv P V t κ α i) i (pp_vr P (pc_nv P V t κ α i i) t κ α i)
theorem pc_nv_y {P V : Nat → Int32} {t κ α i : Nat} (h : (κ = 0 ∧ α = i) ∨ ¬ P t &&& pc_nv P V t κ α i i = 0) : pc_nv P V t κ α (i + 1) = upd (pc_nv P V t κ α i) i (pc_nv P V t κ α i i ||| ((1 : Int32) <<< (nI t &&& 31))) := by
  show upd _ i (pp_vr _ _ _ _ _ _) = _
  unfold pp_vr
  rw [if_pos h]
theorem pc_nv_n {P V : Nat → Int32} {t κ α i : Nat} (h : ¬ ((κ = 0 ∧ α = i) ∨ ¬ P t &&& pc_nv P V t κ α i i = 0)) : pc_nv P V t κ α (i + 1) = pc_nv P V t κ α i := by
  show upd _ i (pp_vr _ _ _ _ _ _) = _
  unfold pp_vr
  rw [if_neg h, xu_self]
section TT3
variable (l : Launch) (dC : Nat → ClassId) (dI : Nat → Nat → Nat) (cI : ClassId) (ad : Nat → Nat) (aK aA aB aC aP aV aN : Nat → Int32) (n : Nat)
set_option maxHeartbeats 4000000 in
set_option maxRecDepth 100000 in
theorem ctX3_noteVariables (sz t κ α : Nat) (ht : t < 12) (hκ : κ < 20) (hα : α < 32) (hkt : aK t = nI κ) (hat : aA t = nI α) : Met l yX3_noteVariables wsX3_noteVariables ({ frames := 0, cells := 0, slots := 0, locals := 0 }) (va_Pc [.ref (ad 0), .int (nI t)] (fun U => U.heap.size = sz ∧ va_P (dC, dI) vwCl (wT cI ad aK aA aB aC aP aV aN n) U.heap ∧ va_K (dC, dI) vwCl [(cI, .int)] U ∧ va_D (fun _ => True) (wT cI ad aK aA aB aC aP aV aN n))) (va_Qv (fun _ => True) (fun (u : Unit) t9 => va_P (dC, dI) vwCl (wT cI ad aK aA aB aC aP (pc_nv aP aV t κ α 2) aN n) t9.heap ∧ va_K (dC, dI) vwCl [(cI, .int)] t9 ∧ va_D (va_A (wT cI ad aK aA aB aC aP aV aN n) sz) (wT cI ad aK aA aB aC aP (pc_nv aP aV t κ α 2) aN n)) (va_A (wT cI ad aK aA aB aC aP aV aN n) sz)) 0 0 (va_A (wT cI ad aK aA aB aC aP aV aN n) sz) := by
  refine Met.ofW (cc := cX3_noteVariables) (maxL := 4) (ret := none) (by decide) rfl ?_
  intro p e s m args below meth c s₁ B hml hv
  obtain ⟨rfl, hsz, hP, hK, hD0⟩ := hv
  subst hsz
  have hx := B.exec
  have hb := B.bytes
  have hr := B.returns
  have hts := atoms_spec (ws := wsX3_noteVariables) B.pre
  have hown : s.vm.findClass RX3 = some m.cls := findClass_of_methodNamed B.named
  have hlocks := B.notSynchronized
  have hl := lv_entry ([.ref (ad 0), .int (nI t)]) (n := 4) (Nat.le_of_ble_eq_true rfl)
  rw [lg_entry_eq]
  generalize (lg_sl ([.ref (ad 0), .int (nI t)]) ++ List.replicate (4 - (lg_sl ([.ref (ad 0), .int (nI t)])).length) Slot.unset).toArray = ls at hl ⊢
  have hl : lv_has ls 4 [(0, .ref (ad 0)), (1, .int (nI t))] := hl
  have hD := hD0.self (sz := s.heap.size)
  generalize hAe : va_A (wT cI ad aK aA aB aC aP aV aN n) s.heap.size = A9 at hD ⊢
  have hA : ∀ q : Nat, s.heap.size ≤ q → A9 q := fun q h => by rw [← hAe]; exact Or.inr h
  have hS : va_S A9 s.heap s.heap [] := va_S.rf
  refine lv_iconst (v := 0) hx hb dX3_noteVariables_0 (by decide) ?_
  refine lv_istore_n (lv' := [(2, .int 0), (0, .ref (ad 0)), (1, .int (nI t))]) hx hb dX3_noteVariables_1 rfl hl (by decide) rfl (fun ls hl => ?_)
  have hl : lv_has ls 4 [(2, .int (nI 0)), (1, .int (nI t)), (0, .ref (ad 0))] := lv_sub hl [0, 2, 1] rfl
  refine xw_loop (pc := 2) (fun (i : Nat) => 2 - i) (fun (i : Nat) ls H9 locs9 => i ≤ 2 ∧ va_P (dC, dI) vwCl [(ad 0, .inr (1, [.ref (ad 1), .ref (ad 2), .ref (ad 3), .ref (ad 4), .ref (ad 5), .ref (ad 6), .ref (ad 7), .int (nI n)])), (ad 1, .inl (cI, 12, .inl aK)), (ad 2, .inl (cI, 12, .inl aA)), (ad 3, .inl (cI, 12, .inl aB)), (ad 4, .inl (cI, 12, .inl aC)), (ad 5, .inl (cI, 12, .inl aP)), (ad 6, .inl (cI, 2, .inl (pc_nv aP aV t κ α i))), (ad 7, .inl (cI, 12, .inl aN))] H9 ∧ va_D A9 [(ad 0, .inr (1, [.ref (ad 1), .ref (ad 2), .ref (ad 3), .ref (ad 4), .ref (ad 5), .ref (ad 6), .ref (ad 7), .int (nI n)])), (ad 1, .inl (cI, 12, .inl aK)), (ad 2, .inl (cI, 12, .inl aA)), (ad 3, .inl (cI, 12, .inl aB)), (ad 4, .inl (cI, 12, .inl aC)), (ad 5, .inl (cI, 12, .inl aP)), (ad 6, .inl (cI, 2, .inl (pc_nv aP aV t κ α i))), (ad 7, .inl (cI, 12, .inl aN))] ∧ va_S A9 s.heap H9 locs9 ∧ lv_has ls 4 [(2, .int (nI i)), (1, .int (nI t)), (0, .ref (ad 0))]) ?_ 0 ls _ _ ⟨by omega, hP, hD, hS, hl⟩
  clear hP hD hS hl
  intro i ls H locs ⟨hi, hP, hD, hS, hl⟩ ih
  refine lv_iload_n hx hb dX3_noteVariables_2 rfl (lv_at hl 0 rfl) ?_
  refine lv_iconst (v := nI 2) hx hb dX3_noteVariables_3 (by decide) ?_
  refine lv_icmp_ge (tgt := 70) hx hb dX3_noteVariables_4 (by decide) (fun h1 => ?_) (fun h1 => ?_)
  · skip
    have h1 : 2 ≤ i := (nI_leI (a := 2) (b := i) (by omega) (by omega)).mp h1
    have ei : i = 2 := by omega
    subst ei
    exact W.vret hx hb hr (fun t9 ht9 hW9 => ⟨⟨(), rfl, trivial, by rw [ht9]; exact hP, va_K.moved hW9.alike hK, hD⟩, hS.F ht9⟩) hS.2.2 dX3_noteVariables_70
  · skip
    have h1 : ¬ 2 ≤ i := fun z => h1 ((nI_leI (a := 2) (b := i) (by omega) (by omega)).mpr z)
    refine lv_aload_n hx hb dX3_noteVariables_7 rfl (lv_at hl 2 rfl) ?_
    refine va_get (D := (dC, dI)) (ci := 1) (v := .ref (ad 1)) (C := RX3) (T := TX3) (N := 8) hx hb hts (fun w h => List.mem_cons_of_mem _ (wf_X3 w h)) hown hK hP 0 rfl rfl 0 (by decide) (hts _ (List.mem_cons_of_mem _ wm_fl_X3_9)) (fun _ h9 => h9) rfl dX3_noteVariables_8 ?_
    refine lv_iload_n hx hb dX3_noteVariables_11 rfl (lv_at hl 1 rfl) ?_
    refine xr_iald (t := t) (v := nI κ) hx hb hK hP 1 0 rfl rfl (by omega) (by omega) (hkt) dX3_noteVariables_12 ?_
    refine lv_if_ne (tgt := 30) hx hb dX3_noteVariables_13 (by decide) (fun h2 => ?_) (fun h2 => ?_)
    · skip
      have h2 : ¬ κ = 0 := fun z => h2 ((nI_eq (a := κ) (b := 0) (by omega) (by omega)).mpr z)
      refine lv_iconst (v := 0) hx hb dX3_noteVariables_30 (by decide) ?_
      refine lv_istore_n (lv' := [(3, .int 0), (2, .int (nI i)), (1, .int (nI t)), (0, .ref (ad 0))]) hx hb dX3_noteVariables_31 rfl hl (by decide) rfl (fun ls hl => ?_)
      refine lv_iload_n hx hb dX3_noteVariables_32 rfl (lv_at hl 0 rfl) ?_
      refine lv_if_ne (tgt := 52) hx hb dX3_noteVariables_33 (by decide) (fun h3 => absurd (by decide) h3) (fun _ => ?_)
      refine lv_aload_n hx hb dX3_noteVariables_36 rfl (lv_at hl 3 rfl) ?_
      refine va_get (D := (dC, dI)) (ci := 1) (v := .ref (ad 5)) (C := RX3) (T := TX3) (N := 8) hx hb hts (fun w h => List.mem_cons_of_mem _ (wf_X3 w h)) hown hK hP 0 rfl rfl 4 (by decide) (hts _ (List.mem_cons_of_mem _ wm_fl_X3_24)) (fun _ h9 => h9) rfl dX3_noteVariables_37 ?_
      refine lv_iload_n hx hb dX3_noteVariables_40 rfl (lv_at hl 2 rfl) ?_
      refine xr_iald (t := t) (v := aP t) hx hb hK hP 5 0 rfl rfl (by omega) (by omega) (rfl) dX3_noteVariables_41 ?_
      refine lv_aload_n hx hb dX3_noteVariables_42 rfl (lv_at hl 3 rfl) ?_
      refine va_get (D := (dC, dI)) (ci := 1) (v := .ref (ad 6)) (C := RX3) (T := TX3) (N := 8) hx hb hts (fun w h => List.mem_cons_of_mem _ (wf_X3 w h)) hown hK hP 0 rfl rfl 5 (by decide) (hts _ (List.mem_cons_of_mem _ wm_fl_X3_27)) (fun _ h9 => h9) rfl dX3_noteVariables_43 ?_
      refine lv_iload_n hx hb dX3_noteVariables_46 rfl (lv_at hl 1 rfl) ?_
      refine xr_iald (t := i) (v := (pc_nv aP aV t κ α i) i) hx hb hK hP 6 0 rfl rfl (by omega) (by omega) (rfl) dX3_noteVariables_47 ?_
      refine lv_iand hx hb dX3_noteVariables_48 ?_
      refine lv_if_eq (tgt := 64) hx hb dX3_noteVariables_49 (by decide) (fun h4 => ?_) (fun h4 => ?_)
      · skip
        refine lv_iinc (k := 1) (v := nI (i + 1)) (lv' := [(2, .int (nI (i + 1))), (3, .int 0), (1, .int (nI t)), (0, .ref (ad 0))]) hx hb dX3_noteVariables_64 hl rfl (nI_1 i) (by decide) rfl (fun ls hl => ?_)
        refine lv_goto (tgt := 2) hx hb dX3_noteVariables_67 (by decide) ?_
        have ev : pc_nv aP aV t κ α (i + 1) = pc_nv aP aV t κ α i := pc_nv_n (fun z => z.elim (fun z => h2 z.1) (fun z => z h4))
        rw [← ev] at hP hD
        exact ih (i + 1) ls H locs ⟨by omega, hP, hD, hS, lv_sub hl [0, 2, 3] rfl⟩ (by show 2 - (i + 1) < 2 - i; omega)
      · skip
        refine lv_aload_n hx hb dX3_noteVariables_52 rfl (lv_at hl 3 rfl) ?_
        refine va_get (D := (dC, dI)) (ci := 1) (v := .ref (ad 6)) (C := RX3) (T := TX3) (N := 8) hx hb hts (fun w h => List.mem_cons_of_mem _ (wf_X3 w h)) hown hK hP 0 rfl rfl 5 (by decide) (hts _ (List.mem_cons_of_mem _ wm_fl_X3_27)) (fun _ h9 => h9) rfl dX3_noteVariables_53 ?_
        refine lv_iload_n hx hb dX3_noteVariables_56 rfl (lv_at hl 1 rfl) ?_
        refine lv_dup2_11 hx hb dX3_noteVariables_57 rfl rfl ?_
        refine xr_iald (t := i) (v := (pc_nv aP aV t κ α i) i) hx hb hK hP 6 0 rfl rfl (by omega) (by omega) (rfl) dX3_noteVariables_58 ?_
        refine lv_iconst (v := 1) hx hb dX3_noteVariables_59 (by decide) ?_
        refine lv_iload_n hx hb dX3_noteVariables_60 rfl (lv_at hl 2 rfl) ?_
        refine lv_ishl hx hb dX3_noteVariables_61 ?_
        refine lv_ior hx hb dX3_noteVariables_62 ?_
        refine xr_iast (t := i) (x := ((pc_nv aP aV t κ α i) i) ||| (1 <<< ((nI t) &&& 31))) hx hb hK hP hD hS 6 0 rfl rfl (by omega) (by omega) dX3_noteVariables_63 (fun H locs hP hD hS => ?_)
        have hP : va_P (dC, dI) vwCl [(ad 0, .inr (1, [.ref (ad 1), .ref (ad 2), .ref (ad 3), .ref (ad 4), .ref (ad 5), .ref (ad 6), .ref (ad 7), .int (nI n)])), (ad 1, .inl (cI, 12, .inl aK)), (ad 2, .inl (cI, 12, .inl aA)), (ad 3, .inl (cI, 12, .inl aB)), (ad 4, .inl (cI, 12, .inl aC)), (ad 5, .inl (cI, 12, .inl aP)), (ad 6, .inl (cI, 2, .inl (upd (pc_nv aP aV t κ α i) i (((pc_nv aP aV t κ α i) i) ||| (1 <<< ((nI t) &&& 31)))))), (ad 7, .inl (cI, 12, .inl aN))] H := hP
        have hD : va_D A9 [(ad 0, .inr (1, [.ref (ad 1), .ref (ad 2), .ref (ad 3), .ref (ad 4), .ref (ad 5), .ref (ad 6), .ref (ad 7), .int (nI n)])), (ad 1, .inl (cI, 12, .inl aK)), (ad 2, .inl (cI, 12, .inl aA)), (ad 3, .inl (cI, 12, .inl aB)), (ad 4, .inl (cI, 12, .inl aC)), (ad 5, .inl (cI, 12, .inl aP)), (ad 6, .inl (cI, 2, .inl (upd (pc_nv aP aV t κ α i) i (((pc_nv aP aV t κ α i) i) ||| (1 <<< ((nI t) &&& 31)))))), (ad 7, .inl (cI, 12, .inl aN))] := hD
        refine lv_iinc (k := 1) (v := nI (i + 1)) (lv' := [(2, .int (nI (i + 1))), (3, .int 0), (1, .int (nI t)), (0, .ref (ad 0))]) hx hb dX3_noteVariables_64 hl rfl (nI_1 i) (by decide) rfl (fun ls hl => ?_)
        refine lv_goto (tgt := 2) hx hb dX3_noteVariables_67 (by decide) ?_
        have ev : pc_nv aP aV t κ α (i + 1) = upd (pc_nv aP aV t κ α i) i (((pc_nv aP aV t κ α i) i) ||| (1 <<< ((nI t) &&& 31))) := pc_nv_y (Or.inr h4)
        rw [← ev] at hP hD
        exact ih (i + 1) ls H locs ⟨by omega, hP, hD, hS, lv_sub hl [0, 2, 3] rfl⟩ (by show 2 - (i + 1) < 2 - i; omega)
    · skip
      have h2 : κ = 0 := (nI_eq (a := κ) (b := 0) (by omega) (by omega)).mp h2
      refine lv_aload_n hx hb dX3_noteVariables_16 rfl (lv_at hl 2 rfl) ?_
      refine va_get (D := (dC, dI)) (ci := 1) (v := .ref (ad 2)) (C := RX3) (T := TX3) (N := 8) hx hb hts (fun w h => List.mem_cons_of_mem _ (wf_X3 w h)) hown hK hP 0 rfl rfl 1 (by decide) (hts _ (List.mem_cons_of_mem _ wm_fl_X3_15)) (fun _ h9 => h9) rfl dX3_noteVariables_17 ?_
      refine lv_iload_n hx hb dX3_noteVariables_20 rfl (lv_at hl 1 rfl) ?_
      refine xr_iald (t := t) (v := nI α) hx hb hK hP 2 0 rfl rfl (by omega) (by omega) (hat) dX3_noteVariables_21 ?_
      refine lv_iload_n hx hb dX3_noteVariables_22 rfl (lv_at hl 0 rfl) ?_
      refine lv_icmp_ne (tgt := 30) hx hb dX3_noteVariables_23 (by decide) (fun h5 => ?_) (fun h5 => ?_)
      · skip
        have h5 : ¬ α = i := fun z => h5 ((nI_eq (a := α) (b := i) (by omega) (by omega)).mpr z)
        refine lv_iconst (v := 0) hx hb dX3_noteVariables_30 (by decide) ?_
        refine lv_istore_n (lv' := [(3, .int 0), (2, .int (nI i)), (1, .int (nI t)), (0, .ref (ad 0))]) hx hb dX3_noteVariables_31 rfl hl (by decide) rfl (fun ls hl => ?_)
        refine lv_iload_n hx hb dX3_noteVariables_32 rfl (lv_at hl 0 rfl) ?_
        refine lv_if_ne (tgt := 52) hx hb dX3_noteVariables_33 (by decide) (fun h6 => absurd (by decide) h6) (fun _ => ?_)
        refine lv_aload_n hx hb dX3_noteVariables_36 rfl (lv_at hl 3 rfl) ?_
        refine va_get (D := (dC, dI)) (ci := 1) (v := .ref (ad 5)) (C := RX3) (T := TX3) (N := 8) hx hb hts (fun w h => List.mem_cons_of_mem _ (wf_X3 w h)) hown hK hP 0 rfl rfl 4 (by decide) (hts _ (List.mem_cons_of_mem _ wm_fl_X3_24)) (fun _ h9 => h9) rfl dX3_noteVariables_37 ?_
        refine lv_iload_n hx hb dX3_noteVariables_40 rfl (lv_at hl 2 rfl) ?_
        refine xr_iald (t := t) (v := aP t) hx hb hK hP 5 0 rfl rfl (by omega) (by omega) (rfl) dX3_noteVariables_41 ?_
        refine lv_aload_n hx hb dX3_noteVariables_42 rfl (lv_at hl 3 rfl) ?_
        refine va_get (D := (dC, dI)) (ci := 1) (v := .ref (ad 6)) (C := RX3) (T := TX3) (N := 8) hx hb hts (fun w h => List.mem_cons_of_mem _ (wf_X3 w h)) hown hK hP 0 rfl rfl 5 (by decide) (hts _ (List.mem_cons_of_mem _ wm_fl_X3_27)) (fun _ h9 => h9) rfl dX3_noteVariables_43 ?_
        refine lv_iload_n hx hb dX3_noteVariables_46 rfl (lv_at hl 1 rfl) ?_
        refine xr_iald (t := i) (v := (pc_nv aP aV t κ α i) i) hx hb hK hP 6 0 rfl rfl (by omega) (by omega) (rfl) dX3_noteVariables_47 ?_
        refine lv_iand hx hb dX3_noteVariables_48 ?_
        refine lv_if_eq (tgt := 64) hx hb dX3_noteVariables_49 (by decide) (fun h7 => ?_) (fun h7 => ?_)
        · skip
          refine lv_iinc (k := 1) (v := nI (i + 1)) (lv' := [(2, .int (nI (i + 1))), (3, .int 0), (1, .int (nI t)), (0, .ref (ad 0))]) hx hb dX3_noteVariables_64 hl rfl (nI_1 i) (by decide) rfl (fun ls hl => ?_)
          refine lv_goto (tgt := 2) hx hb dX3_noteVariables_67 (by decide) ?_
          have ev : pc_nv aP aV t κ α (i + 1) = pc_nv aP aV t κ α i := pc_nv_n (fun z => z.elim (fun z => h5 z.2) (fun z => z h7))
          rw [← ev] at hP hD
          exact ih (i + 1) ls H locs ⟨by omega, hP, hD, hS, lv_sub hl [0, 2, 3] rfl⟩ (by show 2 - (i + 1) < 2 - i; omega)
        · skip
          refine lv_aload_n hx hb dX3_noteVariables_52 rfl (lv_at hl 3 rfl) ?_
          refine va_get (D := (dC, dI)) (ci := 1) (v := .ref (ad 6)) (C := RX3) (T := TX3) (N := 8) hx hb hts (fun w h => List.mem_cons_of_mem _ (wf_X3 w h)) hown hK hP 0 rfl rfl 5 (by decide) (hts _ (List.mem_cons_of_mem _ wm_fl_X3_27)) (fun _ h9 => h9) rfl dX3_noteVariables_53 ?_
          refine lv_iload_n hx hb dX3_noteVariables_56 rfl (lv_at hl 1 rfl) ?_
          refine lv_dup2_11 hx hb dX3_noteVariables_57 rfl rfl ?_
          refine xr_iald (t := i) (v := (pc_nv aP aV t κ α i) i) hx hb hK hP 6 0 rfl rfl (by omega) (by omega) (rfl) dX3_noteVariables_58 ?_
          refine lv_iconst (v := 1) hx hb dX3_noteVariables_59 (by decide) ?_
          refine lv_iload_n hx hb dX3_noteVariables_60 rfl (lv_at hl 2 rfl) ?_
          refine lv_ishl hx hb dX3_noteVariables_61 ?_
          refine lv_ior hx hb dX3_noteVariables_62 ?_
          refine xr_iast (t := i) (x := ((pc_nv aP aV t κ α i) i) ||| (1 <<< ((nI t) &&& 31))) hx hb hK hP hD hS 6 0 rfl rfl (by omega) (by omega) dX3_noteVariables_63 (fun H locs hP hD hS => ?_)
          have hP : va_P (dC, dI) vwCl [(ad 0, .inr (1, [.ref (ad 1), .ref (ad 2), .ref (ad 3), .ref (ad 4), .ref (ad 5), .ref (ad 6), .ref (ad 7), .int (nI n)])), (ad 1, .inl (cI, 12, .inl aK)), (ad 2, .inl (cI, 12, .inl aA)), (ad 3, .inl (cI, 12, .inl aB)), (ad 4, .inl (cI, 12, .inl aC)), (ad 5, .inl (cI, 12, .inl aP)), (ad 6, .inl (cI, 2, .inl (upd (pc_nv aP aV t κ α i) i (((pc_nv aP aV t κ α i) i) ||| (1 <<< ((nI t) &&& 31)))))), (ad 7, .inl (cI, 12, .inl aN))] H := hP
          have hD : va_D A9 [(ad 0, .inr (1, [.ref (ad 1), .ref (ad 2), .ref (ad 3), .ref (ad 4), .ref (ad 5), .ref (ad 6), .ref (ad 7), .int (nI n)])), (ad 1, .inl (cI, 12, .inl aK)), (ad 2, .inl (cI, 12, .inl aA)), (ad 3, .inl (cI, 12, .inl aB)), (ad 4, .inl (cI, 12, .inl aC)), (ad 5, .inl (cI, 12, .inl aP)), (ad 6, .inl (cI, 2, .inl (upd (pc_nv aP aV t κ α i) i (((pc_nv aP aV t κ α i) i) ||| (1 <<< ((nI t) &&& 31)))))), (ad 7, .inl (cI, 12, .inl aN))] := hD
          refine lv_iinc (k := 1) (v := nI (i + 1)) (lv' := [(2, .int (nI (i + 1))), (3, .int 0), (1, .int (nI t)), (0, .ref (ad 0))]) hx hb dX3_noteVariables_64 hl rfl (nI_1 i) (by decide) rfl (fun ls hl => ?_)
          refine lv_goto (tgt := 2) hx hb dX3_noteVariables_67 (by decide) ?_
          have ev : pc_nv aP aV t κ α (i + 1) = upd (pc_nv aP aV t κ α i) i (((pc_nv aP aV t κ α i) i) ||| (1 <<< ((nI t) &&& 31))) := pc_nv_y (Or.inr h7)
          rw [← ev] at hP hD
          exact ih (i + 1) ls H locs ⟨by omega, hP, hD, hS, lv_sub hl [0, 2, 3] rfl⟩ (by show 2 - (i + 1) < 2 - i; omega)
      · skip
        have h5 : α = i := (nI_eq (a := α) (b := i) (by omega) (by omega)).mp h5
        refine lv_iconst (v := 1) hx hb dX3_noteVariables_26 (by decide) ?_
        refine lv_goto (tgt := 31) hx hb dX3_noteVariables_27 (by decide) ?_
        refine lv_istore_n (lv' := [(3, .int 1), (2, .int (nI i)), (1, .int (nI t)), (0, .ref (ad 0))]) hx hb dX3_noteVariables_31 rfl hl (by decide) rfl (fun ls hl => ?_)
        refine lv_iload_n hx hb dX3_noteVariables_32 rfl (lv_at hl 0 rfl) ?_
        refine lv_if_ne (tgt := 52) hx hb dX3_noteVariables_33 (by decide) (fun _ => ?_) (fun h8 => absurd h8 (by decide))
        refine lv_aload_n hx hb dX3_noteVariables_52 rfl (lv_at hl 3 rfl) ?_
        refine va_get (D := (dC, dI)) (ci := 1) (v := .ref (ad 6)) (C := RX3) (T := TX3) (N := 8) hx hb hts (fun w h => List.mem_cons_of_mem _ (wf_X3 w h)) hown hK hP 0 rfl rfl 5 (by decide) (hts _ (List.mem_cons_of_mem _ wm_fl_X3_27)) (fun _ h9 => h9) rfl dX3_noteVariables_53 ?_
        refine lv_iload_n hx hb dX3_noteVariables_56 rfl (lv_at hl 1 rfl) ?_
        refine lv_dup2_11 hx hb dX3_noteVariables_57 rfl rfl ?_
        refine xr_iald (t := i) (v := (pc_nv aP aV t κ α i) i) hx hb hK hP 6 0 rfl rfl (by omega) (by omega) (rfl) dX3_noteVariables_58 ?_
        refine lv_iconst (v := 1) hx hb dX3_noteVariables_59 (by decide) ?_
        refine lv_iload_n hx hb dX3_noteVariables_60 rfl (lv_at hl 2 rfl) ?_
        refine lv_ishl hx hb dX3_noteVariables_61 ?_
        refine lv_ior hx hb dX3_noteVariables_62 ?_
        refine xr_iast (t := i) (x := ((pc_nv aP aV t κ α i) i) ||| (1 <<< ((nI t) &&& 31))) hx hb hK hP hD hS 6 0 rfl rfl (by omega) (by omega) dX3_noteVariables_63 (fun H locs hP hD hS => ?_)
        have hP : va_P (dC, dI) vwCl [(ad 0, .inr (1, [.ref (ad 1), .ref (ad 2), .ref (ad 3), .ref (ad 4), .ref (ad 5), .ref (ad 6), .ref (ad 7), .int (nI n)])), (ad 1, .inl (cI, 12, .inl aK)), (ad 2, .inl (cI, 12, .inl aA)), (ad 3, .inl (cI, 12, .inl aB)), (ad 4, .inl (cI, 12, .inl aC)), (ad 5, .inl (cI, 12, .inl aP)), (ad 6, .inl (cI, 2, .inl (upd (pc_nv aP aV t κ α i) i (((pc_nv aP aV t κ α i) i) ||| (1 <<< ((nI t) &&& 31)))))), (ad 7, .inl (cI, 12, .inl aN))] H := hP
        have hD : va_D A9 [(ad 0, .inr (1, [.ref (ad 1), .ref (ad 2), .ref (ad 3), .ref (ad 4), .ref (ad 5), .ref (ad 6), .ref (ad 7), .int (nI n)])), (ad 1, .inl (cI, 12, .inl aK)), (ad 2, .inl (cI, 12, .inl aA)), (ad 3, .inl (cI, 12, .inl aB)), (ad 4, .inl (cI, 12, .inl aC)), (ad 5, .inl (cI, 12, .inl aP)), (ad 6, .inl (cI, 2, .inl (upd (pc_nv aP aV t κ α i) i (((pc_nv aP aV t κ α i) i) ||| (1 <<< ((nI t) &&& 31)))))), (ad 7, .inl (cI, 12, .inl aN))] := hD
        refine lv_iinc (k := 1) (v := nI (i + 1)) (lv' := [(2, .int (nI (i + 1))), (3, .int 1), (1, .int (nI t)), (0, .ref (ad 0))]) hx hb dX3_noteVariables_64 hl rfl (nI_1 i) (by decide) rfl (fun ls hl => ?_)
        refine lv_goto (tgt := 2) hx hb dX3_noteVariables_67 (by decide) ?_
        have ev : pc_nv aP aV t κ α (i + 1) = upd (pc_nv aP aV t κ α i) i (((pc_nv aP aV t κ α i) i) ||| (1 <<< ((nI t) &&& 31))) := pc_nv_y (Or.inl ⟨h2, h5⟩)
        rw [← ev] at hP hD
        exact ih (i + 1) ls H locs ⟨by omega, hP, hD, hS, lv_sub hl [0, 2, 3] rfl⟩ (by show 2 - (i + 1) < 2 - i; omega)
set_option maxHeartbeats 4000000 in
set_option maxRecDepth 100000 in
theorem ctX3_append (sz κ α β γ : Nat) (hn : n < 12) (hκ : κ < 20) (hα : α < 32) (h1 : 3 ≤ pv_s1 κ → α < 12) (h2 : 3 ≤ pv_s2 κ → β < 12) (h3 : 3 ≤ pv_s3 κ → γ < 12) : Met l yX3_append wsX3_append ({ frames := 2, cells := 0, slots := 0, locals := 42 }) (va_Pc [.ref (ad 0), .int (nI κ), .int (nI α), .int (nI β), .int (nI γ)] (fun U => U.heap.size = sz ∧ va_P (dC, dI) vwCl (wT cI ad aK aA aB aC aP aV aN n) U.heap ∧ va_K (dC, dI) vwCl [(cI, .int)] U ∧ va_D (fun _ => True) (wT cI ad aK aA aB aC aP aV aN n))) (va_Qi (fun r _ => r = nI n) (fun (u : Unit) t9 => va_P (dC, dI) vwCl (wT cI ad (upd aK n (nI κ)) (upd aA n (nI α)) (upd aB n (nI β)) (upd aC n (nI γ)) (upd aP n (pp_new aP n κ α β γ)) (pc_nv (upd aP n (pp_new aP n κ α β γ)) aV n κ α 2) aN (n + 1)) t9.heap ∧ va_K (dC, dI) vwCl [(cI, .int)] t9 ∧ va_D (va_A (wT cI ad aK aA aB aC aP aV aN n) sz) (wT cI ad (upd aK n (nI κ)) (upd aA n (nI α)) (upd aB n (nI β)) (upd aC n (nI γ)) (upd aP n (pp_new aP n κ α β γ)) (pc_nv (upd aP n (pp_new aP n κ α β γ)) aV n κ α 2) aN (n + 1))) (va_A (wT cI ad aK aA aB aC aP aV aN n) sz)) 0 0 (va_A (wT cI ad aK aA aB aC aP aV aN n) sz) := by
  refine Met.ofW (cc := cX3_append) (maxL := 6) (ret := (some .int)) (by decide) rfl ?_
  intro p e s m args below meth c s₁ B hml hv
  obtain ⟨rfl, hsz, hP, hK, hD0⟩ := hv
  subst hsz
  have hx := B.exec
  have hb := B.bytes
  have hr := B.returns
  have hts := atoms_spec (ws := wsX3_append) B.pre
  have hown : s.vm.findClass RX3 = some m.cls := findClass_of_methodNamed B.named
  have hlocks := B.notSynchronized
  have hl := lv_entry ([.ref (ad 0), .int (nI κ), .int (nI α), .int (nI β), .int (nI γ)]) (n := 6) (Nat.le_of_ble_eq_true rfl)
  rw [lg_entry_eq]
  generalize (lg_sl ([.ref (ad 0), .int (nI κ), .int (nI α), .int (nI β), .int (nI γ)]) ++ List.replicate (6 - (lg_sl ([.ref (ad 0), .int (nI κ), .int (nI α), .int (nI β), .int (nI γ)])).length) Slot.unset).toArray = ls at hl ⊢
  have hl : lv_has ls 6 [(0, .ref (ad 0)), (1, .int (nI κ)), (2, .int (nI α)), (3, .int (nI β)), (4, .int (nI γ))] := hl
  have hD := hD0.self (sz := s.heap.size)
  generalize hAe : va_A (wT cI ad aK aA aB aC aP aV aN n) s.heap.size = A9 at hD ⊢
  have hA : ∀ q : Nat, s.heap.size ≤ q → A9 q := fun q h => by rw [← hAe]; exact Or.inr h
  have hS : va_S A9 s.heap s.heap [] := va_S.rf
  have s1 := pv_s1_le κ
  have s2 := pv_s2_le κ
  have s3 := pv_s3_le κ
  refine lv_aload_n hx hb dX3_append_0 rfl (lv_at hl 0 rfl) ?_
  refine va_get (D := (dC, dI)) (ci := 1) (v := .int (nI n)) (C := RX3) (T := TX3) (N := 8) hx hb hts (fun w h => List.mem_cons_of_mem _ (wf_X3 w h)) hown hK hP 0 rfl rfl 7 (by decide) (hts _ (List.mem_cons_of_mem _ wm_fl_X3_33)) (fun _ h9 => h9) rfl dX3_append_1 ?_
  refine lv_istore (lv' := [(5, .int (nI n)), (0, .ref (ad 0)), (1, .int (nI κ)), (2, .int (nI α)), (3, .int (nI β)), (4, .int (nI γ))]) hx hb dX3_append_4 hl (by decide) rfl (fun ls hl => ?_)
  refine lv_aload_n hx hb dX3_append_6 rfl (lv_at hl 1 rfl) ?_
  refine va_get (D := (dC, dI)) (ci := 1) (v := .ref (ad 1)) (C := RX3) (T := TX3) (N := 8) hx hb hts (fun w h => List.mem_cons_of_mem _ (wf_X3 w h)) hown hK hP 0 rfl rfl 0 (by decide) (hts _ (List.mem_cons_of_mem _ wm_fl_X3_9)) (fun _ h9 => h9) rfl dX3_append_7 ?_
  refine lv_iload hx hb dX3_append_10 (lv_at hl 0 rfl) ?_
  refine lv_iload_n hx hb dX3_append_12 rfl (lv_at hl 2 rfl) ?_
  refine xr_iast (t := n) (x := nI κ) hx hb hK hP hD hS 1 0 rfl rfl (by omega) (by omega) dX3_append_13 (fun H locs hP hD hS => ?_)
  have hP : va_P (dC, dI) vwCl [(ad 0, .inr (1, [.ref (ad 1), .ref (ad 2), .ref (ad 3), .ref (ad 4), .ref (ad 5), .ref (ad 6), .ref (ad 7), .int (nI n)])), (ad 1, .inl (cI, 12, .inl (upd aK n (nI κ)))), (ad 2, .inl (cI, 12, .inl aA)), (ad 3, .inl (cI, 12, .inl aB)), (ad 4, .inl (cI, 12, .inl aC)), (ad 5, .inl (cI, 12, .inl aP)), (ad 6, .inl (cI, 2, .inl aV)), (ad 7, .inl (cI, 12, .inl aN))] H := hP
  have hD : va_D A9 [(ad 0, .inr (1, [.ref (ad 1), .ref (ad 2), .ref (ad 3), .ref (ad 4), .ref (ad 5), .ref (ad 6), .ref (ad 7), .int (nI n)])), (ad 1, .inl (cI, 12, .inl (upd aK n (nI κ)))), (ad 2, .inl (cI, 12, .inl aA)), (ad 3, .inl (cI, 12, .inl aB)), (ad 4, .inl (cI, 12, .inl aC)), (ad 5, .inl (cI, 12, .inl aP)), (ad 6, .inl (cI, 2, .inl aV)), (ad 7, .inl (cI, 12, .inl aN))] := hD
  refine lv_aload_n hx hb dX3_append_14 rfl (lv_at hl 1 rfl) ?_
  refine va_get (D := (dC, dI)) (ci := 1) (v := .ref (ad 2)) (C := RX3) (T := TX3) (N := 8) hx hb hts (fun w h => List.mem_cons_of_mem _ (wf_X3 w h)) hown hK hP 0 rfl rfl 1 (by decide) (hts _ (List.mem_cons_of_mem _ wm_fl_X3_15)) (fun _ h9 => h9) rfl dX3_append_15 ?_
  refine lv_iload hx hb dX3_append_18 (lv_at hl 0 rfl) ?_
  refine lv_iload_n hx hb dX3_append_20 rfl (lv_at hl 3 rfl) ?_
  refine xr_iast (t := n) (x := nI α) hx hb hK hP hD hS 2 0 rfl rfl (by omega) (by omega) dX3_append_21 (fun H locs hP hD hS => ?_)
  have hP : va_P (dC, dI) vwCl [(ad 0, .inr (1, [.ref (ad 1), .ref (ad 2), .ref (ad 3), .ref (ad 4), .ref (ad 5), .ref (ad 6), .ref (ad 7), .int (nI n)])), (ad 1, .inl (cI, 12, .inl (upd aK n (nI κ)))), (ad 2, .inl (cI, 12, .inl (upd aA n (nI α)))), (ad 3, .inl (cI, 12, .inl aB)), (ad 4, .inl (cI, 12, .inl aC)), (ad 5, .inl (cI, 12, .inl aP)), (ad 6, .inl (cI, 2, .inl aV)), (ad 7, .inl (cI, 12, .inl aN))] H := hP
  have hD : va_D A9 [(ad 0, .inr (1, [.ref (ad 1), .ref (ad 2), .ref (ad 3), .ref (ad 4), .ref (ad 5), .ref (ad 6), .ref (ad 7), .int (nI n)])), (ad 1, .inl (cI, 12, .inl (upd aK n (nI κ)))), (ad 2, .inl (cI, 12, .inl (upd aA n (nI α)))), (ad 3, .inl (cI, 12, .inl aB)), (ad 4, .inl (cI, 12, .inl aC)), (ad 5, .inl (cI, 12, .inl aP)), (ad 6, .inl (cI, 2, .inl aV)), (ad 7, .inl (cI, 12, .inl aN))] := hD
  refine lv_aload_n hx hb dX3_append_22 rfl (lv_at hl 1 rfl) ?_
  refine va_get (D := (dC, dI)) (ci := 1) (v := .ref (ad 3)) (C := RX3) (T := TX3) (N := 8) hx hb hts (fun w h => List.mem_cons_of_mem _ (wf_X3 w h)) hown hK hP 0 rfl rfl 2 (by decide) (hts _ (List.mem_cons_of_mem _ wm_fl_X3_18)) (fun _ h9 => h9) rfl dX3_append_23 ?_
  refine lv_iload hx hb dX3_append_26 (lv_at hl 0 rfl) ?_
  refine lv_iload_n hx hb dX3_append_28 rfl (lv_at hl 4 rfl) ?_
  refine xr_iast (t := n) (x := nI β) hx hb hK hP hD hS 3 0 rfl rfl (by omega) (by omega) dX3_append_29 (fun H locs hP hD hS => ?_)
  have hP : va_P (dC, dI) vwCl [(ad 0, .inr (1, [.ref (ad 1), .ref (ad 2), .ref (ad 3), .ref (ad 4), .ref (ad 5), .ref (ad 6), .ref (ad 7), .int (nI n)])), (ad 1, .inl (cI, 12, .inl (upd aK n (nI κ)))), (ad 2, .inl (cI, 12, .inl (upd aA n (nI α)))), (ad 3, .inl (cI, 12, .inl (upd aB n (nI β)))), (ad 4, .inl (cI, 12, .inl aC)), (ad 5, .inl (cI, 12, .inl aP)), (ad 6, .inl (cI, 2, .inl aV)), (ad 7, .inl (cI, 12, .inl aN))] H := hP
  have hD : va_D A9 [(ad 0, .inr (1, [.ref (ad 1), .ref (ad 2), .ref (ad 3), .ref (ad 4), .ref (ad 5), .ref (ad 6), .ref (ad 7), .int (nI n)])), (ad 1, .inl (cI, 12, .inl (upd aK n (nI κ)))), (ad 2, .inl (cI, 12, .inl (upd aA n (nI α)))), (ad 3, .inl (cI, 12, .inl (upd aB n (nI β)))), (ad 4, .inl (cI, 12, .inl aC)), (ad 5, .inl (cI, 12, .inl aP)), (ad 6, .inl (cI, 2, .inl aV)), (ad 7, .inl (cI, 12, .inl aN))] := hD
  refine lv_aload_n hx hb dX3_append_30 rfl (lv_at hl 1 rfl) ?_
  refine va_get (D := (dC, dI)) (ci := 1) (v := .ref (ad 4)) (C := RX3) (T := TX3) (N := 8) hx hb hts (fun w h => List.mem_cons_of_mem _ (wf_X3 w h)) hown hK hP 0 rfl rfl 3 (by decide) (hts _ (List.mem_cons_of_mem _ wm_fl_X3_21)) (fun _ h9 => h9) rfl dX3_append_31 ?_
  refine lv_iload hx hb dX3_append_34 (lv_at hl 0 rfl) ?_
  refine lv_iload hx hb dX3_append_36 (lv_at hl 5 rfl) ?_
  refine xr_iast (t := n) (x := nI γ) hx hb hK hP hD hS 4 0 rfl rfl (by omega) (by omega) dX3_append_38 (fun H locs hP hD hS => ?_)
  have hP : va_P (dC, dI) vwCl [(ad 0, .inr (1, [.ref (ad 1), .ref (ad 2), .ref (ad 3), .ref (ad 4), .ref (ad 5), .ref (ad 6), .ref (ad 7), .int (nI n)])), (ad 1, .inl (cI, 12, .inl (upd aK n (nI κ)))), (ad 2, .inl (cI, 12, .inl (upd aA n (nI α)))), (ad 3, .inl (cI, 12, .inl (upd aB n (nI β)))), (ad 4, .inl (cI, 12, .inl (upd aC n (nI γ)))), (ad 5, .inl (cI, 12, .inl aP)), (ad 6, .inl (cI, 2, .inl aV)), (ad 7, .inl (cI, 12, .inl aN))] H := hP
  have hD : va_D A9 [(ad 0, .inr (1, [.ref (ad 1), .ref (ad 2), .ref (ad 3), .ref (ad 4), .ref (ad 5), .ref (ad 6), .ref (ad 7), .int (nI n)])), (ad 1, .inl (cI, 12, .inl (upd aK n (nI κ)))), (ad 2, .inl (cI, 12, .inl (upd aA n (nI α)))), (ad 3, .inl (cI, 12, .inl (upd aB n (nI β)))), (ad 4, .inl (cI, 12, .inl (upd aC n (nI γ)))), (ad 5, .inl (cI, 12, .inl aP)), (ad 6, .inl (cI, 2, .inl aV)), (ad 7, .inl (cI, 12, .inl aN))] := hD
  refine lv_aload_n hx hb dX3_append_39 rfl (lv_at hl 1 rfl) ?_
  refine va_get (D := (dC, dI)) (ci := 1) (v := .ref (ad 5)) (C := RX3) (T := TX3) (N := 8) hx hb hts (fun w h => List.mem_cons_of_mem _ (wf_X3 w h)) hown hK hP 0 rfl rfl 4 (by decide) (hts _ (List.mem_cons_of_mem _ wm_fl_X3_24)) (fun _ h9 => h9) rfl dX3_append_40 ?_
  refine lv_iload hx hb dX3_append_43 (lv_at hl 0 rfl) ?_
  refine lv_iconst (v := 1) hx hb dX3_append_45 (by decide) ?_
  refine lv_iload hx hb dX3_append_46 (lv_at hl 0 rfl) ?_
  refine lv_ishl hx hb dX3_append_48 ?_
  refine lv_aload_n hx hb dX3_append_49 rfl (lv_at hl 1 rfl) ?_
  refine lv_iload_n hx hb dX3_append_50 rfl (lv_at hl 2 rfl) ?_
  refine vp_callSi (W.runS (As := [.int (nI κ)]) (rest := [.ref (ad 0), .int (1 <<< ((nI n) &&& 31)), .int (nI n), .ref (ad 5)]) ⟨hx, hb, hml, hown, hts⟩ (ctX2_ofFirst l (nI κ)) (va_cwS 1 hts (wA_wsS wm_ml_X3_49 wm_st_X2_ofFirst wm_in_X2 wm_cd_X2_ofFirst) rfl rfl rfl (by decide +kernel) ⟨Nat.le_of_ble_eq_true rfl, Nat.le_of_ble_eq_true rfl⟩) ⟨fun a U g mk q => q, fun U hU hW => ⟨rfl, trivial⟩⟩ rfl rfl hl.1 rfl (lv_room (Nat.le_of_ble_eq_true rfl)) dX3_append_51 ⟨Nat.zero_le _, Nat.zero_le _⟩) (fun r1 er1 => ?_)
  rw [px_s1_n hκ] at er1
  subst er1
  refine lv_iload_n hx hb dX3_append_54 rfl (lv_at hl 3 rfl) ?_
  refine vp_callSi (W.runV (C := RX3) (b := ad 0) (As := [.int (nI (pv_s1 κ)), .int (nI α)]) (rest := [.int (1 <<< ((nI n) &&& 31)), .int (nI n), .ref (ad 5)]) ⟨hx, hb, hml, hown, hts⟩ (ctX3_partsBelow l dC dI cI ad (upd aK n (nI κ)) (upd aA n (nI α)) (upd aB n (nI β)) (upd aC n (nI γ)) aP aV aN n (pv_s1 κ) α (by omega) h1) (cwV 2 hts (wA_wsV wm_ml_X3_74 wm_im_X3_partsBelow wm_se_X3_partsBelow wm_in_X3 wm_cd_X3_partsBelow) rfl rfl rfl (by decide +kernel) ⟨Nat.le_of_ble_eq_true rfl, Nat.le_of_ble_eq_true rfl⟩) ⟨fun a U g mk q => by obtain ⟨q0, qP, qK⟩ := q; exact ⟨q0, qP, va_K.moved (u := U) (U := U.calling g mk a) (Vm.Alike.refl U.vm) qK⟩, va_recv (q := (RX3, TX3, 8)) (q0 := 0) hK hP rfl rfl, fun U hU hW => ⟨rfl, by rw [hU]; exact hP, va_K.moved hW.alike hK⟩⟩ rfl rfl hl.1 rfl (lv_room (Nat.le_of_ble_eq_true rfl)) dX3_append_55 ⟨Nat.zero_le _, Nat.zero_le _⟩) (fun r2 er2 => ?_)
  subst er2
  refine lv_ior hx hb dX3_append_58 ?_
  refine lv_aload_n hx hb dX3_append_59 rfl (lv_at hl 1 rfl) ?_
  refine lv_iload_n hx hb dX3_append_60 rfl (lv_at hl 2 rfl) ?_
  refine vp_callSi (W.runS (As := [.int (nI κ)]) (rest := [.ref (ad 0), .int ((1 <<< ((nI n) &&& 31)) ||| (pp_pb aP (pv_s1 κ) α)), .int (nI n), .ref (ad 5)]) ⟨hx, hb, hml, hown, hts⟩ (ctX2_ofSecond l (nI κ)) (va_cwS 1 hts (wA_wsS wm_ml_X3_57 wm_st_X2_ofSecond wm_in_X2 wm_cd_X2_ofSecond) rfl rfl rfl (by decide +kernel) ⟨Nat.le_of_ble_eq_true rfl, Nat.le_of_ble_eq_true rfl⟩) ⟨fun a U g mk q => q, fun U hU hW => ⟨rfl, trivial⟩⟩ rfl rfl hl.1 rfl (lv_room (Nat.le_of_ble_eq_true rfl)) dX3_append_61 ⟨Nat.zero_le _, Nat.zero_le _⟩) (fun r3 er3 => ?_)
  rw [px_s2_n hκ] at er3
  subst er3
  refine lv_iload_n hx hb dX3_append_64 rfl (lv_at hl 4 rfl) ?_
  refine vp_callSi (W.runV (C := RX3) (b := ad 0) (As := [.int (nI (pv_s2 κ)), .int (nI β)]) (rest := [.int ((1 <<< ((nI n) &&& 31)) ||| (pp_pb aP (pv_s1 κ) α)), .int (nI n), .ref (ad 5)]) ⟨hx, hb, hml, hown, hts⟩ (ctX3_partsBelow l dC dI cI ad (upd aK n (nI κ)) (upd aA n (nI α)) (upd aB n (nI β)) (upd aC n (nI γ)) aP aV aN n (pv_s2 κ) β (by omega) h2) (cwV 2 hts (wA_wsV wm_ml_X3_74 wm_im_X3_partsBelow wm_se_X3_partsBelow wm_in_X3 wm_cd_X3_partsBelow) rfl rfl rfl (by decide +kernel) ⟨Nat.le_of_ble_eq_true rfl, Nat.le_of_ble_eq_true rfl⟩) ⟨fun a U g mk q => by obtain ⟨q0, qP, qK⟩ := q; exact ⟨q0, qP, va_K.moved (u := U) (U := U.calling g mk a) (Vm.Alike.refl U.vm) qK⟩, va_recv (q := (RX3, TX3, 8)) (q0 := 0) hK hP rfl rfl, fun U hU hW => ⟨rfl, by rw [hU]; exact hP, va_K.moved hW.alike hK⟩⟩ rfl rfl hl.1 rfl (lv_room (Nat.le_of_ble_eq_true rfl)) dX3_append_65 ⟨Nat.zero_le _, Nat.zero_le _⟩) (fun r4 er4 => ?_)
  subst er4
  refine lv_ior hx hb dX3_append_68 ?_
  refine lv_aload_n hx hb dX3_append_69 rfl (lv_at hl 1 rfl) ?_
  refine lv_iload_n hx hb dX3_append_70 rfl (lv_at hl 2 rfl) ?_
  refine vp_callSi (W.runS (As := [.int (nI κ)]) (rest := [.ref (ad 0), .int (((1 <<< ((nI n) &&& 31)) ||| (pp_pb aP (pv_s1 κ) α)) ||| (pp_pb aP (pv_s2 κ) β)), .int (nI n), .ref (ad 5)]) ⟨hx, hb, hml, hown, hts⟩ (ctX2_ofThird l (nI κ)) (va_cwS 1 hts (wA_wsS wm_ml_X3_60 wm_st_X2_ofThird wm_in_X2 wm_cd_X2_ofThird) rfl rfl rfl (by decide +kernel) ⟨Nat.le_of_ble_eq_true rfl, Nat.le_of_ble_eq_true rfl⟩) ⟨fun a U g mk q => q, fun U hU hW => ⟨rfl, trivial⟩⟩ rfl rfl hl.1 rfl (lv_room (Nat.le_of_ble_eq_true rfl)) dX3_append_71 ⟨Nat.zero_le _, Nat.zero_le _⟩) (fun r5 er5 => ?_)
  rw [px_s3_n hκ] at er5
  subst er5
  refine lv_iload hx hb dX3_append_74 (lv_at hl 5 rfl) ?_
  refine vp_callSi (W.runV (C := RX3) (b := ad 0) (As := [.int (nI (pv_s3 κ)), .int (nI γ)]) (rest := [.int (((1 <<< ((nI n) &&& 31)) ||| (pp_pb aP (pv_s1 κ) α)) ||| (pp_pb aP (pv_s2 κ) β)), .int (nI n), .ref (ad 5)]) ⟨hx, hb, hml, hown, hts⟩ (ctX3_partsBelow l dC dI cI ad (upd aK n (nI κ)) (upd aA n (nI α)) (upd aB n (nI β)) (upd aC n (nI γ)) aP aV aN n (pv_s3 κ) γ (by omega) h3) (cwV 2 hts (wA_wsV wm_ml_X3_74 wm_im_X3_partsBelow wm_se_X3_partsBelow wm_in_X3 wm_cd_X3_partsBelow) rfl rfl rfl (by decide +kernel) ⟨Nat.le_of_ble_eq_true rfl, Nat.le_of_ble_eq_true rfl⟩) ⟨fun a U g mk q => by obtain ⟨q0, qP, qK⟩ := q; exact ⟨q0, qP, va_K.moved (u := U) (U := U.calling g mk a) (Vm.Alike.refl U.vm) qK⟩, va_recv (q := (RX3, TX3, 8)) (q0 := 0) hK hP rfl rfl, fun U hU hW => ⟨rfl, by rw [hU]; exact hP, va_K.moved hW.alike hK⟩⟩ rfl rfl hl.1 rfl (lv_room (Nat.le_of_ble_eq_true rfl)) dX3_append_76 ⟨Nat.zero_le _, Nat.zero_le _⟩) (fun r6 er6 => ?_)
  subst er6
  refine lv_ior hx hb dX3_append_79 ?_
  refine xr_iast (t := n) (x := (((1 <<< ((nI n) &&& 31)) ||| (pp_pb aP (pv_s1 κ) α)) ||| (pp_pb aP (pv_s2 κ) β)) ||| (pp_pb aP (pv_s3 κ) γ)) hx hb hK hP hD hS 5 0 rfl rfl (by omega) (by omega) dX3_append_80 (fun H locs hP hD hS => ?_)
  have hP : va_P (dC, dI) vwCl [(ad 0, .inr (1, [.ref (ad 1), .ref (ad 2), .ref (ad 3), .ref (ad 4), .ref (ad 5), .ref (ad 6), .ref (ad 7), .int (nI n)])), (ad 1, .inl (cI, 12, .inl (upd aK n (nI κ)))), (ad 2, .inl (cI, 12, .inl (upd aA n (nI α)))), (ad 3, .inl (cI, 12, .inl (upd aB n (nI β)))), (ad 4, .inl (cI, 12, .inl (upd aC n (nI γ)))), (ad 5, .inl (cI, 12, .inl (upd aP n ((((1 <<< ((nI n) &&& 31)) ||| (pp_pb aP (pv_s1 κ) α)) ||| (pp_pb aP (pv_s2 κ) β)) ||| (pp_pb aP (pv_s3 κ) γ))))), (ad 6, .inl (cI, 2, .inl aV)), (ad 7, .inl (cI, 12, .inl aN))] H := hP
  have hD : va_D A9 [(ad 0, .inr (1, [.ref (ad 1), .ref (ad 2), .ref (ad 3), .ref (ad 4), .ref (ad 5), .ref (ad 6), .ref (ad 7), .int (nI n)])), (ad 1, .inl (cI, 12, .inl (upd aK n (nI κ)))), (ad 2, .inl (cI, 12, .inl (upd aA n (nI α)))), (ad 3, .inl (cI, 12, .inl (upd aB n (nI β)))), (ad 4, .inl (cI, 12, .inl (upd aC n (nI γ)))), (ad 5, .inl (cI, 12, .inl (upd aP n ((((1 <<< ((nI n) &&& 31)) ||| (pp_pb aP (pv_s1 κ) α)) ||| (pp_pb aP (pv_s2 κ) β)) ||| (pp_pb aP (pv_s3 κ) γ))))), (ad 6, .inl (cI, 2, .inl aV)), (ad 7, .inl (cI, 12, .inl aN))] := hD
  refine lv_aload_n hx hb dX3_append_81 rfl (lv_at hl 1 rfl) ?_
  refine lv_iload hx hb dX3_append_82 (lv_at hl 0 rfl) ?_
  have hP : va_P (dC, dI) vwCl (wT cI ad (upd aK n (nI κ)) (upd aA n (nI α)) (upd aB n (nI β)) (upd aC n (nI γ)) (upd aP n (pp_new aP n κ α β γ)) aV aN n) H := hP
  have hD : va_D A9 (wT cI ad (upd aK n (nI κ)) (upd aA n (nI α)) (upd aB n (nI β)) (upd aC n (nI γ)) (upd aP n (pp_new aP n κ α β γ)) aV aN n) := hD
  have hPc := hP.sub (ws' := (wT cI ad (upd aK n (nI κ)) (upd aA n (nI α)) (upd aB n (nI β)) (upd aC n (nI γ)) (upd aP n (pp_new aP n κ α β γ)) aV aN n)) [0, 1, 2, 3, 4, 5, 6, 7] rfl
  have hDc := hD.sub (ws' := (wT cI ad (upd aK n (nI κ)) (upd aA n (nI α)) (upd aB n (nI β)) (upd aC n (nI γ)) (upd aP n (pp_new aP n κ α β γ)) aV aN n)) [0, 1, 2, 3, 4, 5, 6, 7] (by decide) rfl
  have hFc := va_free (wc := (wT cI ad (upd aK n (nI κ)) (upd aA n (nI α)) (upd aB n (nI β)) (upd aC n (nI γ)) (upd aP n (pp_new aP n κ α β γ)) aV aN n)) hD hS hA [0, 1, 2, 3, 4, 5, 6, 7] rfl
  refine va_callv (va_runV (C := RX3) (b := ad 0) (As := [.int (nI n)]) (rest := []) ⟨hx, hb, hml, hown, hts⟩ (ctX3_noteVariables l dC dI cI ad (upd aK n (nI κ)) (upd aA n (nI α)) (upd aB n (nI β)) (upd aC n (nI γ)) (upd aP n (pp_new aP n κ α β γ)) aV aN n H.size n κ α hn hκ hα pk_us pk_us) (cwV 1 hts (wA_wsV wm_ml_X3_78 wm_im_X3_noteVariables wm_se_X3_noteVariables wm_in_X3 wm_cd_X3_noteVariables) rfl rfl rfl (by decide +kernel) ⟨Nat.le_of_ble_eq_true rfl, Nat.le_of_ble_eq_true rfl⟩) ⟨fun a U g mk q => by obtain ⟨q0, q1, qP, qK, qD⟩ := q; exact ⟨q0, q1, qP, va_K.moved (u := U) (U := U.calling g mk a) (Vm.Alike.refl U.vm) qK, qD⟩, va_recv (q := (RX3, TX3, 8)) (q0 := 0) hK hP rfl rfl, fun U hU hW => ⟨rfl, by rw [hU], by rw [hU]; exact hPc, va_K.moved hW.alike hK, hDc.weaken (fun _ _ _ _ => trivial)⟩⟩ rfl rfl hl.1 rfl (lv_room (Nat.le_of_ble_eq_true rfl)) dX3_append_84 ⟨Nat.zero_le _, Nat.zero_le _⟩) hS (fun q _ h => hFc q h) hFc (fun u t8 H1 locs ht8 hvm8 er7 hB hz1 hk1 hS => ?_)
  obtain ⟨hP1, hK1, hD1⟩ := hB
  rw [ht8] at hP1
  obtain ⟨hP, hD⟩ := va_join (wr := []) (w1 := [(ad 0, .inr (1, [.ref (ad 1), .ref (ad 2), .ref (ad 3), .ref (ad 4), .ref (ad 5), .ref (ad 6), .ref (ad 7), .int (nI n)])), (ad 1, .inl (cI, 12, .inl (upd aK n (nI κ)))), (ad 2, .inl (cI, 12, .inl (upd aA n (nI α)))), (ad 3, .inl (cI, 12, .inl (upd aB n (nI β)))), (ad 4, .inl (cI, 12, .inl (upd aC n (nI γ)))), (ad 5, .inl (cI, 12, .inl (upd aP n ((((1 <<< ((nI n) &&& 31)) ||| (pp_pb aP (pv_s1 κ) α)) ||| (pp_pb aP (pv_s2 κ) β)) ||| (pp_pb aP (pv_s3 κ) γ))))), (ad 6, .inl (cI, 2, .inl (pc_nv (upd aP n (pp_new aP n κ α β γ)) aV n κ α 2))), (ad 7, .inl (cI, 12, .inl aN))]) hP hD [0, 1, 2, 3, 4, 5, 6, 7] [] rfl rfl (by decide) (by decide) hk1 hFc hP1 hD1
  clear hPc hDc hFc hP1 hK1 hD1 hk1 hz1
  generalize H1 = H at hP hS ⊢
  have hP : va_P (dC, dI) vwCl [(ad 0, .inr (1, [.ref (ad 1), .ref (ad 2), .ref (ad 3), .ref (ad 4), .ref (ad 5), .ref (ad 6), .ref (ad 7), .int (nI n)])), (ad 1, .inl (cI, 12, .inl (upd aK n (nI κ)))), (ad 2, .inl (cI, 12, .inl (upd aA n (nI α)))), (ad 3, .inl (cI, 12, .inl (upd aB n (nI β)))), (ad 4, .inl (cI, 12, .inl (upd aC n (nI γ)))), (ad 5, .inl (cI, 12, .inl (upd aP n ((((1 <<< ((nI n) &&& 31)) ||| (pp_pb aP (pv_s1 κ) α)) ||| (pp_pb aP (pv_s2 κ) β)) ||| (pp_pb aP (pv_s3 κ) γ))))), (ad 6, .inl (cI, 2, .inl (pc_nv (upd aP n (pp_new aP n κ α β γ)) aV n κ α 2))), (ad 7, .inl (cI, 12, .inl aN))] H := hP
  have hD : va_D A9 [(ad 0, .inr (1, [.ref (ad 1), .ref (ad 2), .ref (ad 3), .ref (ad 4), .ref (ad 5), .ref (ad 6), .ref (ad 7), .int (nI n)])), (ad 1, .inl (cI, 12, .inl (upd aK n (nI κ)))), (ad 2, .inl (cI, 12, .inl (upd aA n (nI α)))), (ad 3, .inl (cI, 12, .inl (upd aB n (nI β)))), (ad 4, .inl (cI, 12, .inl (upd aC n (nI γ)))), (ad 5, .inl (cI, 12, .inl (upd aP n ((((1 <<< ((nI n) &&& 31)) ||| (pp_pb aP (pv_s1 κ) α)) ||| (pp_pb aP (pv_s2 κ) β)) ||| (pp_pb aP (pv_s3 κ) γ))))), (ad 6, .inl (cI, 2, .inl (pc_nv (upd aP n (pp_new aP n κ α β γ)) aV n κ α 2))), (ad 7, .inl (cI, 12, .inl aN))] := hD
  refine lv_aload_n hx hb dX3_append_87 rfl (lv_at hl 1 rfl) ?_
  refine lv_dup hx hb dX3_append_88 rfl ?_
  refine va_get (D := (dC, dI)) (ci := 1) (v := .int (nI n)) (C := RX3) (T := TX3) (N := 8) hx hb hts (fun w h => List.mem_cons_of_mem _ (wf_X3 w h)) hown hK hP 0 rfl rfl 7 (by decide) (hts _ (List.mem_cons_of_mem _ wm_fl_X3_33)) (fun _ h9 => h9) rfl dX3_append_89 ?_
  refine lv_iconst (v := 1) hx hb dX3_append_92 (by decide) ?_
  refine lv_iadd hx hb dX3_append_93 ?_
  refine lv_topi (fun y9 e9 => ?_)
  rw [nI_1] at e9
  subst e9
  refine va_put (D := (dC, dI)) (ci := 1) (v := .int (nI (n + 1))) (ty := .int) (C := RX3) (T := TX3) (N := 8) hx hb hts (fun w h => List.mem_cons_of_mem _ (wf_X3 w h)) tyX3 tyX3_ok nmX3 hown hK hP hD hS 0 rfl rfl 7 (by decide) (hts _ (List.mem_cons_of_mem _ wm_fl_X3_33)) (fun _ h9 => h9) rfl (by decide +kernel) rfl rfl (Nat.le_of_ble_eq_true rfl) dX3_append_94 (fun H locs hP hD hS => ?_)
  have hP : va_P (dC, dI) vwCl [(ad 0, .inr (1, [.ref (ad 1), .ref (ad 2), .ref (ad 3), .ref (ad 4), .ref (ad 5), .ref (ad 6), .ref (ad 7), .int (nI (n + 1))])), (ad 1, .inl (cI, 12, .inl (upd aK n (nI κ)))), (ad 2, .inl (cI, 12, .inl (upd aA n (nI α)))), (ad 3, .inl (cI, 12, .inl (upd aB n (nI β)))), (ad 4, .inl (cI, 12, .inl (upd aC n (nI γ)))), (ad 5, .inl (cI, 12, .inl (upd aP n ((((1 <<< ((nI n) &&& 31)) ||| (pp_pb aP (pv_s1 κ) α)) ||| (pp_pb aP (pv_s2 κ) β)) ||| (pp_pb aP (pv_s3 κ) γ))))), (ad 6, .inl (cI, 2, .inl (pc_nv (upd aP n (pp_new aP n κ α β γ)) aV n κ α 2))), (ad 7, .inl (cI, 12, .inl aN))] H := hP
  have hD : va_D A9 [(ad 0, .inr (1, [.ref (ad 1), .ref (ad 2), .ref (ad 3), .ref (ad 4), .ref (ad 5), .ref (ad 6), .ref (ad 7), .int (nI (n + 1))])), (ad 1, .inl (cI, 12, .inl (upd aK n (nI κ)))), (ad 2, .inl (cI, 12, .inl (upd aA n (nI α)))), (ad 3, .inl (cI, 12, .inl (upd aB n (nI β)))), (ad 4, .inl (cI, 12, .inl (upd aC n (nI γ)))), (ad 5, .inl (cI, 12, .inl (upd aP n ((((1 <<< ((nI n) &&& 31)) ||| (pp_pb aP (pv_s1 κ) α)) ||| (pp_pb aP (pv_s2 κ) β)) ||| (pp_pb aP (pv_s3 κ) γ))))), (ad 6, .inl (cI, 2, .inl (pc_nv (upd aP n (pp_new aP n κ α β γ)) aV n κ α 2))), (ad 7, .inl (cI, 12, .inl aN))] := hD
  refine lv_iload hx hb dX3_append_97 (lv_at hl 0 rfl) ?_
  exact W.iret (v := nI n) hx hb hr (fun t9 ht9 hW9 => ⟨⟨nI n, (), rfl, rfl, by rw [ht9]; exact hP, va_K.moved hW9.alike hK, hD⟩, hS.F ht9⟩) hS.2.2 dX3_append_99
end TT3
