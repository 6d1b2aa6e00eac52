def pq_arg (k : Nat → Nat) (n : Nat) (kd a b c : Int32) (κ α β γ : Nat) : Prop := κ < 20 ∧ kd = nI κ ∧ α < 32 ∧ a = nI α ∧ pv_fit k n (pv_s1 κ) α ∧ β < 32 ∧ (pv_s2 κ ≠ 0 → b = nI β) ∧ pv_fit k n (pv_s2 κ) β ∧ γ < 32 ∧ (pv_s3 κ ≠ 0 → c = nI γ) ∧ pv_fit k n (pv_s3 κ) γ
theorem pq_arg_of {k : Nat → Nat} {n : Nat} {kd a b c : Int32} (hn : n ≤ 12) (h : pq_alw k n kd a b c) : ∃ κ α β γ, pq_arg k n kd a b c κ α β γ := by
  obtain ⟨h1, h2, h3, h4, h5, h6, h7, h8, h9, h10, h11⟩ := pq_facts hn h
  exact ⟨_, _, _, _, h1, h2, h4, h3, h5, h7, h6, h8, h10, h9, h11⟩
theorem pq_arg_alw {k : Nat → Nat} {n : Nat} {kd a b c : Int32} {κ α β γ : Nat} (h : pq_arg k n kd a b c κ α β γ) : pq_alw k n kd a b c := by
  obtain ⟨h1, h2, h3, h4, h5, h6, h7, h8, h9, h10, h11⟩ := h
  have key : ∀ (s p : Nat) (q : Int32), s ≤ 4 → (s ≠ 0 → q = nI p) → pv_fit k n s p → pq_fit k n s q := by
    intro s p q hs hq hf
    obtain ⟨f0, f1, f2, f3, f4⟩ := hf
    rcases (show s = 0 ∨ s = 1 ∨ s = 2 ∨ s = 3 ∨ s = 4 by omega) with rfl | rfl | rfl | rfl | rfl
    · exact Or.inl rfl
    · exact Or.inr (Or.inl ⟨rfl, p, f1 rfl, hq (by omega)⟩)
    · exact Or.inr (Or.inr (Or.inl ⟨rfl, p, f2 rfl, hq (by omega)⟩))
    · exact Or.inr (Or.inr (Or.inr (Or.inl ⟨rfl, p, (f3 rfl).1, hq (by omega), (f3 rfl).2⟩)))
    · exact Or.inr (Or.inr (Or.inr (Or.inr ⟨rfl, p, (f4 rfl).1, hq (by omega), (f4 rfl).2⟩)))
  have s1 := pv_s1_le κ
  have s2 := pv_s2_le κ
  have s3 := pv_s3_le κ
  exact ⟨κ, h1, h2, key _ α _ (by omega) (fun _ => h4) h5, key _ β _ (by omega) h7 h8, key _ γ _ (by omega) h10 h11⟩
theorem pm_nms_v {κ : Nat} (h : κ < 20) : ∃ ν, pm_nms (nI κ) = nI ν ∧ ν < 4 ∧ (ν < 2 ↔ pv_s2 κ = 0) ∧ (ν < 3 ↔ pv_s3 κ = 0) := by
  rcases (show κ = 0 ∨ κ = 1 ∨ κ = 2 ∨ κ = 3 ∨ κ = 4 ∨ κ = 5 ∨ κ = 6 ∨ κ = 7 ∨ κ = 8 ∨ κ = 9 ∨ κ = 10 ∨ κ = 11 ∨ κ = 12 ∨ κ = 13 ∨ κ = 14 ∨ κ = 15 ∨ κ = 16 ∨ κ = 17 ∨ κ = 18 ∨ κ = 19 by omega) with rfl | rfl | rfl | rfl | rfl | rfl | rfl | rfl | rfl | rfl | rfl | rfl | rfl | rfl | rfl | rfl | rfl | rfl | rfl | rfl <;> first | exact ⟨1, by decide +kernel, by omega, by decide, by decide⟩ | exact ⟨2, by decide +kernel, by omega, by decide, by decide⟩ | exact ⟨3, by decide +kernel, by omega, by decide, by decide⟩
section MD5
variable (l : Launch) (dC : Nat → ClassId) (dI : Nat → Nat → Nat) (cI : ClassId) (ad : Nat → Nat) (aK aA aB aC aM aS aF aN : Nat → Int32) (th ck fo : Int32) (n mm lv : Nat)
set_option maxHeartbeats 4000000 in
set_option maxRecDepth 100000 in
theorem ctX5_term0 (sz : Nat) (hn : n ≤ 12) (fk : Nat → Nat) (hk : ∀ t, t < n → aK t = nI (fk t)) (hk2 : ∀ t, t < n → fk t < 20) (kd a0 b0 c0 : Int32) (hno : ¬ pq_alw fk n kd a0 b0 c0) : Met l yX5_term wsX5_term ({ frames := 3, cells := 0, slots := 0, locals := 66 }) (va_Pc [.ref (ad 0), .int kd, .int a0, .int b0, .int c0] (fun U => U.heap.size = sz ∧ va_P (dC, dI) vwCl (wM cI ad aK aA aB aC aM aS aF aN th ck fo n mm lv) U.heap ∧ va_K (dC, dI) vwCl [(cI, .int)] U ∧ va_D (fun _ => True) (wM cI ad aK aA aB aC aM aS aF aN th ck fo n mm lv))) (va_Qi (fun r _ => r = 0) (fun (u : Unit) t9 => va_P (dC, dI) vwCl (wM cI ad aK aA aB aC aM aS aF aN 1 ck fo n mm lv) t9.heap ∧ va_K (dC, dI) vwCl [(cI, .int)] t9 ∧ va_D (va_A (wM cI ad aK aA aB aC aM aS aF aN th ck fo n mm lv) sz) (wM cI ad aK aA aB aC aM aS aF aN 1 ck fo n mm lv)) (va_A (wM cI ad aK aA aB aC aM aS aF aN th ck fo n mm lv) sz)) 0 0 (va_A (wM cI ad aK aA aB aC aM aS aF aN th ck fo n mm lv) sz) := by
  refine Met.ofW (cc := cX5_term) (maxL := 7) (ret := (some .int)) (by decide) rfl ?_
  intro p e s m args below meth c s₁ B hml hv
  obtain ⟨rfl, hsz, hP, hK, hD0⟩ := hv
  subst hsz
  have hx := B.exec
  have hb := B.bytes
  have hr := B.returns
  have hts := atoms_spec (ws := wsX5_term) B.pre
  have hown : s.vm.findClass RX5 = some m.cls := findClass_of_methodNamed B.named
  have hlocks := B.notSynchronized
  have hl := lv_entry ([.ref (ad 0), .int kd, .int a0, .int b0, .int c0]) (n := 7) (Nat.le_of_ble_eq_true rfl)
  rw [lg_entry_eq]
  generalize (lg_sl ([.ref (ad 0), .int kd, .int a0, .int b0, .int c0]) ++ List.replicate (7 - (lg_sl ([.ref (ad 0), .int kd, .int a0, .int b0, .int c0])).length) Slot.unset).toArray = ls at hl ⊢
  have hl : lv_has ls 7 [(0, .ref (ad 0)), (1, .int kd), (2, .int a0), (3, .int b0), (4, .int c0)] := hl
  have hD := hD0.self (sz := s.heap.size)
  generalize hAe : va_A (wM cI ad aK aA aB aC aM aS aF aN th ck fo n mm lv) s.heap.size = A9 at hD ⊢
  have hA : ∀ q : Nat, s.heap.size ≤ q → A9 q := fun q h => by rw [← hAe]; exact Or.inr h
  have hS : va_S A9 s.heap s.heap [] := va_S.rf
  refine lv_aload_n hx hb dX5_term_0 rfl (lv_at hl 0 rfl) ?_
  refine lv_aload_n hx hb dX5_term_1 rfl (lv_at hl 0 rfl) ?_
  refine lv_iload_n hx hb dX5_term_2 rfl (lv_at hl 1 rfl) ?_
  refine lv_iload_n hx hb dX5_term_3 rfl (lv_at hl 2 rfl) ?_
  refine lv_iload_n hx hb dX5_term_4 rfl (lv_at hl 3 rfl) ?_
  refine lv_iload hx hb dX5_term_5 (lv_at hl 4 rfl) ?_
  refine vp_callSi (W.runV (C := RX5) (b := ad 0) (As := [.int kd, .int a0, .int b0, .int c0]) (rest := [.ref (ad 0)]) ⟨hx, hb, hml, hown, hts⟩ (ctX5_fits l dC dI cI ad aK aA aB aC aM aS aF aN th ck fo n mm lv hn fk hk hk2 kd a0 b0 c0) (cwV 4 hts (wA_wsV wm_ml_X5_91 wm_im_X5_fits wm_se_X5_fits wm_in_X5 wm_cd_X5_fits) rfl rfl rfl (by decide +kernel) ⟨Nat.le_of_ble_eq_true rfl, Nat.le_of_ble_eq_true rfl⟩) ⟨fun a U g mk q => by obtain ⟨q0, qP, qK⟩ := q; exact ⟨q0, qP, va_K.moved (u := U) (U := U.calling g mk a) (Vm.Alike.refl U.vm) qK⟩, va_recv (q := (RX5, TX5, 14)) (q0 := 0) hK hP rfl rfl, fun U hU hW => ⟨rfl, by rw [hU]; exact hP, va_K.moved hW.alike hK⟩⟩ rfl rfl hl.1 rfl (lv_room (Nat.le_of_ble_eq_true rfl)) dX5_term_7 ⟨Nat.zero_le _, Nat.zero_le _⟩) (fun r1 er1 => ?_)
  rcases er1 with ⟨-, hy⟩ | ⟨rfl, -⟩
  · exact absurd hy hno
  refine lv_if_eq (tgt := 17) hx hb dX5_term_10 (by decide) (fun _ => ?_) (fun h2 => absurd (by decide) h2)
  refine lv_iconst (v := 1) hx hb dX5_term_17 (by decide) ?_
  refine va_put (D := (dC, dI)) (ci := 3) (v := .int 1) (ty := .int) (C := RX5) (T := TX5) (N := 14) hx hb hts (fun w h => List.mem_cons_of_mem _ (wf_X5 w h)) tyX5 tyX5_ok nmX5 hown hK hP hD hS 0 rfl rfl 0 (by decide) (hts _ (List.mem_cons_of_mem _ wm_fl_X5_34)) (fun _ h9 => h9) rfl (by decide +kernel) rfl rfl (Nat.le_of_ble_eq_true rfl) dX5_term_18 (fun H locs hP hD hS => ?_)
  have hP : va_P (dC, dI) vwCl [(ad 0, .inr (3, [.int 1, .int (nI n), .ref (ad 1), .ref (ad 2), .ref (ad 3), .ref (ad 4), .int (nI mm), .ref (ad 5), .int (nI lv), .ref (ad 6), .int ck, .int fo, .ref (ad 7), .ref (ad 8)])), (ad 1, .inl (cI, 12, .inl aK)), (ad 2, .inl (cI, 12, .inl aA)), (ad 3, .inl (cI, 12, .inl aB)), (ad 4, .inl (cI, 12, .inl aC)), (ad 5, .inl (cI, 20, .inl aM)), (ad 6, .inl (cI, 6, .inl aS)), (ad 7, .inl (cI, 2, .inl aF)), (ad 8, .inl (cI, 12, .inl aN))] H := hP
  have hD : va_D A9 [(ad 0, .inr (3, [.int 1, .int (nI n), .ref (ad 1), .ref (ad 2), .ref (ad 3), .ref (ad 4), .int (nI mm), .ref (ad 5), .int (nI lv), .ref (ad 6), .int ck, .int fo, .ref (ad 7), .ref (ad 8)])), (ad 1, .inl (cI, 12, .inl aK)), (ad 2, .inl (cI, 12, .inl aA)), (ad 3, .inl (cI, 12, .inl aB)), (ad 4, .inl (cI, 12, .inl aC)), (ad 5, .inl (cI, 20, .inl aM)), (ad 6, .inl (cI, 6, .inl aS)), (ad 7, .inl (cI, 2, .inl aF)), (ad 8, .inl (cI, 12, .inl aN))] := hD
  refine lv_aload_n hx hb dX5_term_21 rfl (lv_at hl 0 rfl) ?_
  refine va_get (D := (dC, dI)) (ci := 3) (v := .int 1) (C := RX5) (T := TX5) (N := 14) hx hb hts (fun w h => List.mem_cons_of_mem _ (wf_X5 w h)) hown hK hP 0 rfl rfl 0 (by decide) (hts _ (List.mem_cons_of_mem _ wm_fl_X5_34)) (fun _ h9 => h9) rfl dX5_term_22 ?_
  refine lv_if_le (tgt := 30) hx hb dX5_term_25 (by decide) (fun h3 => absurd h3 (by decide)) (fun _ => ?_)
  refine lv_iconst (v := 0) hx hb dX5_term_28 (by decide) ?_
  exact W.iret (v := 0) hx hb hr (fun t9 ht9 hW9 => ⟨⟨0, (), rfl, rfl, by rw [ht9]; exact hP, va_K.moved hW9.alike hK, hD⟩, hS.F ht9⟩) hS.2.2 dX5_term_29
set_option maxHeartbeats 4000000 in
set_option maxRecDepth 100000 in
theorem ctX5_term1 (sz : Nat) (hn : n ≤ 12) (fk fa fb fc : Nat → Nat) (hk : ∀ t, t < n → aK t = nI (fk t)) (ha : ∀ t, t < n → aA t = nI (fa t)) (hb2 : ∀ t, t < n → pv_s2 (fk t) ≠ 0 → aB t = nI (fb t)) (hc2 : ∀ t, t < n → pv_s3 (fk t) ≠ 0 → aC t = nI (fc t)) (hT : pv_TI fk fa fb fc n) (kd a0 b0 c0 : Int32) (κ α β γ : Nat) (harg : pq_arg fk n kd a0 b0 c0 κ α β γ) : Met l yX5_term wsX5_term ({ frames := 3, cells := 0, slots := 0, locals := 66 }) (va_Pc [.ref (ad 0), .int kd, .int a0, .int b0, .int c0] (fun U => U.heap.size = sz ∧ va_P (dC, dI) vwCl (wM cI ad aK aA aB aC aM aS aF aN th ck fo n mm lv) U.heap ∧ va_K (dC, dI) vwCl [(cI, .int)] U ∧ va_D (fun _ => True) (wM cI ad aK aA aB aC aM aS aF aN th ck fo n mm lv))) (va_Qi (fun r u => (∃ t, pq_fd fk fa fb fc κ α β γ n 0 = some t ∧ r = nI t ∧ u = (0, aK, aA, aB, aC, n)) ∨ (pq_fd fk fa fb fc κ α β γ n 0 = none ∧ n = 12 ∧ r = 0 ∧ u = (2, aK, aA, aB, aC, n)) ∨ (pq_fd fk fa fb fc κ α β γ n 0 = none ∧ n < 12 ∧ r = nI n ∧ u = (0, upd aK n kd, upd aA n a0, upd aB n b0, upd aC n c0, n + 1))) (fun (u : Int32 × (Nat → Int32) × (Nat → Int32) × (Nat → Int32) × (Nat → Int32) × Nat) t9 => va_P (dC, dI) vwCl (wM cI ad (u.2.1) (u.2.2.1) (u.2.2.2.1) (u.2.2.2.2.1) aM aS aF aN (u.1) ck fo (u.2.2.2.2.2) mm lv) t9.heap ∧ va_K (dC, dI) vwCl [(cI, .int)] t9 ∧ va_D (va_A (wM cI ad aK aA aB aC aM aS aF aN th ck fo n mm lv) sz) (wM cI ad (u.2.1) (u.2.2.1) (u.2.2.2.1) (u.2.2.2.2.1) aM aS aF aN (u.1) ck fo (u.2.2.2.2.2) mm lv)) (va_A (wM cI ad aK aA aB aC aM aS aF aN th ck fo n mm lv) sz)) 0 0 (va_A (wM cI ad aK aA aB aC aM aS aF aN th ck fo n mm lv) sz) := by
  refine Met.ofW (cc := cX5_term) (maxL := 7) (ret := (some .int)) (by decide) rfl ?_
  intro p e s m args below meth c s₁ B hml hv
  obtain ⟨rfl, hsz, hP, hK, hD0⟩ := hv
  subst hsz
  have hx := B.exec
  have hb := B.bytes
  have hr := B.returns
  have hts := atoms_spec (ws := wsX5_term) B.pre
  have hown : s.vm.findClass RX5 = some m.cls := findClass_of_methodNamed B.named
  have hlocks := B.notSynchronized
  have hl := lv_entry ([.ref (ad 0), .int kd, .int a0, .int b0, .int c0]) (n := 7) (Nat.le_of_ble_eq_true rfl)
  rw [lg_entry_eq]
  generalize (lg_sl ([.ref (ad 0), .int kd, .int a0, .int b0, .int c0]) ++ List.replicate (7 - (lg_sl ([.ref (ad 0), .int kd, .int a0, .int b0, .int c0])).length) Slot.unset).toArray = ls at hl ⊢
  have hl : lv_has ls 7 [(0, .ref (ad 0)), (1, .int kd), (2, .int a0), (3, .int b0), (4, .int c0)] := hl
  have hD := hD0.self (sz := s.heap.size)
  generalize hAe : va_A (wM cI ad aK aA aB aC aM aS aF aN th ck fo n mm lv) s.heap.size = A9 at hD ⊢
  have hA : ∀ q : Nat, s.heap.size ≤ q → A9 q := fun q h => by rw [← hAe]; exact Or.inr h
  have hS : va_S A9 s.heap s.heap [] := va_S.rf
  have halw := pq_arg_alw harg
  obtain ⟨hκ, ekd, hα, ea0, f1, hβ, eb0, f2, hγ, ec0, f3⟩ := harg
  subst ekd
  subst ea0
  refine lv_aload_n hx hb dX5_term_0 rfl (lv_at hl 0 rfl) ?_
  refine lv_aload_n hx hb dX5_term_1 rfl (lv_at hl 0 rfl) ?_
  refine lv_iload_n hx hb dX5_term_2 rfl (lv_at hl 1 rfl) ?_
  refine lv_iload_n hx hb dX5_term_3 rfl (lv_at hl 2 rfl) ?_
  refine lv_iload_n hx hb dX5_term_4 rfl (lv_at hl 3 rfl) ?_
  refine lv_iload hx hb dX5_term_5 (lv_at hl 4 rfl) ?_
  refine vp_callSi (W.runV (C := RX5) (b := ad 0) (As := [.int (nI κ), .int (nI α), .int b0, .int c0]) (rest := [.ref (ad 0)]) ⟨hx, hb, hml, hown, hts⟩ (ctX5_fits l dC dI cI ad aK aA aB aC aM aS aF aN th ck fo n mm lv hn fk hk (fun t ht => pt_k20 hT ht) (nI κ) (nI α) b0 c0) (cwV 4 hts (wA_wsV wm_ml_X5_91 wm_im_X5_fits wm_se_X5_fits wm_in_X5 wm_cd_X5_fits) rfl rfl rfl (by decide +kernel) ⟨Nat.le_of_ble_eq_true rfl, Nat.le_of_ble_eq_true rfl⟩) ⟨fun a U g mk q => by obtain ⟨q0, qP, qK⟩ := q; exact ⟨q0, qP, va_K.moved (u := U) (U := U.calling g mk a) (Vm.Alike.refl U.vm) qK⟩, va_recv (q := (RX5, TX5, 14)) (q0 := 0) hK hP rfl rfl, fun U hU hW => ⟨rfl, by rw [hU]; exact hP, va_K.moved hW.alike hK⟩⟩ rfl rfl hl.1 rfl (lv_room (Nat.le_of_ble_eq_true rfl)) dX5_term_7 ⟨Nat.zero_le _, Nat.zero_le _⟩) (fun r1 er1 => ?_)
  rcases Or.symm er1 with ⟨-, hy⟩ | ⟨rfl, -⟩
  · exact absurd halw hy
  refine lv_if_eq (tgt := 17) hx hb dX5_term_10 (by decide) (fun h2 => absurd h2 (by decide)) (fun _ => ?_)
  refine lv_iconst (v := 0) hx hb dX5_term_13 (by decide) ?_
  refine lv_goto (tgt := 18) hx hb dX5_term_14 (by decide) ?_
  refine va_put (D := (dC, dI)) (ci := 3) (v := .int 0) (ty := .int) (C := RX5) (T := TX5) (N := 14) hx hb hts (fun w h => List.mem_cons_of_mem _ (wf_X5 w h)) tyX5 tyX5_ok nmX5 hown hK hP hD hS 0 rfl rfl 0 (by decide) (hts _ (List.mem_cons_of_mem _ wm_fl_X5_34)) (fun _ h9 => h9) rfl (by decide +kernel) rfl rfl (Nat.le_of_ble_eq_true rfl) dX5_term_18 (fun H locs hP hD hS => ?_)
  have hP : va_P (dC, dI) vwCl [(ad 0, .inr (3, [.int 0, .int (nI n), .ref (ad 1), .ref (ad 2), .ref (ad 3), .ref (ad 4), .int (nI mm), .ref (ad 5), .int (nI lv), .ref (ad 6), .int ck, .int fo, .ref (ad 7), .ref (ad 8)])), (ad 1, .inl (cI, 12, .inl aK)), (ad 2, .inl (cI, 12, .inl aA)), (ad 3, .inl (cI, 12, .inl aB)), (ad 4, .inl (cI, 12, .inl aC)), (ad 5, .inl (cI, 20, .inl aM)), (ad 6, .inl (cI, 6, .inl aS)), (ad 7, .inl (cI, 2, .inl aF)), (ad 8, .inl (cI, 12, .inl aN))] H := hP
  have hD : va_D A9 [(ad 0, .inr (3, [.int 0, .int (nI n), .ref (ad 1), .ref (ad 2), .ref (ad 3), .ref (ad 4), .int (nI mm), .ref (ad 5), .int (nI lv), .ref (ad 6), .int ck, .int fo, .ref (ad 7), .ref (ad 8)])), (ad 1, .inl (cI, 12, .inl aK)), (ad 2, .inl (cI, 12, .inl aA)), (ad 3, .inl (cI, 12, .inl aB)), (ad 4, .inl (cI, 12, .inl aC)), (ad 5, .inl (cI, 20, .inl aM)), (ad 6, .inl (cI, 6, .inl aS)), (ad 7, .inl (cI, 2, .inl aF)), (ad 8, .inl (cI, 12, .inl aN))] := hD
  refine lv_aload_n hx hb dX5_term_21 rfl (lv_at hl 0 rfl) ?_
  refine va_get (D := (dC, dI)) (ci := 3) (v := .int 0) (C := RX5) (T := TX5) (N := 14) hx hb hts (fun w h => List.mem_cons_of_mem _ (wf_X5 w h)) hown hK hP 0 rfl rfl 0 (by decide) (hts _ (List.mem_cons_of_mem _ wm_fl_X5_34)) (fun _ h9 => h9) rfl dX5_term_22 ?_
  refine lv_if_le (tgt := 30) hx hb dX5_term_25 (by decide) (fun _ => ?_) (fun h3 => absurd (by decide) h3)
  refine lv_iload_n hx hb dX5_term_30 rfl (lv_at hl 1 rfl) ?_
  refine vp_callSi (W.runS (As := [.int (nI κ)]) (rest := []) ⟨hx, hb, hml, hown, hts⟩ (ctX5_names l (nI κ)) (va_cwS 1 hts (wA_wsS wm_ml_X5_88 wm_st_X5_names wm_in_X5 wm_cd_X5_names) rfl rfl rfl (by decide +kernel) ⟨Nat.le_of_ble_eq_true rfl, Nat.le_of_ble_eq_true rfl⟩) ⟨fun a U g mk q => q, fun U hU hW => ⟨rfl, trivial⟩⟩ rfl rfl hl.1 rfl (lv_room (Nat.le_of_ble_eq_true rfl)) dX5_term_31 ⟨Nat.zero_le _, Nat.zero_le _⟩) (fun r4 er4 => ?_)
  obtain ⟨ν, eν, hν4, hν2, hν3⟩ := pm_nms_v hκ
  rw [eν] at er4
  subst er4
  refine lv_istore (lv' := [(5, .int (nI ν)), (0, .ref (ad 0)), (1, .int (nI κ)), (2, .int (nI α)), (3, .int b0), (4, .int c0)]) hx hb dX5_term_34 hl (by decide) rfl (fun ls hl => ?_)
  refine lv_iconst (v := nI 0) hx hb dX5_term_36 (by decide) ?_
  refine lv_istore (lv' := [(6, .int (nI 0)), (5, .int (nI ν)), (0, .ref (ad 0)), (1, .int (nI κ)), (2, .int (nI α)), (3, .int b0), (4, .int c0)]) hx hb dX5_term_37 hl (by decide) rfl (fun ls hl => ?_)
  have hl : lv_has ls 7 [(6, .int (nI 0)), (5, .int (nI ν)), (4, .int c0), (3, .int b0), (2, .int (nI α)), (1, .int (nI κ)), (0, .ref (ad 0))] := lv_sub hl [0, 1, 6, 5, 4, 3, 2] rfl
  refine xw_loop (pc := 39) (fun (t : Nat) => n - t) (fun (t : Nat) ls H9 locs9 => (t ≤ n ∧ pq_fd fk fa fb fc κ α β γ (n - t) t = pq_fd fk fa fb fc κ α β γ n 0) ∧ va_P (dC, dI) vwCl [(ad 0, .inr (3, [.int 0, .int (nI n), .ref (ad 1), .ref (ad 2), .ref (ad 3), .ref (ad 4), .int (nI mm), .ref (ad 5), .int (nI lv), .ref (ad 6), .int ck, .int fo, .ref (ad 7), .ref (ad 8)])), (ad 1, .inl (cI, 12, .inl aK)), (ad 2, .inl (cI, 12, .inl aA)), (ad 3, .inl (cI, 12, .inl aB)), (ad 4, .inl (cI, 12, .inl aC)), (ad 5, .inl (cI, 20, .inl aM)), (ad 6, .inl (cI, 6, .inl aS)), (ad 7, .inl (cI, 2, .inl aF)), (ad 8, .inl (cI, 12, .inl aN))] H9 ∧ va_D A9 [(ad 0, .inr (3, [.int 0, .int (nI n), .ref (ad 1), .ref (ad 2), .ref (ad 3), .ref (ad 4), .int (nI mm), .ref (ad 5), .int (nI lv), .ref (ad 6), .int ck, .int fo, .ref (ad 7), .ref (ad 8)])), (ad 1, .inl (cI, 12, .inl aK)), (ad 2, .inl (cI, 12, .inl aA)), (ad 3, .inl (cI, 12, .inl aB)), (ad 4, .inl (cI, 12, .inl aC)), (ad 5, .inl (cI, 20, .inl aM)), (ad 6, .inl (cI, 6, .inl aS)), (ad 7, .inl (cI, 2, .inl aF)), (ad 8, .inl (cI, 12, .inl aN))] ∧ va_S A9 s.heap H9 locs9 ∧ lv_has ls 7 [(6, .int (nI t)), (5, .int (nI ν)), (4, .int c0), (3, .int b0), (2, .int (nI α)), (1, .int (nI κ)), (0, .ref (ad 0))]) ?_ 0 ls _ _ ⟨⟨Nat.zero_le _, rfl⟩, hP, hD, hS, hl⟩
  clear hP hD hS hl
  intro t ls H locs ⟨⟨htn, hfd⟩, hP, hD, hS, hl⟩ ih
  refine lv_iload hx hb dX5_term_39 (lv_at hl 0 rfl) ?_
  refine lv_aload_n hx hb dX5_term_41 rfl (lv_at hl 6 rfl) ?_
  refine va_get (D := (dC, dI)) (ci := 3) (v := .int (nI n)) (C := RX5) (T := TX5) (N := 14) hx hb hts (fun w h => List.mem_cons_of_mem _ (wf_X5 w h)) hown hK hP 0 rfl rfl 1 (by decide) (hts _ (List.mem_cons_of_mem _ wm_fl_X5_76)) (fun _ h9 => h9) rfl dX5_term_42 ?_
  refine lv_icmp_ge (tgt := 114) hx hb dX5_term_45 (by decide) (fun h5 => ?_) (fun h5 => ?_)
  · skip
    have h5 : n ≤ t := (nI_leI (a := n) (b := t) (by omega) (by omega)).mp h5
    refine lv_aload_n hx hb dX5_term_114 rfl (lv_at hl 6 rfl) ?_
    refine lv_aload_n hx hb dX5_term_115 rfl (lv_at hl 6 rfl) ?_
    refine va_get (D := (dC, dI)) (ci := 3) (v := .int (nI n)) (C := RX5) (T := TX5) (N := 14) hx hb hts (fun w h => List.mem_cons_of_mem _ (wf_X5 w h)) hown hK hP 0 rfl rfl 1 (by decide) (hts _ (List.mem_cons_of_mem _ wm_fl_X5_76)) (fun _ h9 => h9) rfl dX5_term_116 ?_
    refine lv_bipush (v := nI 12) hx hb dX5_term_119 (by decide) ?_
    refine lv_icmp_ne (tgt := 128) hx hb dX5_term_121 (by decide) (fun h6 => ?_) (fun h6 => ?_)
    · skip
      have h6 : ¬ n = 12 := fun z => h6 ((nI_eq (a := n) (b := 12) (by omega) (by omega)).mpr z)
      refine lv_iconst (v := 0) hx hb dX5_term_128 (by decide) ?_
      refine va_put (D := (dC, dI)) (ci := 3) (v := .int 0) (ty := .int) (C := RX5) (T := TX5) (N := 14) hx hb hts (fun w h => List.mem_cons_of_mem _ (wf_X5 w h)) tyX5 tyX5_ok nmX5 hown hK hP hD hS 0 rfl rfl 0 (by decide) (hts _ (List.mem_cons_of_mem _ wm_fl_X5_34)) (fun _ h9 => h9) rfl (by decide +kernel) rfl rfl (Nat.le_of_ble_eq_true rfl) dX5_term_129 (fun H locs hP hD hS => ?_)
      have hP : va_P (dC, dI) vwCl [(ad 0, .inr (3, [.int 0, .int (nI n), .ref (ad 1), .ref (ad 2), .ref (ad 3), .ref (ad 4), .int (nI mm), .ref (ad 5), .int (nI lv), .ref (ad 6), .int ck, .int fo, .ref (ad 7), .ref (ad 8)])), (ad 1, .inl (cI, 12, .inl aK)), (ad 2, .inl (cI, 12, .inl aA)), (ad 3, .inl (cI, 12, .inl aB)), (ad 4, .inl (cI, 12, .inl aC)), (ad 5, .inl (cI, 20, .inl aM)), (ad 6, .inl (cI, 6, .inl aS)), (ad 7, .inl (cI, 2, .inl aF)), (ad 8, .inl (cI, 12, .inl aN))] H := hP
      have hD : va_D A9 [(ad 0, .inr (3, [.int 0, .int (nI n), .ref (ad 1), .ref (ad 2), .ref (ad 3), .ref (ad 4), .int (nI mm), .ref (ad 5), .int (nI lv), .ref (ad 6), .int ck, .int fo, .ref (ad 7), .ref (ad 8)])), (ad 1, .inl (cI, 12, .inl aK)), (ad 2, .inl (cI, 12, .inl aA)), (ad 3, .inl (cI, 12, .inl aB)), (ad 4, .inl (cI, 12, .inl aC)), (ad 5, .inl (cI, 20, .inl aM)), (ad 6, .inl (cI, 6, .inl aS)), (ad 7, .inl (cI, 2, .inl aF)), (ad 8, .inl (cI, 12, .inl aN))] := hD
      refine lv_aload_n hx hb dX5_term_132 rfl (lv_at hl 6 rfl) ?_
      refine va_get (D := (dC, dI)) (ci := 3) (v := .int 0) (C := RX5) (T := TX5) (N := 14) hx hb hts (fun w h => List.mem_cons_of_mem _ (wf_X5 w h)) hown hK hP 0 rfl rfl 0 (by decide) (hts _ (List.mem_cons_of_mem _ wm_fl_X5_34)) (fun _ h9 => h9) rfl dX5_term_133 ?_
      refine lv_if_le (tgt := 141) hx hb dX5_term_136 (by decide) (fun _ => ?_) (fun h7 => absurd (by decide) h7)
      refine lv_aload_n hx hb dX5_term_141 rfl (lv_at hl 6 rfl) ?_
      refine va_get (D := (dC, dI)) (ci := 3) (v := .ref (ad 1)) (C := RX5) (T := TX5) (N := 14) hx hb hts (fun w h => List.mem_cons_of_mem _ (wf_X5 w h)) hown hK hP 0 rfl rfl 2 (by decide) (hts _ (List.mem_cons_of_mem _ wm_fl_X5_7)) (fun _ h9 => h9) rfl dX5_term_142 ?_
      refine lv_aload_n hx hb dX5_term_145 rfl (lv_at hl 6 rfl) ?_
      refine va_get (D := (dC, dI)) (ci := 3) (v := .int (nI n)) (C := RX5) (T := TX5) (N := 14) hx hb hts (fun w h => List.mem_cons_of_mem _ (wf_X5 w h)) hown hK hP 0 rfl rfl 1 (by decide) (hts _ (List.mem_cons_of_mem _ wm_fl_X5_76)) (fun _ h9 => h9) rfl dX5_term_146 ?_
      refine lv_iload_n hx hb dX5_term_149 rfl (lv_at hl 5 rfl) ?_
      refine xr_iast (t := n) (x := nI κ) hx hb hK hP hD hS 1 0 rfl rfl (by omega) (by omega) dX5_term_150 (fun H locs hP hD hS => ?_)
      have hP : va_P (dC, dI) vwCl [(ad 0, .inr (3, [.int 0, .int (nI n), .ref (ad 1), .ref (ad 2), .ref (ad 3), .ref (ad 4), .int (nI mm), .ref (ad 5), .int (nI lv), .ref (ad 6), .int ck, .int fo, .ref (ad 7), .ref (ad 8)])), (ad 1, .inl (cI, 12, .inl (upd aK n (nI κ)))), (ad 2, .inl (cI, 12, .inl aA)), (ad 3, .inl (cI, 12, .inl aB)), (ad 4, .inl (cI, 12, .inl aC)), (ad 5, .inl (cI, 20, .inl aM)), (ad 6, .inl (cI, 6, .inl aS)), (ad 7, .inl (cI, 2, .inl aF)), (ad 8, .inl (cI, 12, .inl aN))] H := hP
      have hD : va_D A9 [(ad 0, .inr (3, [.int 0, .int (nI n), .ref (ad 1), .ref (ad 2), .ref (ad 3), .ref (ad 4), .int (nI mm), .ref (ad 5), .int (nI lv), .ref (ad 6), .int ck, .int fo, .ref (ad 7), .ref (ad 8)])), (ad 1, .inl (cI, 12, .inl (upd aK n (nI κ)))), (ad 2, .inl (cI, 12, .inl aA)), (ad 3, .inl (cI, 12, .inl aB)), (ad 4, .inl (cI, 12, .inl aC)), (ad 5, .inl (cI, 20, .inl aM)), (ad 6, .inl (cI, 6, .inl aS)), (ad 7, .inl (cI, 2, .inl aF)), (ad 8, .inl (cI, 12, .inl aN))] := hD
      refine lv_aload_n hx hb dX5_term_151 rfl (lv_at hl 6 rfl) ?_
      refine va_get (D := (dC, dI)) (ci := 3) (v := .ref (ad 2)) (C := RX5) (T := TX5) (N := 14) hx hb hts (fun w h => List.mem_cons_of_mem _ (wf_X5 w h)) hown hK hP 0 rfl rfl 3 (by decide) (hts _ (List.mem_cons_of_mem _ wm_fl_X5_13)) (fun _ h9 => h9) rfl dX5_term_152 ?_
      refine lv_aload_n hx hb dX5_term_155 rfl (lv_at hl 6 rfl) ?_
      refine va_get (D := (dC, dI)) (ci := 3) (v := .int (nI n)) (C := RX5) (T := TX5) (N := 14) hx hb hts (fun w h => List.mem_cons_of_mem _ (wf_X5 w h)) hown hK hP 0 rfl rfl 1 (by decide) (hts _ (List.mem_cons_of_mem _ wm_fl_X5_76)) (fun _ h9 => h9) rfl dX5_term_156 ?_
      refine lv_iload_n hx hb dX5_term_159 rfl (lv_at hl 4 rfl) ?_
      refine xr_iast (t := n) (x := nI α) hx hb hK hP hD hS 2 0 rfl rfl (by omega) (by omega) dX5_term_160 (fun H locs hP hD hS => ?_)
      have hP : va_P (dC, dI) vwCl [(ad 0, .inr (3, [.int 0, .int (nI n), .ref (ad 1), .ref (ad 2), .ref (ad 3), .ref (ad 4), .int (nI mm), .ref (ad 5), .int (nI lv), .ref (ad 6), .int ck, .int fo, .ref (ad 7), .ref (ad 8)])), (ad 1, .inl (cI, 12, .inl (upd aK n (nI κ)))), (ad 2, .inl (cI, 12, .inl (upd aA n (nI α)))), (ad 3, .inl (cI, 12, .inl aB)), (ad 4, .inl (cI, 12, .inl aC)), (ad 5, .inl (cI, 20, .inl aM)), (ad 6, .inl (cI, 6, .inl aS)), (ad 7, .inl (cI, 2, .inl aF)), (ad 8, .inl (cI, 12, .inl aN))] H := hP
      have hD : va_D A9 [(ad 0, .inr (3, [.int 0, .int (nI n), .ref (ad 1), .ref (ad 2), .ref (ad 3), .ref (ad 4), .int (nI mm), .ref (ad 5), .int (nI lv), .ref (ad 6), .int ck, .int fo, .ref (ad 7), .ref (ad 8)])), (ad 1, .inl (cI, 12, .inl (upd aK n (nI κ)))), (ad 2, .inl (cI, 12, .inl (upd aA n (nI α)))), (ad 3, .inl (cI, 12, .inl aB)), (ad 4, .inl (cI, 12, .inl aC)), (ad 5, .inl (cI, 20, .inl aM)), (ad 6, .inl (cI, 6, .inl aS)), (ad 7, .inl (cI, 2, .inl aF)), (ad 8, .inl (cI, 12, .inl aN))] := hD
      refine lv_aload_n hx hb dX5_term_161 rfl (lv_at hl 6 rfl) ?_
      refine va_get (D := (dC, dI)) (ci := 3) (v := .ref (ad 3)) (C := RX5) (T := TX5) (N := 14) hx hb hts (fun w h => List.mem_cons_of_mem _ (wf_X5 w h)) hown hK hP 0 rfl rfl 4 (by decide) (hts _ (List.mem_cons_of_mem _ wm_fl_X5_16)) (fun _ h9 => h9) rfl dX5_term_162 ?_
      refine lv_aload_n hx hb dX5_term_165 rfl (lv_at hl 6 rfl) ?_
      refine va_get (D := (dC, dI)) (ci := 3) (v := .int (nI n)) (C := RX5) (T := TX5) (N := 14) hx hb hts (fun w h => List.mem_cons_of_mem _ (wf_X5 w h)) hown hK hP 0 rfl rfl 1 (by decide) (hts _ (List.mem_cons_of_mem _ wm_fl_X5_76)) (fun _ h9 => h9) rfl dX5_term_166 ?_
      refine lv_iload_n hx hb dX5_term_169 rfl (lv_at hl 3 rfl) ?_
      refine xr_iast (t := n) (x := b0) hx hb hK hP hD hS 3 0 rfl rfl (by omega) (by omega) dX5_term_170 (fun H locs hP hD hS => ?_)
      have hP : va_P (dC, dI) vwCl [(ad 0, .inr (3, [.int 0, .int (nI n), .ref (ad 1), .ref (ad 2), .ref (ad 3), .ref (ad 4), .int (nI mm), .ref (ad 5), .int (nI lv), .ref (ad 6), .int ck, .int fo, .ref (ad 7), .ref (ad 8)])), (ad 1, .inl (cI, 12, .inl (upd aK n (nI κ)))), (ad 2, .inl (cI, 12, .inl (upd aA n (nI α)))), (ad 3, .inl (cI, 12, .inl (upd aB n b0))), (ad 4, .inl (cI, 12, .inl aC)), (ad 5, .inl (cI, 20, .inl aM)), (ad 6, .inl (cI, 6, .inl aS)), (ad 7, .inl (cI, 2, .inl aF)), (ad 8, .inl (cI, 12, .inl aN))] H := hP
      have hD : va_D A9 [(ad 0, .inr (3, [.int 0, .int (nI n), .ref (ad 1), .ref (ad 2), .ref (ad 3), .ref (ad 4), .int (nI mm), .ref (ad 5), .int (nI lv), .ref (ad 6), .int ck, .int fo, .ref (ad 7), .ref (ad 8)])), (ad 1, .inl (cI, 12, .inl (upd aK n (nI κ)))), (ad 2, .inl (cI, 12, .inl (upd aA n (nI α)))), (ad 3, .inl (cI, 12, .inl (upd aB n b0))), (ad 4, .inl (cI, 12, .inl aC)), (ad 5, .inl (cI, 20, .inl aM)), (ad 6, .inl (cI, 6, .inl aS)), (ad 7, .inl (cI, 2, .inl aF)), (ad 8, .inl (cI, 12, .inl aN))] := hD
      refine lv_aload_n hx hb dX5_term_171 rfl (lv_at hl 6 rfl) ?_
      refine va_get (D := (dC, dI)) (ci := 3) (v := .ref (ad 4)) (C := RX5) (T := TX5) (N := 14) hx hb hts (fun w h => List.mem_cons_of_mem _ (wf_X5 w h)) hown hK hP 0 rfl rfl 5 (by decide) (hts _ (List.mem_cons_of_mem _ wm_fl_X5_19)) (fun _ h9 => h9) rfl dX5_term_172 ?_
      refine lv_aload_n hx hb dX5_term_175 rfl (lv_at hl 6 rfl) ?_
      refine va_get (D := (dC, dI)) (ci := 3) (v := .int (nI n)) (C := RX5) (T := TX5) (N := 14) hx hb hts (fun w h => List.mem_cons_of_mem _ (wf_X5 w h)) hown hK hP 0 rfl rfl 1 (by decide) (hts _ (List.mem_cons_of_mem _ wm_fl_X5_76)) (fun _ h9 => h9) rfl dX5_term_176 ?_
      refine lv_iload hx hb dX5_term_179 (lv_at hl 2 rfl) ?_
      refine xr_iast (t := n) (x := c0) hx hb hK hP hD hS 4 0 rfl rfl (by omega) (by omega) dX5_term_181 (fun H locs hP hD hS => ?_)
      have hP : va_P (dC, dI) vwCl [(ad 0, .inr (3, [.int 0, .int (nI n), .ref (ad 1), .ref (ad 2), .ref (ad 3), .ref (ad 4), .int (nI mm), .ref (ad 5), .int (nI lv), .ref (ad 6), .int ck, .int fo, .ref (ad 7), .ref (ad 8)])), (ad 1, .inl (cI, 12, .inl (upd aK n (nI κ)))), (ad 2, .inl (cI, 12, .inl (upd aA n (nI α)))), (ad 3, .inl (cI, 12, .inl (upd aB n b0))), (ad 4, .inl (cI, 12, .inl (upd aC n c0))), (ad 5, .inl (cI, 20, .inl aM)), (ad 6, .inl (cI, 6, .inl aS)), (ad 7, .inl (cI, 2, .inl aF)), (ad 8, .inl (cI, 12, .inl aN))] H := hP
      have hD : va_D A9 [(ad 0, .inr (3, [.int 0, .int (nI n), .ref (ad 1), .ref (ad 2), .ref (ad 3), .ref (ad 4), .int (nI mm), .ref (ad 5), .int (nI lv), .ref (ad 6), .int ck, .int fo, .ref (ad 7), .ref (ad 8)])), (ad 1, .inl (cI, 12, .inl (upd aK n (nI κ)))), (ad 2, .inl (cI, 12, .inl (upd aA n (nI α)))), (ad 3, .inl (cI, 12, .inl (upd aB n b0))), (ad 4, .inl (cI, 12, .inl (upd aC n c0))), (ad 5, .inl (cI, 20, .inl aM)), (ad 6, .inl (cI, 6, .inl aS)), (ad 7, .inl (cI, 2, .inl aF)), (ad 8, .inl (cI, 12, .inl aN))] := hD
      refine lv_aload_n hx hb dX5_term_182 rfl (lv_at hl 6 rfl) ?_
      refine lv_dup hx hb dX5_term_183 rfl ?_
      refine va_get (D := (dC, dI)) (ci := 3) (v := .int (nI n)) (C := RX5) (T := TX5) (N := 14) hx hb hts (fun w h => List.mem_cons_of_mem _ (wf_X5 w h)) hown hK hP 0 rfl rfl 1 (by decide) (hts _ (List.mem_cons_of_mem _ wm_fl_X5_76)) (fun _ h9 => h9) rfl dX5_term_184 ?_
      refine lv_iconst (v := 1) hx hb dX5_term_187 (by decide) ?_
      refine lv_iadd hx hb dX5_term_188 ?_
      refine lv_topi (fun y9 e9 => ?_)
      rw [nI_1] at e9
      subst e9
      refine va_put (D := (dC, dI)) (ci := 3) (v := .int (nI (n + 1))) (ty := .int) (C := RX5) (T := TX5) (N := 14) hx hb hts (fun w h => List.mem_cons_of_mem _ (wf_X5 w h)) tyX5 tyX5_ok nmX5 hown hK hP hD hS 0 rfl rfl 1 (by decide) (hts _ (List.mem_cons_of_mem _ wm_fl_X5_76)) (fun _ h9 => h9) rfl (by decide +kernel) rfl rfl (Nat.le_of_ble_eq_true rfl) dX5_term_189 (fun H locs hP hD hS => ?_)
      have hP : va_P (dC, dI) vwCl [(ad 0, .inr (3, [.int 0, .int (nI (n + 1)), .ref (ad 1), .ref (ad 2), .ref (ad 3), .ref (ad 4), .int (nI mm), .ref (ad 5), .int (nI lv), .ref (ad 6), .int ck, .int fo, .ref (ad 7), .ref (ad 8)])), (ad 1, .inl (cI, 12, .inl (upd aK n (nI κ)))), (ad 2, .inl (cI, 12, .inl (upd aA n (nI α)))), (ad 3, .inl (cI, 12, .inl (upd aB n b0))), (ad 4, .inl (cI, 12, .inl (upd aC n c0))), (ad 5, .inl (cI, 20, .inl aM)), (ad 6, .inl (cI, 6, .inl aS)), (ad 7, .inl (cI, 2, .inl aF)), (ad 8, .inl (cI, 12, .inl aN))] H := hP
      have hD : va_D A9 [(ad 0, .inr (3, [.int 0, .int (nI (n + 1)), .ref (ad 1), .ref (ad 2), .ref (ad 3), .ref (ad 4), .int (nI mm), .ref (ad 5), .int (nI lv), .ref (ad 6), .int ck, .int fo, .ref (ad 7), .ref (ad 8)])), (ad 1, .inl (cI, 12, .inl (upd aK n (nI κ)))), (ad 2, .inl (cI, 12, .inl (upd aA n (nI α)))), (ad 3, .inl (cI, 12, .inl (upd aB n b0))), (ad 4, .inl (cI, 12, .inl (upd aC n c0))), (ad 5, .inl (cI, 20, .inl aM)), (ad 6, .inl (cI, 6, .inl aS)), (ad 7, .inl (cI, 2, .inl aF)), (ad 8, .inl (cI, 12, .inl aN))] := hD
      refine lv_aload_n hx hb dX5_term_192 rfl (lv_at hl 6 rfl) ?_
      refine va_get (D := (dC, dI)) (ci := 3) (v := .int (nI (n + 1))) (C := RX5) (T := TX5) (N := 14) hx hb hts (fun w h => List.mem_cons_of_mem _ (wf_X5 w h)) hown hK hP 0 rfl rfl 1 (by decide) (hts _ (List.mem_cons_of_mem _ wm_fl_X5_76)) (fun _ h9 => h9) rfl dX5_term_193 ?_
      refine lv_iconst (v := 1) hx hb dX5_term_196 (by decide) ?_
      refine lv_isub hx hb dX5_term_197 ?_
      refine lv_topi (fun y9 e9 => ?_)
      rw [nI_pred] at e9
      subst e9
      have etn : t = n := by omega
      have efd : pq_fd fk fa fb fc κ α β γ n 0 = none := by rw [← hfd, etn, Nat.sub_self]; rfl
      exact W.iret (v := nI n) hx hb hr (fun t9 ht9 hW9 => ⟨⟨nI n, (0, upd aK n (nI κ), upd aA n (nI α), upd aB n b0, upd aC n c0, n + 1), rfl, Or.inr (Or.inr ⟨efd, by omega, rfl, rfl⟩), by rw [ht9]; exact hP, va_K.moved hW9.alike hK, hD⟩, hS.F ht9⟩) hS.2.2 dX5_term_198
    · skip
      have h6 : n = 12 := (nI_eq (a := n) (b := 12) (by omega) (by omega)).mp h6
      refine lv_iconst (v := 2) hx hb dX5_term_124 (by decide) ?_
      refine lv_goto (tgt := 129) hx hb dX5_term_125 (by decide) ?_
      refine va_put (D := (dC, dI)) (ci := 3) (v := .int 2) (ty := .int) (C := RX5) (T := TX5) (N := 14) hx hb hts (fun w h => List.mem_cons_of_mem _ (wf_X5 w h)) tyX5 tyX5_ok nmX5 hown hK hP hD hS 0 rfl rfl 0 (by decide) (hts _ (List.mem_cons_of_mem _ wm_fl_X5_34)) (fun _ h9 => h9) rfl (by decide +kernel) rfl rfl (Nat.le_of_ble_eq_true rfl) dX5_term_129 (fun H locs hP hD hS => ?_)
      have hP : va_P (dC, dI) vwCl [(ad 0, .inr (3, [.int 2, .int (nI n), .ref (ad 1), .ref (ad 2), .ref (ad 3), .ref (ad 4), .int (nI mm), .ref (ad 5), .int (nI lv), .ref (ad 6), .int ck, .int fo, .ref (ad 7), .ref (ad 8)])), (ad 1, .inl (cI, 12, .inl aK)), (ad 2, .inl (cI, 12, .inl aA)), (ad 3, .inl (cI, 12, .inl aB)), (ad 4, .inl (cI, 12, .inl aC)), (ad 5, .inl (cI, 20, .inl aM)), (ad 6, .inl (cI, 6, .inl aS)), (ad 7, .inl (cI, 2, .inl aF)), (ad 8, .inl (cI, 12, .inl aN))] H := hP
      have hD : va_D A9 [(ad 0, .inr (3, [.int 2, .int (nI n), .ref (ad 1), .ref (ad 2), .ref (ad 3), .ref (ad 4), .int (nI mm), .ref (ad 5), .int (nI lv), .ref (ad 6), .int ck, .int fo, .ref (ad 7), .ref (ad 8)])), (ad 1, .inl (cI, 12, .inl aK)), (ad 2, .inl (cI, 12, .inl aA)), (ad 3, .inl (cI, 12, .inl aB)), (ad 4, .inl (cI, 12, .inl aC)), (ad 5, .inl (cI, 20, .inl aM)), (ad 6, .inl (cI, 6, .inl aS)), (ad 7, .inl (cI, 2, .inl aF)), (ad 8, .inl (cI, 12, .inl aN))] := hD
      refine lv_aload_n hx hb dX5_term_132 rfl (lv_at hl 6 rfl) ?_
      refine va_get (D := (dC, dI)) (ci := 3) (v := .int 2) (C := RX5) (T := TX5) (N := 14) hx hb hts (fun w h => List.mem_cons_of_mem _ (wf_X5 w h)) hown hK hP 0 rfl rfl 0 (by decide) (hts _ (List.mem_cons_of_mem _ wm_fl_X5_34)) (fun _ h9 => h9) rfl dX5_term_133 ?_
      refine lv_if_le (tgt := 141) hx hb dX5_term_136 (by decide) (fun h8 => absurd h8 (by decide)) (fun _ => ?_)
      refine lv_iconst (v := 0) hx hb dX5_term_139 (by decide) ?_
      have etn : t = n := by omega
      have efd : pq_fd fk fa fb fc κ α β γ n 0 = none := by rw [← hfd, etn, Nat.sub_self]; rfl
      exact W.iret (v := 0) hx hb hr (fun t9 ht9 hW9 => ⟨⟨0, (2, aK, aA, aB, aC, n), rfl, Or.inr (Or.inl ⟨efd, h6, rfl, rfl⟩), by rw [ht9]; exact hP, va_K.moved hW9.alike hK, hD⟩, hS.F ht9⟩) hS.2.2 dX5_term_140
  · skip
    have h5 : ¬ n ≤ t := fun z => h5 ((nI_leI (a := n) (b := t) (by omega) (by omega)).mpr z)
    have ht : t < n := by omega
    have hk20 := pt_k20 hT ht
    have ha32 := pt_a32 hn hT ht
    have hb32 := pt_bc32_b hn hT ht
    have hc32 := pt_bc32_c hn hT ht
    refine lv_aload_n hx hb dX5_term_48 rfl (lv_at hl 6 rfl) ?_
    refine va_get (D := (dC, dI)) (ci := 3) (v := .ref (ad 1)) (C := RX5) (T := TX5) (N := 14) hx hb hts (fun w h => List.mem_cons_of_mem _ (wf_X5 w h)) hown hK hP 0 rfl rfl 2 (by decide) (hts _ (List.mem_cons_of_mem _ wm_fl_X5_7)) (fun _ h9 => h9) rfl dX5_term_49 ?_
    refine lv_iload hx hb dX5_term_52 (lv_at hl 0 rfl) ?_
    refine xr_iald (t := t) (v := nI (fk t)) hx hb hK hP 1 0 rfl rfl (by omega) (by omega) (hk t (by omega)) dX5_term_54 ?_
    refine lv_iload_n hx hb dX5_term_55 rfl (lv_at hl 5 rfl) ?_
    refine lv_icmp_ne (tgt := 108) hx hb dX5_term_56 (by decide) (fun h9 => ?_) (fun h9 => ?_)
    · skip
      have h9 : ¬ fk t = κ := fun z => h9 ((nI_eq (a := (fk t)) (b := κ) (by omega) (by omega)).mpr z)
      refine lv_iinc (k := 0) (v := nI (t + 1)) (lv' := [(6, .int (nI (t + 1))), (5, .int (nI ν)), (4, .int c0), (3, .int b0), (2, .int (nI α)), (1, .int (nI κ)), (0, .ref (ad 0))]) hx hb dX5_term_108 hl rfl (nI_1 t) (by decide) rfl (fun ls hl => ?_)
      refine lv_goto (tgt := 39) hx hb dX5_term_111 (by decide) ?_
      refine ih (t + 1) ls H locs ⟨⟨by omega, ?_⟩, hP, hD, hS, lv_sub hl [0, 1, 2, 3, 4, 5, 6] rfl⟩ (by show n - (t + 1) < n - t; omega)
      rw [← hfd, show n - t = n - (t + 1) + 1 by omega]
      exact (pq_fd_n fun z => h9 z.1).symm
    · skip
      have h9 : fk t = κ := (nI_eq (a := (fk t)) (b := κ) (by omega) (by omega)).mp h9
      refine lv_aload_n hx hb dX5_term_59 rfl (lv_at hl 6 rfl) ?_
      refine va_get (D := (dC, dI)) (ci := 3) (v := .ref (ad 2)) (C := RX5) (T := TX5) (N := 14) hx hb hts (fun w h => List.mem_cons_of_mem _ (wf_X5 w h)) hown hK hP 0 rfl rfl 3 (by decide) (hts _ (List.mem_cons_of_mem _ wm_fl_X5_13)) (fun _ h9 => h9) rfl dX5_term_60 ?_
      refine lv_iload hx hb dX5_term_63 (lv_at hl 0 rfl) ?_
      refine xr_iald (t := t) (v := nI (fa t)) hx hb hK hP 2 0 rfl rfl (by omega) (by omega) (ha t (by omega)) dX5_term_65 ?_
      refine lv_iload_n hx hb dX5_term_66 rfl (lv_at hl 4 rfl) ?_
      refine lv_icmp_ne (tgt := 108) hx hb dX5_term_67 (by decide) (fun h10 => ?_) (fun h10 => ?_)
      · skip
        have h10 : ¬ fa t = α := fun z => h10 ((nI_eq (a := (fa t)) (b := α) (by omega) (by omega)).mpr z)
        refine lv_iinc (k := 0) (v := nI (t + 1)) (lv' := [(6, .int (nI (t + 1))), (5, .int (nI ν)), (4, .int c0), (3, .int b0), (2, .int (nI α)), (1, .int (nI κ)), (0, .ref (ad 0))]) hx hb dX5_term_108 hl rfl (nI_1 t) (by decide) rfl (fun ls hl => ?_)
        refine lv_goto (tgt := 39) hx hb dX5_term_111 (by decide) ?_
        refine ih (t + 1) ls H locs ⟨⟨by omega, ?_⟩, hP, hD, hS, lv_sub hl [0, 1, 2, 3, 4, 5, 6] rfl⟩ (by show n - (t + 1) < n - t; omega)
        rw [← hfd, show n - t = n - (t + 1) + 1 by omega]
        exact (pq_fd_n fun z => h10 z.2.1).symm
      · skip
        have h10 : fa t = α := (nI_eq (a := (fa t)) (b := α) (by omega) (by omega)).mp h10
        refine lv_iload hx hb dX5_term_70 (lv_at hl 1 rfl) ?_
        refine lv_iconst (v := nI 2) hx hb dX5_term_72 (by decide) ?_
        refine lv_icmp_lt (tgt := 87) hx hb dX5_term_73 (by decide) (fun h11 => ?_) (fun h11 => ?_)
        · skip
          have h11 : ν < 2 := (nI_ltI (a := ν) (b := 2) (by omega) (by omega)).mp h11
          have hz2 := hν2.mp h11
          have hfbβ : fb t = β := by rw [(hT t ht).2.2.1.1 (by rw [h9]; exact hz2), f2.1 hz2]
          refine lv_iload hx hb dX5_term_87 (lv_at hl 1 rfl) ?_
          refine lv_iconst (v := nI 3) hx hb dX5_term_89 (by decide) ?_
          refine lv_icmp_lt (tgt := 105) hx hb dX5_term_90 (by decide) (fun h12 => ?_) (fun h12 => ?_)
          · skip
            have h12 : ν < 3 := (nI_ltI (a := ν) (b := 3) (by omega) (by omega)).mp h12
            have hz3 := hν3.mp h12
            have hfcγ : fc t = γ := by rw [(hT t ht).2.2.2.1 (by rw [h9]; exact hz3), f3.1 hz3]
            refine lv_iload hx hb dX5_term_105 (lv_at hl 0 rfl) ?_
            have efd : pq_fd fk fa fb fc κ α β γ n 0 = some t := by
              rw [← hfd, show n - t = n - (t + 1) + 1 by omega]
              exact pq_fd_y ⟨h9, h10, hfbβ, hfcγ⟩
            exact W.iret (v := nI t) hx hb hr (fun t9 ht9 hW9 => ⟨⟨nI t, (0, aK, aA, aB, aC, n), rfl, Or.inl ⟨t, efd, rfl, rfl⟩, by rw [ht9]; exact hP, va_K.moved hW9.alike hK, hD⟩, hS.F ht9⟩) hS.2.2 dX5_term_107
          · skip
            have h12 : ¬ ν < 3 := fun z => h12 ((nI_ltI (a := ν) (b := 3) (by omega) (by omega)).mpr z)
            have hs3 : pv_s3 κ ≠ 0 := fun z => h12 (hν3.mpr z)
            have hs3t : pv_s3 (fk t) ≠ 0 := by rw [h9]; exact hs3
            have ec1 := ec0 hs3
            subst ec1
            refine lv_aload_n hx hb dX5_term_93 rfl (lv_at hl 6 rfl) ?_
            refine va_get (D := (dC, dI)) (ci := 3) (v := .ref (ad 4)) (C := RX5) (T := TX5) (N := 14) hx hb hts (fun w h => List.mem_cons_of_mem _ (wf_X5 w h)) hown hK hP 0 rfl rfl 5 (by decide) (hts _ (List.mem_cons_of_mem _ wm_fl_X5_19)) (fun _ h9 => h9) rfl dX5_term_94 ?_
            refine lv_iload hx hb dX5_term_97 (lv_at hl 0 rfl) ?_
            refine xr_iald (t := t) (v := nI (fc t)) hx hb hK hP 4 0 rfl rfl (by omega) (by omega) (hc2 t (by omega) hs3t) dX5_term_99 ?_
            refine lv_iload hx hb dX5_term_100 (lv_at hl 2 rfl) ?_
            refine lv_icmp_ne (tgt := 108) hx hb dX5_term_102 (by decide) (fun h13 => ?_) (fun h13 => ?_)
            · skip
              have h13 : ¬ fc t = γ := fun z => h13 ((nI_eq (a := (fc t)) (b := γ) (by omega) (by omega)).mpr z)
              refine lv_iinc (k := 0) (v := nI (t + 1)) (lv' := [(6, .int (nI (t + 1))), (5, .int (nI ν)), (4, .int (nI γ)), (3, .int b0), (2, .int (nI α)), (1, .int (nI κ)), (0, .ref (ad 0))]) hx hb dX5_term_108 hl rfl (nI_1 t) (by decide) rfl (fun ls hl => ?_)
              refine lv_goto (tgt := 39) hx hb dX5_term_111 (by decide) ?_
              refine ih (t + 1) ls H locs ⟨⟨by omega, ?_⟩, hP, hD, hS, lv_sub hl [0, 1, 2, 3, 4, 5, 6] rfl⟩ (by show n - (t + 1) < n - t; omega)
              rw [← hfd, show n - t = n - (t + 1) + 1 by omega]
              exact (pq_fd_n fun z => h13 z.2.2.2).symm
            · skip
              have h13 : fc t = γ := (nI_eq (a := (fc t)) (b := γ) (by omega) (by omega)).mp h13
              refine lv_iload hx hb dX5_term_105 (lv_at hl 0 rfl) ?_
              have efd : pq_fd fk fa fb fc κ α β γ n 0 = some t := by
                rw [← hfd, show n - t = n - (t + 1) + 1 by omega]
                exact pq_fd_y ⟨h9, h10, hfbβ, h13⟩
              exact W.iret (v := nI t) hx hb hr (fun t9 ht9 hW9 => ⟨⟨nI t, (0, aK, aA, aB, aC, n), rfl, Or.inl ⟨t, efd, rfl, rfl⟩, by rw [ht9]; exact hP, va_K.moved hW9.alike hK, hD⟩, hS.F ht9⟩) hS.2.2 dX5_term_107
        · skip
          have h11 : ¬ ν < 2 := fun z => h11 ((nI_ltI (a := ν) (b := 2) (by omega) (by omega)).mpr z)
          have hs2 : pv_s2 κ ≠ 0 := fun z => h11 (hν2.mpr z)
          have hs2t : pv_s2 (fk t) ≠ 0 := by rw [h9]; exact hs2
          have eb1 := eb0 hs2
          subst eb1
          refine lv_aload_n hx hb dX5_term_76 rfl (lv_at hl 6 rfl) ?_
          refine va_get (D := (dC, dI)) (ci := 3) (v := .ref (ad 3)) (C := RX5) (T := TX5) (N := 14) hx hb hts (fun w h => List.mem_cons_of_mem _ (wf_X5 w h)) hown hK hP 0 rfl rfl 4 (by decide) (hts _ (List.mem_cons_of_mem _ wm_fl_X5_16)) (fun _ h9 => h9) rfl dX5_term_77 ?_
          refine lv_iload hx hb dX5_term_80 (lv_at hl 0 rfl) ?_
          refine xr_iald (t := t) (v := nI (fb t)) hx hb hK hP 3 0 rfl rfl (by omega) (by omega) (hb2 t (by omega) hs2t) dX5_term_82 ?_
          refine lv_iload_n hx hb dX5_term_83 rfl (lv_at hl 3 rfl) ?_
          refine lv_icmp_ne (tgt := 108) hx hb dX5_term_84 (by decide) (fun h14 => ?_) (fun h14 => ?_)
          · skip
            have h14 : ¬ fb t = β := fun z => h14 ((nI_eq (a := (fb t)) (b := β) (by omega) (by omega)).mpr z)
            refine lv_iinc (k := 0) (v := nI (t + 1)) (lv' := [(6, .int (nI (t + 1))), (5, .int (nI ν)), (4, .int c0), (3, .int (nI β)), (2, .int (nI α)), (1, .int (nI κ)), (0, .ref (ad 0))]) hx hb dX5_term_108 hl rfl (nI_1 t) (by decide) rfl (fun ls hl => ?_)
            refine lv_goto (tgt := 39) hx hb dX5_term_111 (by decide) ?_
            refine ih (t + 1) ls H locs ⟨⟨by omega, ?_⟩, hP, hD, hS, lv_sub hl [0, 1, 2, 3, 4, 5, 6] rfl⟩ (by show n - (t + 1) < n - t; omega)
            rw [← hfd, show n - t = n - (t + 1) + 1 by omega]
            exact (pq_fd_n fun z => h14 z.2.2.1).symm
          · skip
            have h14 : fb t = β := (nI_eq (a := (fb t)) (b := β) (by omega) (by omega)).mp h14
            refine lv_iload hx hb dX5_term_87 (lv_at hl 1 rfl) ?_
            refine lv_iconst (v := nI 3) hx hb dX5_term_89 (by decide) ?_
            refine lv_icmp_lt (tgt := 105) hx hb dX5_term_90 (by decide) (fun h15 => ?_) (fun h15 => ?_)
            · skip
              have h15 : ν < 3 := (nI_ltI (a := ν) (b := 3) (by omega) (by omega)).mp h15
              have hz3 := hν3.mp h15
              have hfcγ : fc t = γ := by rw [(hT t ht).2.2.2.1 (by rw [h9]; exact hz3), f3.1 hz3]
              refine lv_iload hx hb dX5_term_105 (lv_at hl 0 rfl) ?_
              have efd : pq_fd fk fa fb fc κ α β γ n 0 = some t := by
                rw [← hfd, show n - t = n - (t + 1) + 1 by omega]
                exact pq_fd_y ⟨h9, h10, h14, hfcγ⟩
              exact W.iret (v := nI t) hx hb hr (fun t9 ht9 hW9 => ⟨⟨nI t, (0, aK, aA, aB, aC, n), rfl, Or.inl ⟨t, efd, rfl, rfl⟩, by rw [ht9]; exact hP, va_K.moved hW9.alike hK, hD⟩, hS.F ht9⟩) hS.2.2 dX5_term_107
            · skip
              have h15 : ¬ ν < 3 := fun z => h15 ((nI_ltI (a := ν) (b := 3) (by omega) (by omega)).mpr z)
              have hs3 : pv_s3 κ ≠ 0 := fun z => h15 (hν3.mpr z)
              have hs3t : pv_s3 (fk t) ≠ 0 := by rw [h9]; exact hs3
              have ec1 := ec0 hs3
              subst ec1
              refine lv_aload_n hx hb dX5_term_93 rfl (lv_at hl 6 rfl) ?_
              refine va_get (D := (dC, dI)) (ci := 3) (v := .ref (ad 4)) (C := RX5) (T := TX5) (N := 14) hx hb hts (fun w h => List.mem_cons_of_mem _ (wf_X5 w h)) hown hK hP 0 rfl rfl 5 (by decide) (hts _ (List.mem_cons_of_mem _ wm_fl_X5_19)) (fun _ h9 => h9) rfl dX5_term_94 ?_
              refine lv_iload hx hb dX5_term_97 (lv_at hl 0 rfl) ?_
              refine xr_iald (t := t) (v := nI (fc t)) hx hb hK hP 4 0 rfl rfl (by omega) (by omega) (hc2 t (by omega) hs3t) dX5_term_99 ?_
              refine lv_iload hx hb dX5_term_100 (lv_at hl 2 rfl) ?_
              refine lv_icmp_ne (tgt := 108) hx hb dX5_term_102 (by decide) (fun h16 => ?_) (fun h16 => ?_)
              · skip
                have h16 : ¬ fc t = γ := fun z => h16 ((nI_eq (a := (fc t)) (b := γ) (by omega) (by omega)).mpr z)
                refine lv_iinc (k := 0) (v := nI (t + 1)) (lv' := [(6, .int (nI (t + 1))), (5, .int (nI ν)), (4, .int (nI γ)), (3, .int (nI β)), (2, .int (nI α)), (1, .int (nI κ)), (0, .ref (ad 0))]) hx hb dX5_term_108 hl rfl (nI_1 t) (by decide) rfl (fun ls hl => ?_)
                refine lv_goto (tgt := 39) hx hb dX5_term_111 (by decide) ?_
                refine ih (t + 1) ls H locs ⟨⟨by omega, ?_⟩, hP, hD, hS, lv_sub hl [0, 1, 2, 3, 4, 5, 6] rfl⟩ (by show n - (t + 1) < n - t; omega)
                rw [← hfd, show n - t = n - (t + 1) + 1 by omega]
                exact (pq_fd_n fun z => h16 z.2.2.2).symm
              · skip
                have h16 : fc t = γ := (nI_eq (a := (fc t)) (b := γ) (by omega) (by omega)).mp h16
                refine lv_iload hx hb dX5_term_105 (lv_at hl 0 rfl) ?_
                have efd : pq_fd fk fa fb fc κ α β γ n 0 = some t := by
                  rw [← hfd, show n - t = n - (t + 1) + 1 by omega]
                  exact pq_fd_y ⟨h9, h10, h14, h16⟩
                exact W.iret (v := nI t) hx hb hr (fun t9 ht9 hW9 => ⟨⟨nI t, (0, aK, aA, aB, aC, n), rfl, Or.inl ⟨t, efd, rfl, rfl⟩, by rw [ht9]; exact hP, va_K.moved hW9.alike hK, hD⟩, hS.F ht9⟩) hS.2.2 dX5_term_107
end MD5
