theorem pt_bc32_b {fk fa fb fc : Nat → Nat} {n t : Nat} (hn : n ≤ 12) (hT : pv_TI fk fa fb fc n) (ht : t < n) : fb t < 32 := by
  obtain ⟨hk, q1, q2, q3⟩ := hT t ht
  rcases pv_s2_le (fk t) with z | z | z
  · have := q2.1 z; omega
  · have := (q2.2.2.2.1 z).1; omega
  · have := (q2.2.2.2.2 z).1; omega
theorem pt_bc32_c {fk fa fb fc : Nat → Nat} {n t : Nat} (hn : n ≤ 12) (hT : pv_TI fk fa fb fc n) (ht : t < n) : fc t < 32 := by
  obtain ⟨hk, q1, q2, q3⟩ := hT t ht
  rcases pv_s3_le (fk t) with z | z
  · have := q3.1 z; omega
  · have := (q3.2.2.2.1 z).1; omega
def pq_res (o : Option Nat) : Int32 := match o with
  | some t => nI t
  | none => -1
theorem pq_fd_y {k a b c : Nat → Nat} {κ α β γ r t : Nat} (h : k t = κ ∧ a t = α ∧ b t = β ∧ c t = γ) : pq_fd k a b c κ α β γ (r + 1) t = some t := by
  unfold pq_fd
  rw [if_pos h]
theorem pq_fd_n {k a b c : Nat → Nat} {κ α β γ r t : Nat} (h : ¬ (k t = κ ∧ a t = α ∧ b t = β ∧ c t = γ)) : pq_fd k a b c κ α β γ (r + 1) t = pq_fd k a b c κ α β γ r (t + 1) := by
  conv => lhs; unfold pq_fd
  rw [if_neg h]
theorem pc_po_y {P : Nat → Int32} {set : Int32} {t : Nat} (h : bb_t set t = true) : pc_po P set (t + 1) = pc_po P set t ||| P t := by
  conv => lhs; unfold pc_po
  rw [if_pos h]
theorem pc_po_n {P : Nat → Int32} {set : Int32} {t : Nat} (h : bb_t set t = false) : pc_po P set (t + 1) = pc_po P set t := by
  conv => lhs; unfold pc_po
  rw [if_neg (by rw [h]; decide)]
theorem pt_lt {fk fa fb fc : Nat → Nat} {n t : Nat} (hn : n ≤ 12) (hT : pv_TI fk fa fb fc n) (ht : t < n) (h0 : ¬ fk t = 0) (h1 : ¬ fk t = 1) : fa t < 12 ∧ fb t < 12 ∧ fc t < 12 := by
  obtain ⟨hk, q1, q2, q3⟩ := hT t ht
  refine ⟨?_, ?_, ?_⟩
  · have := pv_ch_lt (hT t ht) (u := fa t) (Or.inl ⟨by unfold pv_s1; rw [if_neg h0, if_neg h1]; split <;> omega, rfl⟩)
    omega
  · rcases pv_s2_le (fk t) with z | z | z
    · have := q2.1 z; omega
    · have := (q2.2.2.2.1 z).1; omega
    · have := (q2.2.2.2.2 z).1; omega
  · rcases pv_s3_le (fk t) with z | z
    · have := q3.1 z; omega
    · have := (q3.2.2.2.1 z).1; omega
theorem pt_k20 {fk fa fb fc : Nat → Nat} {n t : Nat} (hT : pv_TI fk fa fb fc n) (ht : t < n) : fk t < 20 := (hT t ht).1
theorem pt_a32 {fk fa fb fc : Nat → Nat} {n t : Nat} (hn : n ≤ 12) (hT : pv_TI fk fa fb fc n) (ht : t < n) : fa t < 32 := by
  by_cases h0 : fk t = 0
  · have := (hT t ht).2.1.2.1 (by simp [pv_s1, h0]); omega
  · by_cases h1 : fk t = 1
    · have := (hT t ht).2.1.2.2.1 (by simp [pv_s1, h1]); omega
    · have := (pt_lt hn hT ht h0 h1).1; omega
theorem sw_look {κ : Nat} (h : κ < 20) (h9 : ¬ κ = 9) (h17 : ¬ κ = 17) (h18 : ¬ κ = 18) (h19 : ¬ κ = 19) : Op.lookupswitch.offset [(9, 42), (17, 56), (18, 61), (19, 67)] 73 (nI κ).toInt = 73 := by
  have : ∀ κ, κ < 20 → ¬ κ = 9 → ¬ κ = 17 → ¬ κ = 18 → ¬ κ = 19 → Op.lookupswitch.offset [(9, 42), (17, 56), (18, 61), (19, 67)] 73 (nI κ).toInt = 73 := by decide +kernel
  exact this κ h h9 h17 h18 h19
section TT2
variable (l : Launch) (dC : Nat → ClassId) (dI : Nat → Nat → Nat) (cI : ClassId) (ad : Nat → Nat) (aK aA aB aC aP aV aN : Nat → Int32) (n : Nat)
set_option maxHeartbeats 4000000 in
set_option maxRecDepth 100000 in
theorem ctX3_varyingWith (i : Nat) (hi : i < 2) : Met l yX3_varyingWith wsX3_varyingWith ({ frames := 0, cells := 0, slots := 0, locals := 0 }) (va_Pc [.ref (ad 0), .int (nI i)] (fun U => va_P (dC, dI) vwCl (wT cI ad aK aA aB aC aP aV aN n) U.heap ∧ va_K (dC, dI) vwCl [(cI, .int)] U)) (vp_Si (fun r => r = aV i)) 0 0 (fun _ => False) := by
  refine Met.ofW (cc := cX3_varyingWith) (maxL := 2) (ret := (some .int)) (by decide) rfl ?_
  intro p e s m args below meth c s₁ B hml hv
  obtain ⟨rfl, hP, hK⟩ := hv
  have hx := B.exec
  have hb := B.bytes
  have hr := B.returns
  have hts := atoms_spec (ws := wsX3_varyingWith) B.pre
  have hown : s.vm.findClass RX3 = some m.cls := findClass_of_methodNamed B.named
  have hlocks := B.notSynchronized
  have hl := lv_entry ([.ref (ad 0), .int (nI i)]) (n := 2) (Nat.le_of_ble_eq_true rfl)
  rw [lg_entry_eq]
  generalize (lg_sl ([.ref (ad 0), .int (nI i)]) ++ List.replicate (2 - (lg_sl ([.ref (ad 0), .int (nI i)])).length) Slot.unset).toArray = ls at hl ⊢
  have hl : lv_has ls 2 [(0, .ref (ad 0)), (1, .int (nI i))] := hl
  refine lv_aload_n hx hb dX3_varyingWith_0 rfl (lv_at hl 0 rfl) ?_
  refine va_get (D := (dC, dI)) (ci := 1) (v := .ref (ad 6)) (C := RX3) (T := TX3) (N := 8) hx hb hts (fun w h => List.mem_cons_of_mem _ (wf_X3 w h)) hown hK hP 0 rfl rfl 5 (by decide) (hts _ (List.mem_cons_of_mem _ wm_fl_X3_27)) (fun _ h9 => h9) rfl dX3_varyingWith_1 ?_
  refine lv_iload_n hx hb dX3_varyingWith_4 rfl (lv_at hl 1 rfl) ?_
  refine xr_iald (t := i) (v := aV i) hx hb hK hP 6 0 rfl rfl (by omega) (by omega) (rfl) dX3_varyingWith_5 ?_
  exact W.iret (v := aV i) hx hb hr (fun t9 ht9 hW9 => ⟨aV i, rfl, rfl, ht9⟩) (fun q hq => by cases hq) dX3_varyingWith_6
set_option maxHeartbeats 4000000 in
set_option maxRecDepth 100000 in
theorem ctX3_partsBelow (σ j : Nat) (hσ : σ ≤ 4) (hj : 3 ≤ σ → j < 12) : Met l yX3_partsBelow wsX3_partsBelow ({ frames := 1, cells := 0, slots := 0, locals := 20 }) (va_Pc [.ref (ad 0), .int (nI σ), .int (nI j)] (fun U => va_P (dC, dI) vwCl (wT cI ad aK aA aB aC aP aV aN n) U.heap ∧ va_K (dC, dI) vwCl [(cI, .int)] U)) (vp_Si (fun r => r = pp_pb aP σ j)) 0 0 (fun _ => False) := by
  refine Met.ofW (cc := cX3_partsBelow) (maxL := 3) (ret := (some .int)) (by decide) rfl ?_
  intro p e s m args below meth c s₁ B hml hv
  obtain ⟨rfl, hP, hK⟩ := hv
  have hx := B.exec
  have hb := B.bytes
  have hr := B.returns
  have hts := atoms_spec (ws := wsX3_partsBelow) B.pre
  have hown : s.vm.findClass RX3 = some m.cls := findClass_of_methodNamed B.named
  have hlocks := B.notSynchronized
  have hl := lv_entry ([.ref (ad 0), .int (nI σ), .int (nI j)]) (n := 3) (Nat.le_of_ble_eq_true rfl)
  rw [lg_entry_eq]
  generalize (lg_sl ([.ref (ad 0), .int (nI σ), .int (nI j)]) ++ List.replicate (3 - (lg_sl ([.ref (ad 0), .int (nI σ), .int (nI j)])).length) Slot.unset).toArray = ls at hl ⊢
  have hl : lv_has ls 3 [(0, .ref (ad 0)), (1, .int (nI σ)), (2, .int (nI j))] := hl
  refine lv_iload_n hx hb dX3_partsBelow_0 rfl (lv_at hl 1 rfl) ?_
  refine vp_callSi (W.runS (As := [.int (nI σ)]) (rest := []) ⟨hx, hb, hml, hown, hts⟩ (ctX2_isTerm l (nI σ)) (va_cwS 1 hts (wA_wsS wm_ml_X3_82 wm_st_X2_isTerm wm_in_X2 wm_cd_X2_isTerm) rfl rfl rfl (by decide +kernel) ⟨Nat.le_of_ble_eq_true rfl, Nat.le_of_ble_eq_true rfl⟩) ⟨fun a U g mk q => q, fun U hU hW => ⟨rfl, trivial⟩⟩ rfl rfl hl.1 rfl (lv_room (Nat.le_of_ble_eq_true rfl)) dX3_partsBelow_1 ⟨Nat.zero_le _, Nat.zero_le _⟩) (fun r1 er1 => ?_)
  rw [px_ter_n hσ] at er1
  by_cases h3 : 3 ≤ σ
  · rw [if_pos h3] at er1
    subst er1
    have hj12 := hj h3
    refine lv_if_eq (tgt := 16) hx hb dX3_partsBelow_4 (by decide) (fun h2 => absurd h2 (by decide)) (fun _ => ?_)
    refine lv_aload_n hx hb dX3_partsBelow_7 rfl (lv_at hl 0 rfl) ?_
    refine va_get (D := (dC, dI)) (ci := 1) (v := .ref (ad 5)) (C := RX3) (T := TX3) (N := 8) hx hb hts (fun w h => List.mem_cons_of_mem _ (wf_X3 w h)) hown hK hP 0 rfl rfl 4 (by decide) (hts _ (List.mem_cons_of_mem _ wm_fl_X3_24)) (fun _ h9 => h9) rfl dX3_partsBelow_8 ?_
    refine lv_iload_n hx hb dX3_partsBelow_11 rfl (lv_at hl 2 rfl) ?_
    refine xr_iald (t := j) (v := aP j) hx hb hK hP 5 0 rfl rfl (by omega) (by omega) (rfl) dX3_partsBelow_12 ?_
    refine lv_goto (tgt := 17) hx hb dX3_partsBelow_13 (by decide) ?_
    exact W.iret (v := aP j) hx hb hr (fun t9 ht9 hW9 => ⟨aP j, rfl, (by unfold pp_pb; rw [if_pos h3]), ht9⟩) (fun q hq => by cases hq) dX3_partsBelow_17
  · rw [if_neg h3] at er1
    subst er1
    refine lv_if_eq (tgt := 16) hx hb dX3_partsBelow_4 (by decide) (fun _ => ?_) (fun h3 => absurd (by decide) h3)
    refine lv_iconst (v := 0) hx hb dX3_partsBelow_16 (by decide) ?_
    exact W.iret (v := 0) hx hb hr (fun t9 ht9 hW9 => ⟨0, rfl, (by unfold pp_pb; rw [if_neg h3]), ht9⟩) (fun q hq => by cases hq) dX3_partsBelow_17
set_option maxHeartbeats 4000000 in
set_option maxRecDepth 100000 in
theorem ctX3_find (hn : n ≤ 12) (fk fa fb fc : Nat → Nat) (hk : ∀ t, t < n → aK t = nI (fk t)) (ha : ∀ t, t < n → aA t = nI (fa t)) (hbb : ∀ t, t < n → aB t = nI (fb t)) (hc : ∀ t, t < n → aC t = nI (fc t)) (hT : pv_TI fk fa fb fc n) (κ α β γ : Nat) (hκ : κ < 20) (hα : α < 32) (hβ : β < 32) (hγ : γ < 32) : Met l yX3_find wsX3_find ({ frames := 0, cells := 0, slots := 0, locals := 0 }) (va_Pc [.ref (ad 0), .int (nI κ), .int (nI α), .int (nI β), .int (nI γ)] (fun U => va_P (dC, dI) vwCl (wT cI ad aK aA aB aC aP aV aN n) U.heap ∧ va_K (dC, dI) vwCl [(cI, .int)] U)) (vp_Si (fun r => r = pq_res (pq_fd fk fa fb fc κ α β γ n 0))) 0 0 (fun _ => False) := by
  refine Met.ofW (cc := cX3_find) (maxL := 6) (ret := (some .int)) (by decide) rfl ?_
  intro p e s m args below meth c s₁ B hml hv
  obtain ⟨rfl, hP, hK⟩ := hv
  have hx := B.exec
  have hb := B.bytes
  have hr := B.returns
  have hts := atoms_spec (ws := wsX3_find) B.pre
  have hown : s.vm.findClass RX3 = some m.cls := findClass_of_methodNamed B.named
  have hlocks := B.notSynchronized
  have hl := lv_entry ([.ref (ad 0), .int (nI κ), .int (nI α), .int (nI β), .int (nI γ)]) (n := 6) (Nat.le_of_ble_eq_true rfl)
  rw [lg_entry_eq]
  generalize (lg_sl ([.ref (ad 0), .int (nI κ), .int (nI α), .int (nI β), .int (nI γ)]) ++ List.replicate (6 - (lg_sl ([.ref (ad 0), .int (nI κ), .int (nI α), .int (nI β), .int (nI γ)])).length) Slot.unset).toArray = ls at hl ⊢
  have hl : lv_has ls 6 [(0, .ref (ad 0)), (1, .int (nI κ)), (2, .int (nI α)), (3, .int (nI β)), (4, .int (nI γ))] := hl
  refine lv_iconst (v := nI 0) hx hb dX3_find_0 (by decide) ?_
  refine lv_istore (lv' := [(5, .int (nI 0)), (0, .ref (ad 0)), (1, .int (nI κ)), (2, .int (nI α)), (3, .int (nI β)), (4, .int (nI γ))]) hx hb dX3_find_1 hl (by decide) rfl (fun ls hl => ?_)
  have hl : lv_has ls 6 [(5, .int (nI 0)), (4, .int (nI γ)), (3, .int (nI β)), (2, .int (nI α)), (1, .int (nI κ)), (0, .ref (ad 0))] := lv_sub hl [0, 5, 4, 3, 2, 1] rfl
  refine xw_loop (pc := 3) (fun (t : Nat) => n - t) (fun (t : Nat) ls H9 locs9 => (t ≤ n ∧ pq_fd fk fa fb fc κ α β γ (n - t) t = pq_fd fk fa fb fc κ α β γ n 0) ∧ H9 = s.heap ∧ locs9 = [] ∧ lv_has ls 6 [(5, .int (nI t)), (4, .int (nI γ)), (3, .int (nI β)), (2, .int (nI α)), (1, .int (nI κ)), (0, .ref (ad 0))]) ?_ 0 ls _ _ ⟨⟨Nat.zero_le _, rfl⟩, rfl, rfl, hl⟩
  intro t ls H9 locs9 ⟨⟨htn, hfd⟩, hH9, hL9, hl⟩ ih
  subst hH9
  subst hL9
  refine lv_iload hx hb dX3_find_3 (lv_at hl 0 rfl) ?_
  refine lv_aload_n hx hb dX3_find_5 rfl (lv_at hl 5 rfl) ?_
  refine va_get (D := (dC, dI)) (ci := 1) (v := .int (nI n)) (C := RX3) (T := TX3) (N := 8) hx hb hts (fun w h => List.mem_cons_of_mem _ (wf_X3 w h)) hown hK hP 0 rfl rfl 7 (by decide) (hts _ (List.mem_cons_of_mem _ wm_fl_X3_33)) (fun _ h9 => h9) rfl dX3_find_6 ?_
  refine lv_icmp_ge (tgt := 66) hx hb dX3_find_9 (by decide) (fun h1 => ?_) (fun h1 => ?_)
  · skip
    have h1 : n ≤ t := (nI_leI (a := n) (b := t) (by omega) (by omega)).mp h1
    refine lv_iconst (v := (-1)) hx hb dX3_find_66 (by decide) ?_
    have etn : t = n := by omega
    have efd : pq_fd fk fa fb fc κ α β γ n 0 = none := by rw [← hfd, etn, Nat.sub_self]; rfl
    exact W.iret (v := (-1)) hx hb hr (fun t9 ht9 hW9 => ⟨(-1), rfl, by rw [efd]; rfl, ht9⟩) (fun q hq => by cases hq) dX3_find_67
  · skip
    have h1 : ¬ n ≤ t := fun z => h1 ((nI_leI (a := n) (b := t) (by omega) (by omega)).mpr z)
    have ht : t < n := by omega
    have hk20 := pt_k20 hT ht
    have ha32 := pt_a32 hn hT ht
    refine lv_aload_n hx hb dX3_find_12 rfl (lv_at hl 5 rfl) ?_
    refine va_get (D := (dC, dI)) (ci := 1) (v := .ref (ad 1)) (C := RX3) (T := TX3) (N := 8) hx hb hts (fun w h => List.mem_cons_of_mem _ (wf_X3 w h)) hown hK hP 0 rfl rfl 0 (by decide) (hts _ (List.mem_cons_of_mem _ wm_fl_X3_9)) (fun _ h9 => h9) rfl dX3_find_13 ?_
    refine lv_iload hx hb dX3_find_16 (lv_at hl 0 rfl) ?_
    refine xr_iald (t := t) (v := nI (fk t)) hx hb hK hP 1 0 rfl rfl (by omega) (by omega) (hk t (by omega)) dX3_find_18 ?_
    refine lv_iload_n hx hb dX3_find_19 rfl (lv_at hl 4 rfl) ?_
    refine lv_icmp_ne (tgt := 60) hx hb dX3_find_20 (by decide) (fun h2 => ?_) (fun h2 => ?_)
    · skip
      have h2 : ¬ fk t = κ := fun z => h2 ((nI_eq (a := (fk t)) (b := κ) (by omega) (by omega)).mpr z)
      refine lv_iinc (k := 0) (v := nI (t + 1)) (lv' := [(5, .int (nI (t + 1))), (4, .int (nI γ)), (3, .int (nI β)), (2, .int (nI α)), (1, .int (nI κ)), (0, .ref (ad 0))]) hx hb dX3_find_60 hl rfl (nI_1 t) (by decide) rfl (fun ls hl => ?_)
      refine lv_goto (tgt := 3) hx hb dX3_find_63 (by decide) ?_
      refine ih (t + 1) ls _ _ ⟨⟨by omega, ?_⟩, rfl, rfl, lv_sub hl [0, 1, 2, 3, 4, 5] rfl⟩ (by show n - (t + 1) < n - t; omega)
      rw [← hfd, show n - t = n - (t + 1) + 1 by omega]
      exact (pq_fd_n fun z => h2 z.1).symm
    · skip
      have h2 : fk t = κ := (nI_eq (a := (fk t)) (b := κ) (by omega) (by omega)).mp h2
      refine lv_aload_n hx hb dX3_find_23 rfl (lv_at hl 5 rfl) ?_
      refine va_get (D := (dC, dI)) (ci := 1) (v := .ref (ad 2)) (C := RX3) (T := TX3) (N := 8) hx hb hts (fun w h => List.mem_cons_of_mem _ (wf_X3 w h)) hown hK hP 0 rfl rfl 1 (by decide) (hts _ (List.mem_cons_of_mem _ wm_fl_X3_15)) (fun _ h9 => h9) rfl dX3_find_24 ?_
      refine lv_iload hx hb dX3_find_27 (lv_at hl 0 rfl) ?_
      refine xr_iald (t := t) (v := nI (fa t)) hx hb hK hP 2 0 rfl rfl (by omega) (by omega) (ha t (by omega)) dX3_find_29 ?_
      refine lv_iload_n hx hb dX3_find_30 rfl (lv_at hl 3 rfl) ?_
      refine lv_icmp_ne (tgt := 60) hx hb dX3_find_31 (by decide) (fun h3 => ?_) (fun h3 => ?_)
      · skip
        have h3 : ¬ fa t = α := fun z => h3 ((nI_eq (a := (fa t)) (b := α) (by omega) (by omega)).mpr z)
        refine lv_iinc (k := 0) (v := nI (t + 1)) (lv' := [(5, .int (nI (t + 1))), (4, .int (nI γ)), (3, .int (nI β)), (2, .int (nI α)), (1, .int (nI κ)), (0, .ref (ad 0))]) hx hb dX3_find_60 hl rfl (nI_1 t) (by decide) rfl (fun ls hl => ?_)
        refine lv_goto (tgt := 3) hx hb dX3_find_63 (by decide) ?_
        refine ih (t + 1) ls _ _ ⟨⟨by omega, ?_⟩, rfl, rfl, lv_sub hl [0, 1, 2, 3, 4, 5] rfl⟩ (by show n - (t + 1) < n - t; omega)
        rw [← hfd, show n - t = n - (t + 1) + 1 by omega]
        exact (pq_fd_n fun z => h3 z.2.1).symm
      · skip
        have h3 : fa t = α := (nI_eq (a := (fa t)) (b := α) (by omega) (by omega)).mp h3
        refine lv_aload_n hx hb dX3_find_34 rfl (lv_at hl 5 rfl) ?_
        refine va_get (D := (dC, dI)) (ci := 1) (v := .ref (ad 3)) (C := RX3) (T := TX3) (N := 8) hx hb hts (fun w h => List.mem_cons_of_mem _ (wf_X3 w h)) hown hK hP 0 rfl rfl 2 (by decide) (hts _ (List.mem_cons_of_mem _ wm_fl_X3_18)) (fun _ h9 => h9) rfl dX3_find_35 ?_
        refine lv_iload hx hb dX3_find_38 (lv_at hl 0 rfl) ?_
        refine xr_iald (t := t) (v := nI (fb t)) hx hb hK hP 3 0 rfl rfl (by omega) (by omega) (hbb t (by omega)) dX3_find_40 ?_
        refine lv_iload_n hx hb dX3_find_41 rfl (lv_at hl 2 rfl) ?_
        refine lv_icmp_ne (tgt := 60) hx hb dX3_find_42 (by decide) (fun h4 => ?_) (fun h4 => ?_)
        · skip
          have hz32 : fb t < 32 := pt_bc32_b hn hT ht
          have h4 : ¬ fb t = β := fun z => h4 ((nI_eq (a := (fb t)) (b := β) (by omega) (by omega)).mpr z)
          refine lv_iinc (k := 0) (v := nI (t + 1)) (lv' := [(5, .int (nI (t + 1))), (4, .int (nI γ)), (3, .int (nI β)), (2, .int (nI α)), (1, .int (nI κ)), (0, .ref (ad 0))]) hx hb dX3_find_60 hl rfl (nI_1 t) (by decide) rfl (fun ls hl => ?_)
          refine lv_goto (tgt := 3) hx hb dX3_find_63 (by decide) ?_
          refine ih (t + 1) ls _ _ ⟨⟨by omega, ?_⟩, rfl, rfl, lv_sub hl [0, 1, 2, 3, 4, 5] rfl⟩ (by show n - (t + 1) < n - t; omega)
          rw [← hfd, show n - t = n - (t + 1) + 1 by omega]
          exact (pq_fd_n fun z => h4 z.2.2.1).symm
        · skip
          have hz32 : fb t < 32 := pt_bc32_b hn hT ht
          have h4 : fb t = β := (nI_eq (a := (fb t)) (b := β) (by omega) (by omega)).mp h4
          refine lv_aload_n hx hb dX3_find_45 rfl (lv_at hl 5 rfl) ?_
          refine va_get (D := (dC, dI)) (ci := 1) (v := .ref (ad 4)) (C := RX3) (T := TX3) (N := 8) hx hb hts (fun w h => List.mem_cons_of_mem _ (wf_X3 w h)) hown hK hP 0 rfl rfl 3 (by decide) (hts _ (List.mem_cons_of_mem _ wm_fl_X3_21)) (fun _ h9 => h9) rfl dX3_find_46 ?_
          refine lv_iload hx hb dX3_find_49 (lv_at hl 0 rfl) ?_
          refine xr_iald (t := t) (v := nI (fc t)) hx hb hK hP 4 0 rfl rfl (by omega) (by omega) (hc t (by omega)) dX3_find_51 ?_
          refine lv_iload hx hb dX3_find_52 (lv_at hl 1 rfl) ?_
          refine lv_icmp_ne (tgt := 60) hx hb dX3_find_54 (by decide) (fun h5 => ?_) (fun h5 => ?_)
          · skip
            have hz32 : fc t < 32 := pt_bc32_c hn hT ht
            have h5 : ¬ fc t = γ := fun z => h5 ((nI_eq (a := (fc t)) (b := γ) (by omega) (by omega)).mpr z)
            refine lv_iinc (k := 0) (v := nI (t + 1)) (lv' := [(5, .int (nI (t + 1))), (4, .int (nI γ)), (3, .int (nI β)), (2, .int (nI α)), (1, .int (nI κ)), (0, .ref (ad 0))]) hx hb dX3_find_60 hl rfl (nI_1 t) (by decide) rfl (fun ls hl => ?_)
            refine lv_goto (tgt := 3) hx hb dX3_find_63 (by decide) ?_
            refine ih (t + 1) ls _ _ ⟨⟨by omega, ?_⟩, rfl, rfl, lv_sub hl [0, 1, 2, 3, 4, 5] rfl⟩ (by show n - (t + 1) < n - t; omega)
            rw [← hfd, show n - t = n - (t + 1) + 1 by omega]
            exact (pq_fd_n fun z => h5 z.2.2.2).symm
          · skip
            have hz32 : fc t < 32 := pt_bc32_c hn hT ht
            have h5 : fc t = γ := (nI_eq (a := (fc t)) (b := γ) (by omega) (by omega)).mp h5
            refine lv_iload hx hb dX3_find_57 (lv_at hl 0 rfl) ?_
            have efd : pq_fd fk fa fb fc κ α β γ n 0 = some t := by
              rw [← hfd, show n - t = n - (t + 1) + 1 by omega]
              exact pq_fd_y ⟨h2, h3, h4, h5⟩
            exact W.iret (v := nI t) hx hb hr (fun t9 ht9 hW9 => ⟨nI t, rfl, by rw [efd]; rfl, ht9⟩) (fun q hq => by cases hq) dX3_find_59
set_option maxHeartbeats 4000000 in
set_option maxRecDepth 100000 in
theorem ctX3_partsOf (hn : n ≤ 12) (st : Int32) : Met l yX3_partsOf wsX3_partsOf ({ frames := 0, cells := 0, slots := 0, locals := 0 }) (va_Pc [.ref (ad 0), .int st] (fun U => va_P (dC, dI) vwCl (wT cI ad aK aA aB aC aP aV aN n) U.heap ∧ va_K (dC, dI) vwCl [(cI, .int)] U)) (vp_Si (fun r => r = pc_po aP st n)) 0 0 (fun _ => False) := by
  refine Met.ofW (cc := cX3_partsOf) (maxL := 4) (ret := (some .int)) (by decide) rfl ?_
  intro p e s m args below meth c s₁ B hml hv
  obtain ⟨rfl, hP, hK⟩ := hv
  have hx := B.exec
  have hb := B.bytes
  have hr := B.returns
  have hts := atoms_spec (ws := wsX3_partsOf) B.pre
  have hown : s.vm.findClass RX3 = some m.cls := findClass_of_methodNamed B.named
  have hlocks := B.notSynchronized
  have hl := lv_entry ([.ref (ad 0), .int st]) (n := 4) (Nat.le_of_ble_eq_true rfl)
  rw [lg_entry_eq]
  generalize (lg_sl ([.ref (ad 0), .int st]) ++ List.replicate (4 - (lg_sl ([.ref (ad 0), .int st])).length) Slot.unset).toArray = ls at hl ⊢
  have hl : lv_has ls 4 [(0, .ref (ad 0)), (1, .int st)] := hl
  refine lv_iconst (v := 0) hx hb dX3_partsOf_0 (by decide) ?_
  refine lv_istore_n (lv' := [(2, .int 0), (0, .ref (ad 0)), (1, .int st)]) hx hb dX3_partsOf_1 rfl hl (by decide) rfl (fun ls hl => ?_)
  refine lv_iconst (v := 0) hx hb dX3_partsOf_2 (by decide) ?_
  refine lv_istore_n (lv' := [(3, .int 0), (2, .int 0), (0, .ref (ad 0)), (1, .int st)]) hx hb dX3_partsOf_3 rfl hl (by decide) rfl (fun ls hl => ?_)
  have hl : lv_has ls 4 [(3, .int (nI 0)), (2, .int (pc_po aP st 0)), (1, .int st), (0, .ref (ad 0))] := lv_sub hl [0, 1, 3, 2] rfl
  refine xw_loop (pc := 4) (fun (t : Nat) => n - t) (fun (t : Nat) ls H9 locs9 => (t ≤ n) ∧ H9 = s.heap ∧ locs9 = [] ∧ lv_has ls 4 [(3, .int (nI t)), (2, .int (pc_po aP st t)), (1, .int st), (0, .ref (ad 0))]) ?_ 0 ls _ _ ⟨Nat.zero_le _, rfl, rfl, hl⟩
  intro t ls H9 locs9 ⟨htn, hH9, hL9, hl⟩ ih
  subst hH9
  subst hL9
  refine lv_iload_n hx hb dX3_partsOf_4 rfl (lv_at hl 0 rfl) ?_
  refine lv_aload_n hx hb dX3_partsOf_5 rfl (lv_at hl 3 rfl) ?_
  refine va_get (D := (dC, dI)) (ci := 1) (v := .int (nI n)) (C := RX3) (T := TX3) (N := 8) hx hb hts (fun w h => List.mem_cons_of_mem _ (wf_X3 w h)) hown hK hP 0 rfl rfl 7 (by decide) (hts _ (List.mem_cons_of_mem _ wm_fl_X3_33)) (fun _ h9 => h9) rfl dX3_partsOf_6 ?_
  refine lv_icmp_ge (tgt := 35) hx hb dX3_partsOf_9 (by decide) (fun h1 => ?_) (fun h1 => ?_)
  · skip
    have h1 : n ≤ t := (nI_leI (a := n) (b := t) (by omega) (by omega)).mp h1
    refine lv_iload_n hx hb dX3_partsOf_35 rfl (lv_at hl 1 rfl) ?_
    have etn : t = n := by omega
    exact W.iret (v := pc_po aP st t) hx hb hr (fun t9 ht9 hW9 => ⟨pc_po aP st t, rfl, by rw [etn], ht9⟩) (fun q hq => by cases hq) dX3_partsOf_36
  · skip
    have h1 : ¬ n ≤ t := fun z => h1 ((nI_leI (a := n) (b := t) (by omega) (by omega)).mpr z)
    refine lv_iload_n hx hb dX3_partsOf_12 rfl (lv_at hl 2 rfl) ?_
    refine lv_iconst (v := 1) hx hb dX3_partsOf_13 (by decide) ?_
    refine lv_iload_n hx hb dX3_partsOf_14 rfl (lv_at hl 0 rfl) ?_
    refine lv_ishl hx hb dX3_partsOf_15 ?_
    refine lv_iand hx hb dX3_partsOf_16 ?_
    refine lv_if_eq (tgt := 29) hx hb dX3_partsOf_17 (by decide) (fun h2 => ?_) (fun h2 => ?_)
    · skip
      refine lv_iinc (k := 0) (v := nI (t + 1)) (lv' := [(3, .int (nI (t + 1))), (2, .int (pc_po aP st t)), (1, .int st), (0, .ref (ad 0))]) hx hb dX3_partsOf_29 hl rfl (nI_1 t) (by decide) rfl (fun ls hl => ?_)
      refine lv_goto (tgt := 4) hx hb dX3_partsOf_32 (by decide) ?_
      have hl := lv_sub hl [0, 1, 2, 3] rfl
      have ep : pc_po aP st t = pc_po aP st (t + 1) := (pc_po_n ((bb_ask st (by omega)).mp h2)).symm
      rw [ep] at hl
      exact ih (t + 1) ls _ _ ⟨by omega, rfl, rfl, hl⟩ (by show n - (t + 1) < n - t; omega)
    · skip
      refine lv_iload_n hx hb dX3_partsOf_20 rfl (lv_at hl 1 rfl) ?_
      refine lv_aload_n hx hb dX3_partsOf_21 rfl (lv_at hl 3 rfl) ?_
      refine va_get (D := (dC, dI)) (ci := 1) (v := .ref (ad 5)) (C := RX3) (T := TX3) (N := 8) hx hb hts (fun w h => List.mem_cons_of_mem _ (wf_X3 w h)) hown hK hP 0 rfl rfl 4 (by decide) (hts _ (List.mem_cons_of_mem _ wm_fl_X3_24)) (fun _ h9 => h9) rfl dX3_partsOf_22 ?_
      refine lv_iload_n hx hb dX3_partsOf_25 rfl (lv_at hl 0 rfl) ?_
      refine xr_iald (t := t) (v := aP t) hx hb hK hP 5 0 rfl rfl (by omega) (by omega) (rfl) dX3_partsOf_26 ?_
      refine lv_ior hx hb dX3_partsOf_27 ?_
      refine lv_istore_n (lv' := [(2, .int ((pc_po aP st t) ||| (aP t))), (3, .int (nI t)), (1, .int st), (0, .ref (ad 0))]) hx hb dX3_partsOf_28 rfl hl (by decide) rfl (fun ls hl => ?_)
      refine lv_iinc (k := 1) (v := nI (t + 1)) (lv' := [(3, .int (nI (t + 1))), (2, .int ((pc_po aP st t) ||| (aP t))), (1, .int st), (0, .ref (ad 0))]) hx hb dX3_partsOf_29 hl rfl (nI_1 t) (by decide) rfl (fun ls hl => ?_)
      refine lv_goto (tgt := 4) hx hb dX3_partsOf_32 (by decide) ?_
      have hl := lv_sub hl [0, 1, 2, 3] rfl
      have ep : (pc_po aP st t) ||| (aP t) = pc_po aP st (t + 1) := (pc_po_y (by cases hq : bb_t st t with | true => rfl | false => exact absurd ((bb_ask st (by omega)).mpr hq) h2)).symm
      rw [ep] at hl
      exact ih (t + 1) ls _ _ ⟨by omega, rfl, rfl, hl⟩ (by show n - (t + 1) < n - t; omega)
set_option maxHeartbeats 4000000 in
set_option maxRecDepth 100000 in
theorem ctX3_workOut (hn : n ≤ 12) (fk fa fb fc : Nat → Nat) (hk : ∀ t, t < n → aK t = nI (fk t)) (ha : ∀ t, t < n → aA t = nI (fa t)) (hbb : ∀ t, t < n → aB t = nI (fb t)) (hc : ∀ t, t < n → aC t = nI (fc t)) (hT : pv_TI fk fa fb fc n) (t : Nat) (ht : t < n) (x y : Int32) : Met l yX3_workOut wsX3_workOut ({ frames := 3, cells := 0, slots := 0, locals := 68 }) (va_Pc [.ref (ad 0), .int (nI t), .int x, .int y] (fun U => va_P (dC, dI) vwCl (wT cI ad aK aA aB aC aP aV aN n) U.heap ∧ va_K (dC, dI) vwCl [(cI, .int)] U)) (vp_Si (fun r => r = pc_one fk fa fb fc x y aN t)) 0 0 (fun _ => False) := by
  refine Met.ofW (cc := cX3_workOut) (maxL := 8) (ret := (some .int)) (by decide) rfl ?_
  intro p e s m args below meth c s₁ B hml hv
  obtain ⟨rfl, hP, hK⟩ := hv
  have hx := B.exec
  have hb := B.bytes
  have hr := B.returns
  have hts := atoms_spec (ws := wsX3_workOut) B.pre
  have hown : s.vm.findClass RX3 = some m.cls := findClass_of_methodNamed B.named
  have hlocks := B.notSynchronized
  have hl := lv_entry ([.ref (ad 0), .int (nI t), .int x, .int y]) (n := 8) (Nat.le_of_ble_eq_true rfl)
  rw [lg_entry_eq]
  generalize (lg_sl ([.ref (ad 0), .int (nI t), .int x, .int y]) ++ List.replicate (8 - (lg_sl ([.ref (ad 0), .int (nI t), .int x, .int y])).length) Slot.unset).toArray = ls at hl ⊢
  have hl : lv_has ls 8 [(0, .ref (ad 0)), (1, .int (nI t)), (2, .int x), (3, .int y)] := hl
  have hk20 := pt_k20 hT ht
  have ha32 := pt_a32 hn hT ht
  refine lv_aload_n hx hb dX3_workOut_0 rfl (lv_at hl 0 rfl) ?_
  refine va_get (D := (dC, dI)) (ci := 1) (v := .ref (ad 1)) (C := RX3) (T := TX3) (N := 8) hx hb hts (fun w h => List.mem_cons_of_mem _ (wf_X3 w h)) hown hK hP 0 rfl rfl 0 (by decide) (hts _ (List.mem_cons_of_mem _ wm_fl_X3_9)) (fun _ h9 => h9) rfl dX3_workOut_1 ?_
  refine lv_iload_n hx hb dX3_workOut_4 rfl (lv_at hl 1 rfl) ?_
  refine xr_iald (t := t) (v := nI (fk t)) hx hb hK hP 1 0 rfl rfl (by omega) (by omega) (hk t (by omega)) dX3_workOut_5 ?_
  refine lv_istore (lv' := [(4, .int (nI (fk t))), (0, .ref (ad 0)), (1, .int (nI t)), (2, .int x), (3, .int y)]) hx hb dX3_workOut_6 hl (by decide) rfl (fun ls hl => ?_)
  refine lv_iload hx hb dX3_workOut_8 (lv_at hl 0 rfl) ?_
  refine lv_if_ne (tgt := 28) hx hb dX3_workOut_10 (by decide) (fun h1 => ?_) (fun h1 => ?_)
  · skip
    have h1 : ¬ fk t = 0 := fun z => h1 ((nI_eq (a := (fk t)) (b := 0) (by omega) (by omega)).mpr z)
    refine lv_iload hx hb dX3_workOut_28 (lv_at hl 0 rfl) ?_
    refine lv_iconst (v := nI 1) hx hb dX3_workOut_30 (by decide) ?_
    refine lv_icmp_ne (tgt := 41) hx hb dX3_workOut_31 (by decide) (fun h2 => ?_) (fun h2 => ?_)
    · skip
      have h2 : ¬ fk t = 1 := fun z => h2 ((nI_eq (a := (fk t)) (b := 1) (by omega) (by omega)).mpr z)
      obtain ⟨la, lb, lc⟩ := pt_lt hn hT ht h1 h2
      refine lv_aload_n hx hb dX3_workOut_41 rfl (lv_at hl 1 rfl) ?_
      refine va_get (D := (dC, dI)) (ci := 1) (v := .ref (ad 7)) (C := RX3) (T := TX3) (N := 8) hx hb hts (fun w h => List.mem_cons_of_mem _ (wf_X3 w h)) hown hK hP 0 rfl rfl 6 (by decide) (hts _ (List.mem_cons_of_mem _ wm_fl_X3_30)) (fun _ h9 => h9) rfl dX3_workOut_42 ?_
      refine lv_aload_n hx hb dX3_workOut_45 rfl (lv_at hl 1 rfl) ?_
      refine va_get (D := (dC, dI)) (ci := 1) (v := .ref (ad 2)) (C := RX3) (T := TX3) (N := 8) hx hb hts (fun w h => List.mem_cons_of_mem _ (wf_X3 w h)) hown hK hP 0 rfl rfl 1 (by decide) (hts _ (List.mem_cons_of_mem _ wm_fl_X3_15)) (fun _ h9 => h9) rfl dX3_workOut_46 ?_
      refine lv_iload_n hx hb dX3_workOut_49 rfl (lv_at hl 2 rfl) ?_
      refine xr_iald (t := t) (v := nI (fa t)) hx hb hK hP 2 0 rfl rfl (by omega) (by omega) (ha t (by omega)) dX3_workOut_50 ?_
      refine xr_iald (t := fa t) (v := aN (fa t)) hx hb hK hP 7 0 rfl rfl (by omega) (by omega) (rfl) dX3_workOut_51 ?_
      refine lv_istore (lv' := [(5, .int (aN (fa t))), (4, .int (nI (fk t))), (0, .ref (ad 0)), (1, .int (nI t)), (2, .int x), (3, .int y)]) hx hb dX3_workOut_52 hl (by decide) rfl (fun ls hl => ?_)
      refine lv_aload_n hx hb dX3_workOut_54 rfl (lv_at hl 2 rfl) ?_
      refine va_get (D := (dC, dI)) (ci := 1) (v := .ref (ad 7)) (C := RX3) (T := TX3) (N := 8) hx hb hts (fun w h => List.mem_cons_of_mem _ (wf_X3 w h)) hown hK hP 0 rfl rfl 6 (by decide) (hts _ (List.mem_cons_of_mem _ wm_fl_X3_30)) (fun _ h9 => h9) rfl dX3_workOut_55 ?_
      refine lv_aload_n hx hb dX3_workOut_58 rfl (lv_at hl 2 rfl) ?_
      refine va_get (D := (dC, dI)) (ci := 1) (v := .ref (ad 3)) (C := RX3) (T := TX3) (N := 8) hx hb hts (fun w h => List.mem_cons_of_mem _ (wf_X3 w h)) hown hK hP 0 rfl rfl 2 (by decide) (hts _ (List.mem_cons_of_mem _ wm_fl_X3_18)) (fun _ h9 => h9) rfl dX3_workOut_59 ?_
      refine lv_iload_n hx hb dX3_workOut_62 rfl (lv_at hl 3 rfl) ?_
      refine xr_iald (t := t) (v := nI (fb t)) hx hb hK hP 3 0 rfl rfl (by omega) (by omega) (hbb t (by omega)) dX3_workOut_63 ?_
      refine xr_iald (t := fb t) (v := aN (fb t)) hx hb hK hP 7 0 rfl rfl (by omega) (by omega) (rfl) dX3_workOut_64 ?_
      refine lv_istore (lv' := [(6, .int (aN (fb t))), (5, .int (aN (fa t))), (4, .int (nI (fk t))), (0, .ref (ad 0)), (1, .int (nI t)), (2, .int x), (3, .int y)]) hx hb dX3_workOut_65 hl (by decide) rfl (fun ls hl => ?_)
      refine lv_aload_n hx hb dX3_workOut_67 rfl (lv_at hl 3 rfl) ?_
      refine va_get (D := (dC, dI)) (ci := 1) (v := .ref (ad 7)) (C := RX3) (T := TX3) (N := 8) hx hb hts (fun w h => List.mem_cons_of_mem _ (wf_X3 w h)) hown hK hP 0 rfl rfl 6 (by decide) (hts _ (List.mem_cons_of_mem _ wm_fl_X3_30)) (fun _ h9 => h9) rfl dX3_workOut_68 ?_
      refine lv_aload_n hx hb dX3_workOut_71 rfl (lv_at hl 3 rfl) ?_
      refine va_get (D := (dC, dI)) (ci := 1) (v := .ref (ad 4)) (C := RX3) (T := TX3) (N := 8) hx hb hts (fun w h => List.mem_cons_of_mem _ (wf_X3 w h)) hown hK hP 0 rfl rfl 3 (by decide) (hts _ (List.mem_cons_of_mem _ wm_fl_X3_21)) (fun _ h9 => h9) rfl dX3_workOut_72 ?_
      refine lv_iload_n hx hb dX3_workOut_75 rfl (lv_at hl 4 rfl) ?_
      refine xr_iald (t := t) (v := nI (fc t)) hx hb hK hP 4 0 rfl rfl (by omega) (by omega) (hc t (by omega)) dX3_workOut_76 ?_
      refine xr_iald (t := fc t) (v := aN (fc t)) hx hb hK hP 7 0 rfl rfl (by omega) (by omega) (rfl) dX3_workOut_77 ?_
      refine lv_istore (lv' := [(7, .int (aN (fc t))), (6, .int (aN (fb t))), (5, .int (aN (fa t))), (4, .int (nI (fk t))), (0, .ref (ad 0)), (1, .int (nI t)), (2, .int x), (3, .int y)]) hx hb dX3_workOut_78 hl (by decide) rfl (fun ls hl => ?_)
      refine lv_iload hx hb dX3_workOut_80 (lv_at hl 3 rfl) ?_
      by_cases k3 : fk t = 9
      · refine lv_lookup (off := 42) (tgt := 124) hx hb dX3_workOut_82 (by decide) (by rw [k3]; decide) (by decide) ?_
        refine lv_iload hx hb dX3_workOut_124 (lv_at hl 2 rfl) ?_
        refine lv_iconst (v := 1) hx hb dX3_workOut_126 (by decide) ?_
        refine lv_icmp_ne (tgt := 135) hx hb dX3_workOut_127 (by decide) (fun h4 => ?_) (fun h4 => ?_)
        · skip
          refine lv_iload hx hb dX3_workOut_135 (lv_at hl 0 rfl) ?_
          exact W.iret (v := aN (fc t)) hx hb hr (fun t9 ht9 hW9 => ⟨aN (fc t), rfl, by first | (simp only [pc_one, h1, h2, k3, h4, ↓reduceIte, not_true_eq_false, not_false_eq_true, and_true, true_and, and_false, false_and, or_true, true_or, or_false, false_or, and_self, or_self]; done) | (simp [pc_one, h1, h2, k3, h4]; done), ht9⟩) (fun q hq => by cases hq) dX3_workOut_137
        · skip
          refine lv_iload hx hb dX3_workOut_130 (lv_at hl 1 rfl) ?_
          refine lv_goto (tgt := 137) hx hb dX3_workOut_132 (by decide) ?_
          exact W.iret (v := aN (fb t)) hx hb hr (fun t9 ht9 hW9 => ⟨aN (fb t), rfl, by first | (simp only [pc_one, h1, h2, k3, h4, ↓reduceIte, not_true_eq_false, not_false_eq_true, and_true, true_and, and_false, false_and, or_true, true_or, or_false, false_or, and_self, or_self]; done) | (simp [pc_one, h1, h2, k3, h4]; done), ht9⟩) (fun q hq => by cases hq) dX3_workOut_137
      by_cases k5 : fk t = 17
      · refine lv_lookup (off := 56) (tgt := 138) hx hb dX3_workOut_82 (by decide) (by rw [k5]; decide) (by decide) ?_
        refine lv_iconst (v := 1) hx hb dX3_workOut_138 (by decide) ?_
        refine lv_iload hx hb dX3_workOut_139 (lv_at hl 2 rfl) ?_
        refine lv_isub hx hb dX3_workOut_141 ?_
        exact W.iret (v := 1 - (aN (fa t))) hx hb hr (fun t9 ht9 hW9 => ⟨1 - (aN (fa t)), rfl, by first | (simp only [pc_one, h1, h2, k3, k5, ↓reduceIte, not_true_eq_false, not_false_eq_true, and_true, true_and, and_false, false_and, or_true, true_or, or_false, false_or, and_self, or_self]; done) | (simp [pc_one, h1, h2, k3, k5]; done), ht9⟩) (fun q hq => by cases hq) dX3_workOut_142
      by_cases k6 : fk t = 18
      · refine lv_lookup (off := 61) (tgt := 143) hx hb dX3_workOut_82 (by decide) (by rw [k6]; decide) (by decide) ?_
        refine lv_iload hx hb dX3_workOut_143 (lv_at hl 2 rfl) ?_
        refine lv_iload hx hb dX3_workOut_145 (lv_at hl 1 rfl) ?_
        refine lv_iand hx hb dX3_workOut_147 ?_
        exact W.iret (v := (aN (fa t)) &&& (aN (fb t))) hx hb hr (fun t9 ht9 hW9 => ⟨(aN (fa t)) &&& (aN (fb t)), rfl, by first | (simp only [pc_one, h1, h2, k3, k5, k6, ↓reduceIte, not_true_eq_false, not_false_eq_true, and_true, true_and, and_false, false_and, or_true, true_or, or_false, false_or, and_self, or_self]; done) | (simp [pc_one, h1, h2, k3, k5, k6]; done), ht9⟩) (fun q hq => by cases hq) dX3_workOut_148
      by_cases k7 : fk t = 19
      · refine lv_lookup (off := 67) (tgt := 149) hx hb dX3_workOut_82 (by decide) (by rw [k7]; decide) (by decide) ?_
        refine lv_iload hx hb dX3_workOut_149 (lv_at hl 2 rfl) ?_
        refine lv_iload hx hb dX3_workOut_151 (lv_at hl 1 rfl) ?_
        refine lv_ior hx hb dX3_workOut_153 ?_
        exact W.iret (v := (aN (fa t)) ||| (aN (fb t))) hx hb hr (fun t9 ht9 hW9 => ⟨(aN (fa t)) ||| (aN (fb t)), rfl, by first | (simp only [pc_one, h1, h2, k3, k5, k6, k7, ↓reduceIte, not_true_eq_false, not_false_eq_true, and_true, true_and, and_false, false_and, or_true, true_or, or_false, false_or, and_self, or_self]; done) | (simp [pc_one, h1, h2, k3, k5, k6, k7]; done), ht9⟩) (fun q hq => by cases hq) dX3_workOut_154
      refine lv_lookup (off := 73) (tgt := 155) hx hb dX3_workOut_82 (by decide) (sw_look hk20 k3 k5 k6 k7) (by decide) ?_
      refine lv_iload hx hb dX3_workOut_155 (lv_at hl 3 rfl) ?_
      refine lv_iload hx hb dX3_workOut_157 (lv_at hl 2 rfl) ?_
      refine lv_iload hx hb dX3_workOut_159 (lv_at hl 1 rfl) ?_
      refine vp_callSi (W.runS (As := [.int (nI (fk t)), .int (aN (fa t)), .int (aN (fb t))]) (rest := []) ⟨hx, hb, hml, hown, hts⟩ (ctX1_operate l (nI (fk t)) (aN (fa t)) (aN (fb t))) (va_cwS 3 hts (wA_wsS wm_ml_X3_93 wm_st_X1_operate wm_in_X1 wm_cd_X1_operate) rfl rfl rfl (by decide +kernel) ⟨Nat.le_of_ble_eq_true rfl, Nat.le_of_ble_eq_true rfl⟩) ⟨fun a U g mk q => q, fun U hU hW => ⟨rfl, trivial⟩⟩ rfl rfl hl.1 rfl (lv_room (Nat.le_of_ble_eq_true rfl)) dX3_workOut_161 ⟨Nat.zero_le _, Nat.zero_le _⟩) (fun r8 er8 => ?_)
      subst er8
      exact W.iret (v := pu_op (nI (fk t)) (aN (fa t)) (aN (fb t))) hx hb hr (fun t9 ht9 hW9 => ⟨pu_op (nI (fk t)) (aN (fa t)) (aN (fb t)), rfl, by first | (simp only [pc_one, h1, h2, k3, k5, k6, k7, ↓reduceIte, not_true_eq_false, not_false_eq_true, and_true, true_and, and_false, false_and, or_true, true_or, or_false, false_or, and_self, or_self]; done) | (simp [pc_one, h1, h2, k3, k5, k6, k7]; done), ht9⟩) (fun q hq => by cases hq) dX3_workOut_164
    · skip
      have h2 : fk t = 1 := (nI_eq (a := (fk t)) (b := 1) (by omega) (by omega)).mp h2
      refine lv_aload_n hx hb dX3_workOut_34 rfl (lv_at hl 1 rfl) ?_
      refine va_get (D := (dC, dI)) (ci := 1) (v := .ref (ad 2)) (C := RX3) (T := TX3) (N := 8) hx hb hts (fun w h => List.mem_cons_of_mem _ (wf_X3 w h)) hown hK hP 0 rfl rfl 1 (by decide) (hts _ (List.mem_cons_of_mem _ wm_fl_X3_15)) (fun _ h9 => h9) rfl dX3_workOut_35 ?_
      refine lv_iload_n hx hb dX3_workOut_38 rfl (lv_at hl 2 rfl) ?_
      refine xr_iald (t := t) (v := nI (fa t)) hx hb hK hP 2 0 rfl rfl (by omega) (by omega) (ha t (by omega)) dX3_workOut_39 ?_
      exact W.iret (v := nI (fa t)) hx hb hr (fun t9 ht9 hW9 => ⟨nI (fa t), rfl, by first | (simp only [pc_one, h1, h2, ↓reduceIte, not_true_eq_false, not_false_eq_true, and_true, true_and, and_false, false_and, or_true, true_or, or_false, false_or, and_self, or_self]; done) | (simp [pc_one, h1, h2]; done), ht9⟩) (fun q hq => by cases hq) dX3_workOut_40
  · skip
    have h1 : fk t = 0 := (nI_eq (a := (fk t)) (b := 0) (by omega) (by omega)).mp h1
    refine lv_aload_n hx hb dX3_workOut_13 rfl (lv_at hl 1 rfl) ?_
    refine va_get (D := (dC, dI)) (ci := 1) (v := .ref (ad 2)) (C := RX3) (T := TX3) (N := 8) hx hb hts (fun w h => List.mem_cons_of_mem _ (wf_X3 w h)) hown hK hP 0 rfl rfl 1 (by decide) (hts _ (List.mem_cons_of_mem _ wm_fl_X3_15)) (fun _ h9 => h9) rfl dX3_workOut_14 ?_
    refine lv_iload_n hx hb dX3_workOut_17 rfl (lv_at hl 2 rfl) ?_
    refine xr_iald (t := t) (v := nI (fa t)) hx hb hK hP 2 0 rfl rfl (by omega) (by omega) (ha t (by omega)) dX3_workOut_18 ?_
    refine lv_if_ne (tgt := 26) hx hb dX3_workOut_19 (by decide) (fun h9 => ?_) (fun h9 => ?_)
    · skip
      have h9 : ¬ fa t = 0 := fun z => h9 ((nI_eq (a := (fa t)) (b := 0) (by omega) (by omega)).mpr z)
      refine lv_iload_n hx hb dX3_workOut_26 rfl (lv_at hl 4 rfl) ?_
      exact W.iret (v := y) hx hb hr (fun t9 ht9 hW9 => ⟨y, rfl, by first | (simp only [pc_one, h1, h9, ↓reduceIte, not_true_eq_false, not_false_eq_true, and_true, true_and, and_false, false_and, or_true, true_or, or_false, false_or, and_self, or_self]; done) | (simp [pc_one, h1, h9]; done), ht9⟩) (fun q hq => by cases hq) dX3_workOut_27
    · skip
      have h9 : fa t = 0 := (nI_eq (a := (fa t)) (b := 0) (by omega) (by omega)).mp h9
      refine lv_iload_n hx hb dX3_workOut_22 rfl (lv_at hl 3 rfl) ?_
      refine lv_goto (tgt := 27) hx hb dX3_workOut_23 (by decide) ?_
      exact W.iret (v := x) hx hb hr (fun t9 ht9 hW9 => ⟨x, rfl, by first | (simp only [pc_one, h1, h9, ↓reduceIte, not_true_eq_false, not_false_eq_true, and_true, true_and, and_false, false_and, or_true, true_or, or_false, false_or, and_self, or_self]; done) | (simp [pc_one, h1, h9]; done), ht9⟩) (fun q hq => by cases hq) dX3_workOut_27
end TT2
