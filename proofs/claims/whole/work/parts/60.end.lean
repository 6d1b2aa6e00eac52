def R_law : String := "FloatSolverLaw"
def lw_P (b : Addr) (xs : List Int32) (args : Array Value) (s : State) : Prop := args = #[.ref b] ∧ s.IntsAt b xs ∧ xs.length ≤ 2560 ∧ (Jvm.Cond.and given_1 narrow_1).before args s = true
def lw_Q (_ : Array Value) (s : State) (o : Outcome) (t : State) : Prop := o = .returned (some (.int 1)) ∧ Framed s o t [] 1058 8480
def lw_Z (below : List Frame) (a : Array Value) (s : State) : State → Prop := fun t => ∃ o, t.status = .running ∧ Ended t below o ∧ lw_Q a s o t
/-- the law's own end, with 1 on the stack, nothing written that was there before, its room as the claim has it -/
theorem lw_ret {p : Program} {l : Launch} {e : Env} {s : State} {m : MethodId} {below : List Frame} {meth : Method} {c : Code} {b : Nat} (hx : p.tables.exec = Jvm.exec) (hb : c.code = code) (hr : meth.sig.returnType = ret) (hlocks : meth.locks = false) {pc : Nat} {H : Heap} {ls : Array Slot} (hdg : decode code pc = .ok (.ireturn, 1)) : W p l e room_1 s m #[Value.ref b] below meth c H [] 1058 8480 (lw_Z below #[Value.ref b] s) (F0 m pc ls [.int 1]) := by
  intro T hT X
  obtain ⟨fs, hret, hrun, hended, hW, hframe⟩ := X.leave (v := some (.int 1)) (hlocks := hlocks) (fun h => by rw [hr] at h; cases h)
  have hmeth' : T.vm.method? m = some meth := X.method'
  refine ⟨T.setFrames fs, ?_, .returned (some (.int 1)), hrun, hended, rfl, ⟨_, rfl⟩, hW, hframe⟩
  jvm_step X.here [X.here.top, hx, hb, hdg, hmeth', hr, ret, narrow_b1]
  (try refine ⟨rfl, ?_⟩); (try refine ⟨rfl, ?_⟩)
  first | (intro acts; rw [hret _ acts rfl rfl rfl]) | rw [hret _ _ rfl rfl rfl]
  exact Steps.refl _
/-- what holds at the law's entry: the machine, the code, the tables' words (any of lw_tbl by 'hts w (by decide +kernel)'), the script of L ints xs at the cell b, what the Statement gives of the start (any of its parts by flat_of_before) -/
def lw_At (p : Program) (s : State) (m : MethodId) (meth : Method) (c : Code) (b L : Nat) (xs : Nat → Int32) : Prop :=
  p.tables.exec = Jvm.exec ∧ c.code = code ∧ meth.sig.returnType = ret ∧ c.maxLocals = 7 ∧ s.vm.findClass R_law = some m.cls ∧ (∀ w ∈ lw_tbl, w.before #[Value.ref b] s = true) ∧ va_X b L xs s s.heap ∧ b < s.heap.size ∧ meth.locks = false ∧ (Jvm.Cond.and given_1 narrow_1).before #[Value.ref b] s = true
/-! what the start gives -/
theorem ws_wA {s : State} {args : Array Value} (h : ∀ w ∈ lw_tbl, w.before args s = true) : ∀ w ∈ Cond.initialized RL :: wA, w.before args s = true := fun w hw => (List.mem_cons.mp hw).elim (fun e => by rw [e]; exact h _ (List.mem_filter.mp wm_in_L).1) (fun hw => h w (List.mem_filter.mp hw).1)
theorem ws_K {s : State} {args : Array Value} (h : ∀ w ∈ Cond.initialized RL :: wA, w.before args s = true) : ∃ (dC : Nat → ClassId) (dI : Nat → Nat → Nat) (cI cJ : ClassId), va_K (dC, dI) vwCl [(cI, .int), (cJ, .long)] s := by
  obtain ⟨c0, i0, h0⟩ := u_known (C := RX0) (T := TX0) (N := 4) h (fun w q => List.mem_cons_of_mem _ (wf_X0 w q)) (h _ (List.mem_cons_of_mem _ wm_it_X0))
  obtain ⟨c3, i3, h3⟩ := u_known (C := RX3) (T := TX3) (N := 8) h (fun w q => List.mem_cons_of_mem _ (wf_X3 w q)) (h _ (List.mem_cons_of_mem _ wm_it_X3))
  obtain ⟨c4, i4, h4⟩ := u_known (C := RX4) (T := TX4) (N := 5) h (fun w q => List.mem_cons_of_mem _ (wf_X4 w q)) (h _ (List.mem_cons_of_mem _ wm_it_X4))
  obtain ⟨c5, i5, h5⟩ := u_known (C := RX5) (T := TX5) (N := 14) h (fun w q => List.mem_cons_of_mem _ (wf_X5 w q)) (h _ (List.mem_cons_of_mem _ wm_it_X5))
  obtain ⟨cI, kI, pI, f1, f2, f3⟩ := Cond.arrayClass_spec (show (Cond.arrayClass .int).holds args s none s [] = true from h _ (List.mem_cons_of_mem _ wm_ac_int))
  obtain ⟨cJ, kJ, pJ, g1, g2, g3⟩ := Cond.arrayClass_spec (show (Cond.arrayClass .long).holds args s none s [] = true from h _ (List.mem_cons_of_mem _ wm_ac_long))
  refine ⟨fun i => match i with | 0 => c0 | 1 => c3 | 2 => c4 | _ => c5, fun i => match i with | 0 => i0 | 1 => i3 | 2 => i4 | _ => i5, cI, cJ, ?_, ?_⟩
  · intro k q hq
    rcases k with _ | _ | _ | _ | k
    · cases hq; exact h0
    · cases hq; exact h3
    · cases hq; exact h4
    · cases hq; exact h5
    · exact absurd hq (by simp [vwCl])
  · intro k q hq
    rcases k with _ | _ | k
    · cases hq; exact ⟨fun n z => ⟨fun k h => (by cases h), kI, f2, pI, f3⟩, f1⟩
    · cases hq; exact ⟨fun n z => ⟨fun k h => (by cases h), kJ, g2, pJ, g3⟩, g1⟩
    · exact absurd hq (by simp)
theorem ws_n0 : Cond.castable "java/lang/IllegalArgumentException" "java/lang/IllegalArgumentException" ∈ lw_tbl := by decide +kernel
theorem ws_n1 : Cond.castable "java/lang/IllegalStateException" "java/lang/IllegalStateException" ∈ lw_tbl := by decide +kernel
theorem ws_n2 : Cond.castable "java/util/NoSuchElementException" "java/util/NoSuchElementException" ∈ lw_tbl := by decide +kernel
theorem ws_n3 : Cond.declares ⟨"java/lang/RuntimeException", "<init>", "(Ljava/lang/String;)V"⟩ ∈ lw_tbl := by decide +kernel
theorem ws_n4 : Cond.declares ⟨"java/lang/Exception", "<init>", "(Ljava/lang/String;)V"⟩ ∈ lw_tbl := by decide +kernel
theorem ws_n5 : Cond.declares ⟨"java/lang/Throwable", "<init>", "(Ljava/lang/String;)V"⟩ ∈ lw_tbl := by decide +kernel
theorem ws_s : ∀ q ∈ tx_strs, Cond.stringRef RX4 q.1 q.2 ∈ lw_tbl := by decide +kernel
theorem ws_l1 : Cond.laysStatic Bundle.tN "UNASSIGNED_STACK" Bundle.steD ∈ lw_tbl := by decide +kernel
theorem ws_l2 : Cond.laysStatic Bundle.tN "SUPPRESSED_SENTINEL" Bundle.listD ∈ lw_tbl := by decide +kernel
theorem ws_i1 : Cond.isRef (.static Bundle.tN "UNASSIGNED_STACK" Bundle.steD) ∈ flatC (Jvm.Cond.and given_1 narrow_1) := by decide +kernel
theorem ws_i2 : Cond.isRef (.static Bundle.tN "SUPPRESSED_SENTINEL" Bundle.listD) ∈ flatC (Jvm.Cond.and given_1 narrow_1) := by decide +kernel
theorem ws_c1 : Cond.not (.castable "java/lang/IllegalStateException" "java/lang/IllegalArgumentException") ∈ flatC (Jvm.Cond.and given_1 narrow_1) := by decide +kernel
theorem ws_c2 : Cond.not (.castable "java/util/NoSuchElementException" "java/lang/IllegalArgumentException") ∈ flatC (Jvm.Cond.and given_1 narrow_1) := by decide +kernel
theorem ws_x : ∀ q ∈ tx_strs, Cond.exactly (.string RX4 q.1) "java/lang/String" ∈ flatC (Jvm.Cond.and given_1 narrow_1) := by decide +kernel
theorem ws_E {s : State} {args : Array Value} (h : ∀ w ∈ lw_tbl, w.before args s = true) (hg : (Jvm.Cond.and given_1 narrow_1).before args s = true) {A : Nat → Prop} (hA : ∀ a : Nat, a < s.heap.size → ¬ A a) : ∃ sa : Nat → Nat, tx_E A sa s s.heap := by
  have hf := flat_of_before _ hg
  have h0 : ∀ k : Nat, ∃ a : Nat, ∀ q ∈ tx_strs, q.1 = k → (Term.string RX4 k).eval args s none [] s = some (.ref a) := by
    intro k
    by_cases hk : ∃ q ∈ tx_strs, q.1 = k
    · obtain ⟨q, hq, rfl⟩ := hk
      obtain ⟨a, c9, cA, kA, q1, -⟩ := Cond.exactly_spec (args := args) (first := s) (o := none) (s := s) (idx := []) (t := .string RX4 q.1) (cls := "java/lang/String") (hf _ (ws_x q hq))
      exact ⟨a, fun _ _ _ => q1⟩
    · exact ⟨0, fun q hq e => absurd ⟨q, hq, e⟩ hk⟩
  obtain ⟨sa, hsa⟩ := Classical.axiomOfChoice h0
  have hin : (Cond.initialized Bundle.tN).before args s = true := h _ (List.mem_filter.mp wm_in_Throwable).1
  refine ⟨sa, ⟨vx_Zqof (h _ ws_l1) hin (hf _ ws_i1) hA, vx_Zqof (h _ ws_l2) hin (hf _ ws_i2) hA⟩, ⟨va_Nw.of rfl (h _ ws_n0), va_Nw.of rfl (h _ ws_n1), va_Nw.of rfl (h _ ws_n2), va_Nw.of rfl (h _ ws_n3), va_Nw.of rfl (h _ ws_n4), va_Nw.of rfl (h _ ws_n5)⟩, ⟨va_Nc.of (hf _ ws_c1), va_Nc.of (hf _ ws_c2)⟩, fun q hq => ?_⟩
  have h1 := h _ (ws_s q hq)
  have h2 := hsa q.1 q hq rfl
  refine ⟨?_, ?_⟩
  · have h3 := h1
    simp only [Cond.before, Cond.holds, Cond.value] at h3 ⊢
    exact h3
  · rw [← h2]
    rfl
set_option maxHeartbeats 4000000 in
set_option maxRecDepth 100000 in
theorem whole_start {p : Program} {e : Env} {s : State} {m : MethodId} {below : List Frame} {meth : Method} {c : Code} (l : Launch) (hl9 : l.stackTraces = false) {b L : Nat} {xs : Nat → Int32} (hL : L ≤ 2560) (C0 : lw_At p s m meth c b L xs) : W p l e room_1 s m #[Value.ref b] below meth c s.heap [] 0 0 (lw_Z below #[Value.ref b] s) (entryFrame m ([Value.ref b] : List Value).toArray 7) := by
  obtain ⟨hx, hb, hr, hml, hown, hts0, hX, hbl, hlocks, hgv⟩ := C0
  have hts := ws_wA hts0
  obtain ⟨dC, dI, cI, cJ, hK⟩ := ws_K hts
  obtain ⟨A9, hA9⟩ : ∃ A : Nat → Prop, A = fun q => s.heap.size ≤ q := ⟨_, rfl⟩
  have hA : ∀ q : Nat, s.heap.size ≤ q → A9 q := fun q h => by rw [hA9]; exact h
  have hA2 : ∀ q : Nat, A9 q → s.heap.size ≤ q := fun q h => by rw [hA9] at h; exact h
  have hbA : ¬ A9 b := fun z => absurd (hA2 b z) (by omega)
  obtain ⟨sa, hE⟩ := ws_E (A := A9) hts0 hgv (fun a h z => absurd (hA2 a z) (by omega))
  have hn3 : va_Nw (.methodLinkNest RX4 9 yX3_init RX4) s := va_Nw.of rfl (hts0 _ wl_mn_X4_9)
  have hn0 : va_Nw (.methodLinkNest RX4 18 yX0_init RX4) s := va_Nw.of rfl (hts0 _ wl_mn_X4_18)
  have hKc := hK.sub (tys' := [(cI, .int)]) [0] rfl
  have hP : va_P (dC, dI) vwCl [] s.heap := fun k q hq => by simp at hq
  have hD : va_D A9 [] := ⟨fun i j p q hp _ _ => by simp at hp, fun k q hq => by simp at hq⟩
  have hS : va_S A9 s.heap s.heap [] := va_S.rf
  have hl := lv_entry ([.ref b]) (n := 7) (Nat.le_of_ble_eq_true rfl)
  rw [lg_entry_eq]
  generalize (lg_sl ([.ref b]) ++ List.replicate (7 - (lg_sl ([.ref b])).length) Slot.unset).toArray = ls at hl ⊢
  have hl : lv_has ls 7 [(0, .ref b)] := hl
  refine va_new (ci := 2) (fs := [.null, .null, .null, .int 0, .int 0]) (C := RX4) (T := TX4) (N := 5) hx hb hts (fun w h => List.mem_cons_of_mem _ (wf_X4 w h)) tyX4 tyX4_ok hown (hts _ (List.mem_cons_of_mem _ wm_cl_L_8)) (hts _ (List.mem_cons_of_mem _ wm_it_X4)) (hts _ (List.mem_cons_of_mem _ wm_in_X4)) hK hP hD hS hA rfl (fun j hj => by rcases (show j = 0 ∨ j = 1 ∨ j = 2 ∨ j = 3 ∨ j = 4 by omega) with rfl | rfl | rfl | rfl | rfl <;> rfl) (Nat.le_of_ble_eq_true rfl) (Nat.le_of_ble_eq_true rfl) dL_law_0 (fun q0 H hP hD hS => ?_)
  have hP : va_P (dC, dI) vwCl [(q0, .inr (2, [.null, .null, .null, .int 0, .int 0]))] H := hP
  have hD : va_D A9 [(q0, .inr (2, [.null, .null, .null, .int 0, .int 0]))] := hD
  refine lv_dup hx hb dL_law_3 rfl ?_
  have hPc := hP.sub (ws' := [(q0, .inr (2, [.null, .null, .null, .int 0, .int 0]))]) [0] rfl
  have hDc := hD.sub (ws' := [(q0, .inr (2, [.null, .null, .null, .int 0, .int 0]))]) [0] (by decide) rfl
  have hFc := va_free (wc := [(q0, .inr (2, [.null, .null, .null, .int 0, .int 0]))]) hD hS hA [0] rfl
  refine va_callv (va_runI (b := q0) (As := []) (rest := [.ref q0]) ⟨hx, hb, hml, hown, hts⟩ (ctX4_init l dC dI cI H.size q0) (cwI 0 hts (wA_in wm_cd_X4_init) rfl rfl rfl (hts _ (List.mem_cons_of_mem _ wm_in_X4)) (hts _ (List.mem_cons_of_mem _ wm_ml_L_40)) (hts _ (List.mem_cons_of_mem _ wm_im_X4_init)) rfl (by decide +kernel) ⟨Nat.le_of_ble_eq_true rfl, Nat.le_of_ble_eq_true rfl⟩) ⟨fun a U g mk q => by obtain ⟨q0, q1, qP, qK, qD, qN, qM⟩ := q; exact ⟨q0, q1, qP, va_K.moved (u := U) (U := U.calling g mk a) (Vm.Alike.refl U.vm) qK, qD, va_Nw.same (u := U) (U := U.calling g mk a) rfl rfl qN, va_Nw.same (u := U) (U := U.calling g mk a) rfl rfl qM⟩, fun U hU hW => ⟨rfl, by rw [hU], by rw [hU]; exact hPc, va_K.moved hW.alike hKc, hDc.weaken (fun _ _ _ _ => trivial), va_Nw.warmM hW hn3, va_Nw.warmM hW hn0⟩⟩ rfl rfl hl.1 rfl (lv_room (Nat.le_of_ble_eq_true rfl)) dL_law_4 ⟨Nat.le_of_ble_eq_true rfl, Nat.le_of_ble_eq_true rfl⟩) hS (fun q _ h => hFc q h) hFc (fun u t8 H1 locs ht8 hvm8 e8 hB hz1 hk1 hS => ?_)
  obtain ⟨hf, ad, sd⟩ := u
  obtain ⟨hP1, hK1, hD1⟩ := hB
  rw [ht8] at hP1
  obtain ⟨hP9, hD9⟩ := va_join (wr := []) (w1 := [(hf 0, .inr (2, [.ref (ad 0), .ref (sd 0), .ref (hf 1), .int 0, .int 0])), (hf 1, .inl (cI, 2, .inl (fun _ => 0))), (ad 0, .inr (1, [.ref (ad 1), .ref (ad 2), .ref (ad 3), .ref (ad 4), .ref (ad 5), .ref (ad 6), .ref (ad 7), .int (nI 0)])), (ad 1, .inl (cI, 12, .inl (fun _ => 0))), (ad 2, .inl (cI, 12, .inl (fun _ => 0))), (ad 3, .inl (cI, 12, .inl (fun _ => 0))), (ad 4, .inl (cI, 12, .inl (fun _ => 0))), (ad 5, .inl (cI, 12, .inl (fun _ => 0))), (ad 6, .inl (cI, 2, .inl (fun _ => 0))), (ad 7, .inl (cI, 12, .inl (fun _ => 0))), (sd 0, .inr (0, [.ref (sd 1), .ref (sd 2), .int (nI 0), .int (nI 0)])), (sd 1, .inl (cI, 20, .inl (fun _ => 0))), (sd 2, .inl (cI, 6, .inl (fun _ => 0)))]) hP hD [0] [] rfl rfl (by decide) (by decide) hk1 hFc hP1 hD1
  clear hPc hDc hFc hP1 hK1 hD1 hk1 hz1
  generalize H1 = H at hP9 hS ⊢
  have e8 : hf 0 = q0 := e8
  subst e8
  have hP := hP9
  have hD := hD9
  clear hP9 hD9
  have hP : va_P (dC, dI) vwCl [(hf 0, .inr (2, [.ref (ad 0), .ref (sd 0), .ref (hf 1), .int 0, .int 0])), (hf 1, .inl (cI, 2, .inl (fun _ => 0))), (ad 0, .inr (1, [.ref (ad 1), .ref (ad 2), .ref (ad 3), .ref (ad 4), .ref (ad 5), .ref (ad 6), .ref (ad 7), .int (nI 0)])), (ad 1, .inl (cI, 12, .inl (fun _ => 0))), (ad 2, .inl (cI, 12, .inl (fun _ => 0))), (ad 3, .inl (cI, 12, .inl (fun _ => 0))), (ad 4, .inl (cI, 12, .inl (fun _ => 0))), (ad 5, .inl (cI, 12, .inl (fun _ => 0))), (ad 6, .inl (cI, 2, .inl (fun _ => 0))), (ad 7, .inl (cI, 12, .inl (fun _ => 0))), (sd 0, .inr (0, [.ref (sd 1), .ref (sd 2), .int (nI 0), .int (nI 0)])), (sd 1, .inl (cI, 20, .inl (fun _ => 0))), (sd 2, .inl (cI, 6, .inl (fun _ => 0)))] H := hP
  have hD : va_D A9 [(hf 0, .inr (2, [.ref (ad 0), .ref (sd 0), .ref (hf 1), .int 0, .int 0])), (hf 1, .inl (cI, 2, .inl (fun _ => 0))), (ad 0, .inr (1, [.ref (ad 1), .ref (ad 2), .ref (ad 3), .ref (ad 4), .ref (ad 5), .ref (ad 6), .ref (ad 7), .int (nI 0)])), (ad 1, .inl (cI, 12, .inl (fun _ => 0))), (ad 2, .inl (cI, 12, .inl (fun _ => 0))), (ad 3, .inl (cI, 12, .inl (fun _ => 0))), (ad 4, .inl (cI, 12, .inl (fun _ => 0))), (ad 5, .inl (cI, 12, .inl (fun _ => 0))), (ad 6, .inl (cI, 2, .inl (fun _ => 0))), (ad 7, .inl (cI, 12, .inl (fun _ => 0))), (sd 0, .inr (0, [.ref (sd 1), .ref (sd 2), .int (nI 0), .int (nI 0)])), (sd 1, .inl (cI, 20, .inl (fun _ => 0))), (sd 2, .inl (cI, 6, .inl (fun _ => 0)))] := hD
  refine lv_astore_n (lv' := [(1, .ref (hf 0)), (0, .ref b)]) hx hb dL_law_7 rfl hl (by decide) rfl (fun ls hl => ?_)
  refine va_new (ci := 3) (fs := [.int 0, .int 0, .null, .null, .null, .null, .int 0, .null, .int 0, .null, .int 0, .int 0, .null, .null]) (C := RX5) (T := TX5) (N := 14) hx hb hts (fun w h => List.mem_cons_of_mem _ (wf_X5 w h)) tyX5 tyX5_ok hown (hts _ (List.mem_cons_of_mem _ wm_cl_L_41)) (hts _ (List.mem_cons_of_mem _ wm_it_X5)) (hts _ (List.mem_cons_of_mem _ wm_in_X5)) hK hP hD hS hA rfl (fun j hj => by rcases (show j = 0 ∨ j = 1 ∨ j = 2 ∨ j = 3 ∨ j = 4 ∨ j = 5 ∨ j = 6 ∨ j = 7 ∨ j = 8 ∨ j = 9 ∨ j = 10 ∨ j = 11 ∨ j = 12 ∨ j = 13 by omega) with rfl | rfl | rfl | rfl | rfl | rfl | rfl | rfl | rfl | rfl | rfl | rfl | rfl | rfl <;> rfl) (Nat.le_of_ble_eq_true rfl) (Nat.le_of_ble_eq_true rfl) dL_law_8 (fun q8 H hP hD hS => ?_)
  have hP : va_P (dC, dI) vwCl [(hf 0, .inr (2, [.ref (ad 0), .ref (sd 0), .ref (hf 1), .int 0, .int 0])), (hf 1, .inl (cI, 2, .inl (fun _ => 0))), (ad 0, .inr (1, [.ref (ad 1), .ref (ad 2), .ref (ad 3), .ref (ad 4), .ref (ad 5), .ref (ad 6), .ref (ad 7), .int (nI 0)])), (ad 1, .inl (cI, 12, .inl (fun _ => 0))), (ad 2, .inl (cI, 12, .inl (fun _ => 0))), (ad 3, .inl (cI, 12, .inl (fun _ => 0))), (ad 4, .inl (cI, 12, .inl (fun _ => 0))), (ad 5, .inl (cI, 12, .inl (fun _ => 0))), (ad 6, .inl (cI, 2, .inl (fun _ => 0))), (ad 7, .inl (cI, 12, .inl (fun _ => 0))), (sd 0, .inr (0, [.ref (sd 1), .ref (sd 2), .int (nI 0), .int (nI 0)])), (sd 1, .inl (cI, 20, .inl (fun _ => 0))), (sd 2, .inl (cI, 6, .inl (fun _ => 0))), (q8, .inr (3, [.int 0, .int 0, .null, .null, .null, .null, .int 0, .null, .int 0, .null, .int 0, .int 0, .null, .null]))] H := hP
  have hD : va_D A9 [(hf 0, .inr (2, [.ref (ad 0), .ref (sd 0), .ref (hf 1), .int 0, .int 0])), (hf 1, .inl (cI, 2, .inl (fun _ => 0))), (ad 0, .inr (1, [.ref (ad 1), .ref (ad 2), .ref (ad 3), .ref (ad 4), .ref (ad 5), .ref (ad 6), .ref (ad 7), .int (nI 0)])), (ad 1, .inl (cI, 12, .inl (fun _ => 0))), (ad 2, .inl (cI, 12, .inl (fun _ => 0))), (ad 3, .inl (cI, 12, .inl (fun _ => 0))), (ad 4, .inl (cI, 12, .inl (fun _ => 0))), (ad 5, .inl (cI, 12, .inl (fun _ => 0))), (ad 6, .inl (cI, 2, .inl (fun _ => 0))), (ad 7, .inl (cI, 12, .inl (fun _ => 0))), (sd 0, .inr (0, [.ref (sd 1), .ref (sd 2), .int (nI 0), .int (nI 0)])), (sd 1, .inl (cI, 20, .inl (fun _ => 0))), (sd 2, .inl (cI, 6, .inl (fun _ => 0))), (q8, .inr (3, [.int 0, .int 0, .null, .null, .null, .null, .int 0, .null, .int 0, .null, .int 0, .int 0, .null, .null]))] := hD
  refine lv_dup hx hb dL_law_11 rfl ?_
  have hPc := hP.sub (ws' := [(q8, .inr (3, [.int 0, .int 0, .null, .null, .null, .null, .int 0, .null, .int 0, .null, .int 0, .int 0, .null, .null]))]) [13] rfl
  have hDc := hD.sub (ws' := [(q8, .inr (3, [.int 0, .int 0, .null, .null, .null, .null, .int 0, .null, .int 0, .null, .int 0, .int 0, .null, .null]))]) [13] (by decide) rfl
  have hFc := va_free (wc := [(q8, .inr (3, [.int 0, .int 0, .null, .null, .null, .null, .int 0, .null, .int 0, .null, .int 0, .int 0, .null, .null]))]) hD hS hA [13] rfl
  refine va_callv (va_runI (b := q8) (As := []) (rest := [.ref q8]) ⟨hx, hb, hml, hown, hts⟩ (ctX5_init l dC dI cI H.size q8) (cwI 0 hts (wA_in wm_cd_X5_init) rfl rfl rfl (hts _ (List.mem_cons_of_mem _ wm_in_X5)) (hts _ (List.mem_cons_of_mem _ wm_ml_L_43)) (hts _ (List.mem_cons_of_mem _ wm_im_X5_init)) rfl (by decide +kernel) ⟨Nat.le_of_ble_eq_true rfl, Nat.le_of_ble_eq_true rfl⟩) ⟨fun a U g mk q => by obtain ⟨q0, q1, qP, qK, qD⟩ := q; exact ⟨q0, q1, qP, va_K.moved (u := U) (U := U.calling g mk a) (Vm.Alike.refl U.vm) qK, qD⟩, fun U hU hW => ⟨rfl, by rw [hU], by rw [hU]; exact hPc, va_K.moved hW.alike hKc, hDc.weaken (fun _ _ _ _ => trivial)⟩⟩ rfl rfl hl.1 rfl (lv_room (Nat.le_of_ble_eq_true rfl)) dL_law_12 ⟨Nat.le_of_ble_eq_true rfl, Nat.le_of_ble_eq_true rfl⟩) hS (fun q _ h => hFc q h) hFc (fun md t8 H1 locs ht8 hvm8 e8 hB hz1 hk1 hS => ?_)
  obtain ⟨hP1, hK1, hD1⟩ := hB
  rw [ht8] at hP1
  obtain ⟨hP9, hD9⟩ := va_join (wr := [(hf 0, .inr (2, [.ref (ad 0), .ref (sd 0), .ref (hf 1), .int 0, .int 0])), (hf 1, .inl (cI, 2, .inl (fun _ => 0))), (ad 0, .inr (1, [.ref (ad 1), .ref (ad 2), .ref (ad 3), .ref (ad 4), .ref (ad 5), .ref (ad 6), .ref (ad 7), .int (nI 0)])), (ad 1, .inl (cI, 12, .inl (fun _ => 0))), (ad 2, .inl (cI, 12, .inl (fun _ => 0))), (ad 3, .inl (cI, 12, .inl (fun _ => 0))), (ad 4, .inl (cI, 12, .inl (fun _ => 0))), (ad 5, .inl (cI, 12, .inl (fun _ => 0))), (ad 6, .inl (cI, 2, .inl (fun _ => 0))), (ad 7, .inl (cI, 12, .inl (fun _ => 0))), (sd 0, .inr (0, [.ref (sd 1), .ref (sd 2), .int (nI 0), .int (nI 0)])), (sd 1, .inl (cI, 20, .inl (fun _ => 0))), (sd 2, .inl (cI, 6, .inl (fun _ => 0)))]) (w1 := [(md 0, .inr (3, [.int 0, .int (nI 0), .ref (md 1), .ref (md 2), .ref (md 3), .ref (md 4), .int (nI 0), .ref (md 5), .int (nI 0), .ref (md 6), .int 0, .int 0, .ref (md 7), .ref (md 8)])), (md 1, .inl (cI, 12, .inl (fun _ => 0))), (md 2, .inl (cI, 12, .inl (fun _ => 0))), (md 3, .inl (cI, 12, .inl (fun _ => 0))), (md 4, .inl (cI, 12, .inl (fun _ => 0))), (md 5, .inl (cI, 20, .inl (fun _ => 0))), (md 6, .inl (cI, 6, .inl (fun _ => 0))), (md 7, .inl (cI, 2, .inl (fun _ => 0))), (md 8, .inl (cI, 12, .inl (fun _ => 0)))]) hP hD [13] [0, 1, 2, 3, 4, 5, 6, 7, 8, 9, 10, 11, 12] rfl rfl (by decide) (by decide) hk1 hFc hP1 hD1
  clear hPc hDc hFc hP1 hK1 hD1 hk1 hz1
  generalize H1 = H at hP9 hS ⊢
  have e8 : md 0 = q8 := e8
  subst e8
  have hP := hP9
  have hD := hD9
  clear hP9 hD9
  have hP : va_P (dC, dI) vwCl [(hf 0, .inr (2, [.ref (ad 0), .ref (sd 0), .ref (hf 1), .int 0, .int 0])), (hf 1, .inl (cI, 2, .inl (fun _ => 0))), (ad 0, .inr (1, [.ref (ad 1), .ref (ad 2), .ref (ad 3), .ref (ad 4), .ref (ad 5), .ref (ad 6), .ref (ad 7), .int (nI 0)])), (ad 1, .inl (cI, 12, .inl (fun _ => 0))), (ad 2, .inl (cI, 12, .inl (fun _ => 0))), (ad 3, .inl (cI, 12, .inl (fun _ => 0))), (ad 4, .inl (cI, 12, .inl (fun _ => 0))), (ad 5, .inl (cI, 12, .inl (fun _ => 0))), (ad 6, .inl (cI, 2, .inl (fun _ => 0))), (ad 7, .inl (cI, 12, .inl (fun _ => 0))), (sd 0, .inr (0, [.ref (sd 1), .ref (sd 2), .int (nI 0), .int (nI 0)])), (sd 1, .inl (cI, 20, .inl (fun _ => 0))), (sd 2, .inl (cI, 6, .inl (fun _ => 0))), (md 0, .inr (3, [.int 0, .int (nI 0), .ref (md 1), .ref (md 2), .ref (md 3), .ref (md 4), .int (nI 0), .ref (md 5), .int (nI 0), .ref (md 6), .int 0, .int 0, .ref (md 7), .ref (md 8)])), (md 1, .inl (cI, 12, .inl (fun _ => 0))), (md 2, .inl (cI, 12, .inl (fun _ => 0))), (md 3, .inl (cI, 12, .inl (fun _ => 0))), (md 4, .inl (cI, 12, .inl (fun _ => 0))), (md 5, .inl (cI, 20, .inl (fun _ => 0))), (md 6, .inl (cI, 6, .inl (fun _ => 0))), (md 7, .inl (cI, 2, .inl (fun _ => 0))), (md 8, .inl (cI, 12, .inl (fun _ => 0)))] H := hP
  have hD : va_D A9 [(hf 0, .inr (2, [.ref (ad 0), .ref (sd 0), .ref (hf 1), .int 0, .int 0])), (hf 1, .inl (cI, 2, .inl (fun _ => 0))), (ad 0, .inr (1, [.ref (ad 1), .ref (ad 2), .ref (ad 3), .ref (ad 4), .ref (ad 5), .ref (ad 6), .ref (ad 7), .int (nI 0)])), (ad 1, .inl (cI, 12, .inl (fun _ => 0))), (ad 2, .inl (cI, 12, .inl (fun _ => 0))), (ad 3, .inl (cI, 12, .inl (fun _ => 0))), (ad 4, .inl (cI, 12, .inl (fun _ => 0))), (ad 5, .inl (cI, 12, .inl (fun _ => 0))), (ad 6, .inl (cI, 2, .inl (fun _ => 0))), (ad 7, .inl (cI, 12, .inl (fun _ => 0))), (sd 0, .inr (0, [.ref (sd 1), .ref (sd 2), .int (nI 0), .int (nI 0)])), (sd 1, .inl (cI, 20, .inl (fun _ => 0))), (sd 2, .inl (cI, 6, .inl (fun _ => 0))), (md 0, .inr (3, [.int 0, .int (nI 0), .ref (md 1), .ref (md 2), .ref (md 3), .ref (md 4), .int (nI 0), .ref (md 5), .int (nI 0), .ref (md 6), .int 0, .int 0, .ref (md 7), .ref (md 8)])), (md 1, .inl (cI, 12, .inl (fun _ => 0))), (md 2, .inl (cI, 12, .inl (fun _ => 0))), (md 3, .inl (cI, 12, .inl (fun _ => 0))), (md 4, .inl (cI, 12, .inl (fun _ => 0))), (md 5, .inl (cI, 20, .inl (fun _ => 0))), (md 6, .inl (cI, 6, .inl (fun _ => 0))), (md 7, .inl (cI, 2, .inl (fun _ => 0))), (md 8, .inl (cI, 12, .inl (fun _ => 0)))] := hD
  refine lv_astore_n (lv' := [(2, .ref (md 0)), (1, .ref (hf 0)), (0, .ref b)]) hx hb dL_law_15 rfl hl (by decide) rfl (fun ls hl => ?_)
  refine lv_iconst (v := 1) hx hb dL_law_16 (by decide) ?_
  refine xr_newl (n := 1) (N' := 1) hx hb (hts _ (List.mem_cons_of_mem _ wm_ac_long)) hK hP hD hS hA (by decide) (by decide) (Nat.le_of_ble_eq_true rfl) (Nat.le_of_ble_eq_true rfl) (Nat.le_of_ble_eq_true rfl) dL_law_17 (fun oa H hP hD hS => ?_)
  have hP : va_P (dC, dI) vwCl [(hf 0, .inr (2, [.ref (ad 0), .ref (sd 0), .ref (hf 1), .int 0, .int 0])), (hf 1, .inl (cI, 2, .inl (fun _ => 0))), (ad 0, .inr (1, [.ref (ad 1), .ref (ad 2), .ref (ad 3), .ref (ad 4), .ref (ad 5), .ref (ad 6), .ref (ad 7), .int (nI 0)])), (ad 1, .inl (cI, 12, .inl (fun _ => 0))), (ad 2, .inl (cI, 12, .inl (fun _ => 0))), (ad 3, .inl (cI, 12, .inl (fun _ => 0))), (ad 4, .inl (cI, 12, .inl (fun _ => 0))), (ad 5, .inl (cI, 12, .inl (fun _ => 0))), (ad 6, .inl (cI, 2, .inl (fun _ => 0))), (ad 7, .inl (cI, 12, .inl (fun _ => 0))), (sd 0, .inr (0, [.ref (sd 1), .ref (sd 2), .int (nI 0), .int (nI 0)])), (sd 1, .inl (cI, 20, .inl (fun _ => 0))), (sd 2, .inl (cI, 6, .inl (fun _ => 0))), (md 0, .inr (3, [.int 0, .int (nI 0), .ref (md 1), .ref (md 2), .ref (md 3), .ref (md 4), .int (nI 0), .ref (md 5), .int (nI 0), .ref (md 6), .int 0, .int 0, .ref (md 7), .ref (md 8)])), (md 1, .inl (cI, 12, .inl (fun _ => 0))), (md 2, .inl (cI, 12, .inl (fun _ => 0))), (md 3, .inl (cI, 12, .inl (fun _ => 0))), (md 4, .inl (cI, 12, .inl (fun _ => 0))), (md 5, .inl (cI, 20, .inl (fun _ => 0))), (md 6, .inl (cI, 6, .inl (fun _ => 0))), (md 7, .inl (cI, 2, .inl (fun _ => 0))), (md 8, .inl (cI, 12, .inl (fun _ => 0))), (oa, .inl (cJ, 1, .inr (.inl (fun _ => 0))))] H := hP
  have hD : va_D A9 [(hf 0, .inr (2, [.ref (ad 0), .ref (sd 0), .ref (hf 1), .int 0, .int 0])), (hf 1, .inl (cI, 2, .inl (fun _ => 0))), (ad 0, .inr (1, [.ref (ad 1), .ref (ad 2), .ref (ad 3), .ref (ad 4), .ref (ad 5), .ref (ad 6), .ref (ad 7), .int (nI 0)])), (ad 1, .inl (cI, 12, .inl (fun _ => 0))), (ad 2, .inl (cI, 12, .inl (fun _ => 0))), (ad 3, .inl (cI, 12, .inl (fun _ => 0))), (ad 4, .inl (cI, 12, .inl (fun _ => 0))), (ad 5, .inl (cI, 12, .inl (fun _ => 0))), (ad 6, .inl (cI, 2, .inl (fun _ => 0))), (ad 7, .inl (cI, 12, .inl (fun _ => 0))), (sd 0, .inr (0, [.ref (sd 1), .ref (sd 2), .int (nI 0), .int (nI 0)])), (sd 1, .inl (cI, 20, .inl (fun _ => 0))), (sd 2, .inl (cI, 6, .inl (fun _ => 0))), (md 0, .inr (3, [.int 0, .int (nI 0), .ref (md 1), .ref (md 2), .ref (md 3), .ref (md 4), .int (nI 0), .ref (md 5), .int (nI 0), .ref (md 6), .int 0, .int 0, .ref (md 7), .ref (md 8)])), (md 1, .inl (cI, 12, .inl (fun _ => 0))), (md 2, .inl (cI, 12, .inl (fun _ => 0))), (md 3, .inl (cI, 12, .inl (fun _ => 0))), (md 4, .inl (cI, 12, .inl (fun _ => 0))), (md 5, .inl (cI, 20, .inl (fun _ => 0))), (md 6, .inl (cI, 6, .inl (fun _ => 0))), (md 7, .inl (cI, 2, .inl (fun _ => 0))), (md 8, .inl (cI, 12, .inl (fun _ => 0))), (oa, .inl (cJ, 1, .inr (.inl (fun _ => 0))))] := hD
  refine lv_astore_n (lv' := [(3, .ref oa), (2, .ref (md 0)), (1, .ref (hf 0)), (0, .ref b)]) hx hb dL_law_19 rfl hl (by decide) rfl (fun ls hl => ?_)
  refine lv_iconst (v := 0) hx hb dL_law_20 (by decide) ?_
  refine lv_istore (lv' := [(4, .int 0), (3, .ref oa), (2, .ref (md 0)), (1, .ref (hf 0)), (0, .ref b)]) hx hb dL_law_21 hl (by decide) rfl (fun ls hl => ?_)
  have hP := hP.sub (ws' := [(hf 0, .inr (2, [.ref (ad 0), .ref (sd 0), .ref (hf 1), .int 0, .int 0])), (hf 1, .inl (cI, 2, .inl (fun _ => 0))), (ad 0, .inr (1, [.ref (ad 1), .ref (ad 2), .ref (ad 3), .ref (ad 4), .ref (ad 5), .ref (ad 6), .ref (ad 7), .int (nI 0)])), (ad 1, .inl (cI, 12, .inl (fun _ => 0))), (ad 2, .inl (cI, 12, .inl (fun _ => 0))), (ad 3, .inl (cI, 12, .inl (fun _ => 0))), (ad 4, .inl (cI, 12, .inl (fun _ => 0))), (ad 5, .inl (cI, 12, .inl (fun _ => 0))), (ad 6, .inl (cI, 2, .inl (fun _ => 0))), (ad 7, .inl (cI, 12, .inl (fun _ => 0))), (sd 0, .inr (0, [.ref (sd 1), .ref (sd 2), .int (nI 0), .int (nI 0)])), (sd 1, .inl (cI, 20, .inl (fun _ => 0))), (sd 2, .inl (cI, 6, .inl (fun _ => 0))), (oa, .inl (cJ, 1, .inr (.inl (fun _ => 0)))), (md 0, .inr (3, [.int 0, .int (nI 0), .ref (md 1), .ref (md 2), .ref (md 3), .ref (md 4), .int (nI 0), .ref (md 5), .int (nI 0), .ref (md 6), .int 0, .int 0, .ref (md 7), .ref (md 8)])), (md 1, .inl (cI, 12, .inl (fun _ => 0))), (md 2, .inl (cI, 12, .inl (fun _ => 0))), (md 3, .inl (cI, 12, .inl (fun _ => 0))), (md 4, .inl (cI, 12, .inl (fun _ => 0))), (md 5, .inl (cI, 20, .inl (fun _ => 0))), (md 6, .inl (cI, 6, .inl (fun _ => 0))), (md 7, .inl (cI, 2, .inl (fun _ => 0))), (md 8, .inl (cI, 12, .inl (fun _ => 0)))]) [0, 1, 2, 3, 4, 5, 6, 7, 8, 9, 10, 11, 12, 22, 13, 14, 15, 16, 17, 18, 19, 20, 21] rfl
  have hD := hD.sub (ws' := [(hf 0, .inr (2, [.ref (ad 0), .ref (sd 0), .ref (hf 1), .int 0, .int 0])), (hf 1, .inl (cI, 2, .inl (fun _ => 0))), (ad 0, .inr (1, [.ref (ad 1), .ref (ad 2), .ref (ad 3), .ref (ad 4), .ref (ad 5), .ref (ad 6), .ref (ad 7), .int (nI 0)])), (ad 1, .inl (cI, 12, .inl (fun _ => 0))), (ad 2, .inl (cI, 12, .inl (fun _ => 0))), (ad 3, .inl (cI, 12, .inl (fun _ => 0))), (ad 4, .inl (cI, 12, .inl (fun _ => 0))), (ad 5, .inl (cI, 12, .inl (fun _ => 0))), (ad 6, .inl (cI, 2, .inl (fun _ => 0))), (ad 7, .inl (cI, 12, .inl (fun _ => 0))), (sd 0, .inr (0, [.ref (sd 1), .ref (sd 2), .int (nI 0), .int (nI 0)])), (sd 1, .inl (cI, 20, .inl (fun _ => 0))), (sd 2, .inl (cI, 6, .inl (fun _ => 0))), (oa, .inl (cJ, 1, .inr (.inl (fun _ => 0)))), (md 0, .inr (3, [.int 0, .int (nI 0), .ref (md 1), .ref (md 2), .ref (md 3), .ref (md 4), .int (nI 0), .ref (md 5), .int (nI 0), .ref (md 6), .int 0, .int 0, .ref (md 7), .ref (md 8)])), (md 1, .inl (cI, 12, .inl (fun _ => 0))), (md 2, .inl (cI, 12, .inl (fun _ => 0))), (md 3, .inl (cI, 12, .inl (fun _ => 0))), (md 4, .inl (cI, 12, .inl (fun _ => 0))), (md 5, .inl (cI, 20, .inl (fun _ => 0))), (md 6, .inl (cI, 6, .inl (fun _ => 0))), (md 7, .inl (cI, 2, .inl (fun _ => 0))), (md 8, .inl (cI, 12, .inl (fun _ => 0)))]) [0, 1, 2, 3, 4, 5, 6, 7, 8, 9, 10, 11, 12, 22, 13, 14, 15, 16, 17, 18, 19, 20, 21] (by decide) rfl
  refine lw_loop (sa := sa) ⟨hx, hb, hml, hown, hts, hX, hbl, hl9, hL⟩ hK hE hA hbA ?_ 512 0 rfl ls H locs ⟨fun _ => 0, fun _ => 0, fun _ => 0, fun _ => 0, fun _ => 0, fun _ => 0, 0, 0, 0, 0, 0, 0, fun _ => 0, fun _ => 0, fun _ => 0, fun _ => 0, fun _ => 0, fun _ => 0, fun _ => 0, fun _ => 0, fun _ => 0, fun _ => 0, fun _ => 0, fun _ => 0, fun _ => 0, fun _ => 0, fun _ => 0, fun _ => 0, fun _ => 0, fun _ => 0, fun _ => 0, lw_R_0 _ rfl, hP, hD, hS, lv_sub hl [4, 3, 2, 1, 0] rfl⟩
  clear hP hD hS hl
  intro j ls H locs hj hI
  obtain ⟨fk, fa, fb, fc, cm, st, n, mm, lv, ms, ck, th, aK, aA, aB, aC, aP, aV, aN, aM, aS, aF, bK, bA, bB, bC, bM, bS, bF, bN, g0, hR, hP, hD, hS, hl⟩ := hI
  refine lv_iconst (v := 1) hx hb dL_law_599 (by decide) ?_
  refine va_forget (fun q hq => hA2 _ (hS.2.2 q hq)) ?_
  refine W.widen (k := 1058) (n := 8480) (by omega) (by omega) ?_
  exact lw_ret hx hb hr hlocks dL_law_600
set_option maxHeartbeats 4000000 in
theorem lw_walk (l : Launch) (hl9 : l.stackTraces = false) (b : Addr) (xs : List Int32) : MetFree l x (headSpec (Jvm.Cond.code x code maxLocals ret :: tables_1) room_1) (lw_P b xs) (fun _ _ _ _ _ => True) lw_Q := by
  refine MetFree.of_bodyS (code := code) (maxLocals := maxLocals) (ret := ret) (by decide) ?_ ?_
  · intro args s m h hn
    obtain ⟨meth, c, h1, h2, h3, h4, h5, h6, -, -⟩ := Cond.code_spec hn (atoms_spec (ws := Jvm.Cond.code x code maxLocals ret :: tables_1) h _ List.mem_cons_self)
    exact ⟨meth, c, h1, h2, h3, h4, h5, h6⟩
  · intro p e s m args below meth c s₁ B hml0 hP _
    obtain ⟨rfl, hx, hbd, hgv⟩ := hP
    obtain ⟨scr, harrAt, hlist, hof, hsmall⟩ := hx
    obtain ⟨hcb, hkn, -, -⟩ := State.arrayAt?_spec harrAt
    have hown : s.vm.findClass R_law = some m.cls := findClass_of_methodNamed B.named
    have hts0 : ∀ c ∈ (Jvm.Cond.code x code maxLocals ret :: tables_1), c.before #[Value.ref b] s = true := atoms_spec (ws := Jvm.Cond.code x code maxLocals ret :: tables_1) B.pre
    have hts : ∀ w ∈ lw_tbl, w.before #[Value.ref b] s = true := k2_hts_sels lw_privs (fun w hw => hts0 w (List.mem_cons_of_mem _ hw)) lw_privs_ok
    have hml : c.maxLocals = 7 := B.maxLocals_eq (hts0 _ List.mem_cons_self)
    have X₀ : Stand p l e room_1 s m #[Value.ref b] below meth c s₁ [] 0 0 := Stand.of_body B
    have hh0 : s₁.heap = s.heap := by rw [B.state]; rfl
    have hsz : scr.slots.size = xs.length := by rw [← Array.length_toList, hlist, List.length_map]
    have hval : ∀ j : Nat, j < xs.length → scr.slots[j]? = some (.int (xs.getD j 0)) := fun j hj => by
      rw [← Array.getElem?_toList, hlist]
      simp [hj]
    have hbl : b < s.heap.size := (Array.getElem?_eq_some_iff.mp hcb).1
    have hX : va_X b xs.length (fun j => xs.getD j 0) s s.heap := ⟨scr, hcb, hof, hkn, hsz, hval⟩
    have K : W p l e room_1 s m #[Value.ref b] below meth c s₁.heap [] 0 0 (lw_Z below #[Value.ref b] s) (entryFrame m ([Value.ref b] : List Value).toArray 7) := by
      rw [hh0]
      exact whole_start l hl9 hbd ⟨B.exec, B.bytes, B.returns, hml, hown, hts, hX, hbl, B.notSynchronized, hgv⟩
    obtain ⟨t, a1, o, b1, b2, b3⟩ := K s₁ rfl X₀
    exact ⟨t, o, a1, b1, b2, b3⟩
theorem lw_pre_spec {args : Array Value} {s : State} (h : (Jvm.Cond.and given_1 narrow_1).before args s = true) (hr : rest_1_c.before args s = true) : ∃ (b : Addr) (xs : List Int32), lw_P b xs args s := by
  have hs := flat_of_before _ h
  have hq := flat_of_before _ hr
  have hc : (Cond.count 1).before args s = true := hs _ (by decide +kernel)
  have harr : (Cond.arrayOf (.arg 0) .int).before args s = true := hs _ (by decide +kernel)
  have hle : (Cond.le (.length (.arg 0)) (.int 2560)).before args s = true := hs _ (by decide +kernel)
  have hlen : (Cond.isInt (.length (.arg 0))).before args s = true := hq _ (by decide +kernel)
  have hall : (Cond.all (.arg 0) (.isInt (.elem (.arg 0) (.index 0)))).before args s = true := hq _ (by decide +kernel)
  obtain ⟨b, xs, hb, hx⟩ := State.ints_of_pre rfl harr hlen hall
  have hsm : xs.length < 2 ^ 31 := hx.choose_spec.2.2.2
  have hev : (Term.length (.arg 0)).eval args s none [] s = some (.int xs.length.toInt32) := hx.length_eval hb
  have hv := Cond.le_ints hev (show (Term.int 2560).eval args s none [] s = some (.int 2560) from rfl)
  have hd : xs.length.toInt32 ≤ 2560 := by
    simpa [Cond.before, Cond.holds, hv] using hle
  have hN : xs.length ≤ 2560 := (Int32.ofNat_le_ofNat hsm (by decide)).mp (show Int32.ofNat xs.length ≤ Int32.ofNat 2560 from hd)
  exact ⟨b, xs, Cond.one_arg hc (show args[0]? = some (.ref b) from hb), hx, hN, h⟩
theorem lw_comes (l : Launch) (hl9 : l.stackTraces = false) : Comes l x (Jvm.Cond.code x code maxLocals ret :: tables_1) room_1 (fun tb e args s => Calls_1 tb e args s ∧ rest_1 tb e args s ∧ Pre_1 tb e args s)
    (fun _ _ args s o t => lw_Q args s o t) := by
  intro p e ha hc hk s m args below hf hfit hheap happ hpre
  obtain ⟨b, xs, hP⟩ := lw_pre_spec hpre.2.2 hpre.2.1
  obtain ⟨k, o, h1, h2, h3, hQ⟩ := lw_walk l hl9 b xs p e ha hc hk s m args below hf ((Spec.applies_iff_loose hf).mp happ).1 hP trivial
  exact ⟨k, o, h1, h2, h3, hQ⟩
theorem lw_frame {s t : State} {o : Outcome} {args : Array Value} (h : Framed s o t [] 1058 8480) :
    Framed s o t (fieldLocs frame_1_writes args s ++ arrayLocs frame_1_arrays args s ++ staticLocs frame_1_statics s) 1058 8480 := h
theorem lw_limb (L : Cond) (hL : ∀ (args : Array Value) (s t : State), L.after args s (.returned (some (.int 1))) t = true) :
    ArmFor flags0 classFile x code maxLocals ret World_1 tables_1 room_1 Calls_1 rest_1 Pre_1
      (fun tb e a s o t => postC L tb e a s o t ∧ Framed s o t (fieldLocs frame_1_writes a s ++ arrayLocs frame_1_arrays a s ++ staticLocs frame_1_statics s) 1058 8480) := by
  intro l hfl _ _ p e ha hc hk s m args below hf hfit hheap happ hpre
  obtain ⟨k, o, h1, h2, h3, rfl, hF⟩ := lw_comes l (by unfold Launch.stackTraces; rw [hfl]; decide +kernel) p e ha hc hk s m args below hf hfit hheap happ hpre
  exact ⟨k, _, h1, h2, h3, hL args s _, lw_frame hF⟩
theorem i_vc : Claimed_1_1 ∧ Claimed_1_2 := ⟨lw_limb limb_1_1 (fun args s t => by simp [limb_1_1, Cond.after, Cond.holds, Cond.value]), lw_limb limb_1_2 (fun args s t => Cond.after_iff.mpr (by
  first | (rw [show limb_1_2 = Cond.eq .result (.int 1) from rfl, Cond.eq_ints (x := 1) (y := 1) rfl rfl]; simp; done) | (simp [limb_1_2, Cond.value, Term.eval]; done)))⟩
