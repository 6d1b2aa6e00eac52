/-! what a throw of FloatSolver stands on: the statics of Throwable, the texts, the words that no list may hold -/
def tx_nm : List String := ["java/lang/Exception"]
def tx_b13 : ByteArray := ⟨#[0x2a, 0x2b, 0xb7, 0x00, 0x0d, 0xb1]⟩
def tx_strs : List (Nat × String) := [(41, "no such kind, or a part that is not as the kind says"), (65, "there are twelve terms"), (75, "no truth has this number"), (78, "there are twenty claims"), (87, "the levels 0 to 5 are there"), (92, "level 0 is always there"), (100, "the variables are 0 and 1"), (104, "the latest check found no model"), (110, "no term has this number"), (124, "no such operation, or not a number 0 to 31")]
def tx_E (A : Nat → Prop) (sa : Nat → Nat) (U : State) (H : Heap) : Prop :=
  (vx_Zq Bundle.tN "UNASSIGNED_STACK" Bundle.steD A U H ∧ vx_Zq Bundle.tN "SUPPRESSED_SENTINEL" Bundle.listD A U H) ∧
  (va_Nw (.castable "java/lang/IllegalArgumentException" "java/lang/IllegalArgumentException") U ∧ va_Nw (.castable "java/lang/IllegalStateException" "java/lang/IllegalStateException") U ∧ va_Nw (.castable "java/util/NoSuchElementException" "java/util/NoSuchElementException") U ∧ va_Nw (.declares ⟨"java/lang/RuntimeException", "<init>", "(Ljava/lang/String;)V"⟩) U ∧ va_Nw (.declares ⟨"java/lang/Exception", "<init>", "(Ljava/lang/String;)V"⟩) U ∧ va_Nw (.declares ⟨"java/lang/Throwable", "<init>", "(Ljava/lang/String;)V"⟩) U) ∧
  (va_Nc "java/lang/IllegalStateException" "java/lang/IllegalArgumentException" U ∧ va_Nc "java/util/NoSuchElementException" "java/lang/IllegalArgumentException" U) ∧ ∀ q ∈ tx_strs, vk_R RX4 q.1 q.2 (sa q.1) U
theorem tx_E.warm {A : Nat → Prop} {sa : Nat → Nat} {s U : State} {H : Heap} (hW : s.WarmedH U.vm) (h : tx_E A sa s H) : tx_E A sa U H := by
  obtain ⟨⟨z1, z2⟩, ⟨c1, c2, c3, c4, c5, c6⟩, ⟨n1, n2⟩, hs⟩ := h
  exact ⟨⟨z1.moved hW.alike, z2.moved hW.alike⟩, ⟨va_Nw.warmC hW c1, va_Nw.warmC hW c2, va_Nw.warmC hW c3, va_Nw.warmD hW c4, va_Nw.warmD hW c5, va_Nw.warmD hW c6⟩, ⟨va_Nc.moved hW.alike n1, va_Nc.moved hW.alike n2⟩, fun q hq => (hs q hq).warm hW⟩
theorem tx_E.same {A : Nat → Prop} {sa : Nat → Nat} {s U : State} {H : Heap} (hv : U.vm = s.vm) (h : tx_E A sa s H) : tx_E A sa U H := by
  obtain ⟨⟨z1, z2⟩, ⟨c1, c2, c3, c4, c5, c6⟩, ⟨n1, n2⟩, hs⟩ := h
  have ha : s.vm.Alike U.vm := by rw [hv]; exact Vm.Alike.refl _
  exact ⟨⟨z1.moved ha, z2.moved ha⟩, ⟨va_Nw.same rfl hv.symm c1, va_Nw.same rfl hv.symm c2, va_Nw.same rfl hv.symm c3, va_Nw.same rfl hv.symm c4, va_Nw.same rfl hv.symm c5, va_Nw.same rfl hv.symm c6⟩, ⟨va_Nc.moved ha n1, va_Nc.moved ha n2⟩, fun q hq => (hs q hq).same hv⟩
theorem tx_E.kept {A : Nat → Prop} {sa : Nat → Nat} {U : State} {H H1 : Heap} (hq : ∀ a : Nat, a < H.size → ¬ A a → H1[a]? = H[a]?) (h : tx_E A sa U H) : tx_E A sa U H1 := ⟨⟨h.1.1.kept hq, h.1.2.kept hq⟩, h.2⟩
theorem tx_E.narrow {A A1 : Nat → Prop} {sa : Nat → Nat} {U : State} {H : Heap} (hA : ∀ q, A1 q → A q) (h : tx_E A sa U H) : tx_E A1 sa U H := ⟨⟨h.1.1.narrow hA, h.1.2.narrow hA⟩, h.2⟩
/-- the words of 'throw new X("..")' where X's own constructor passes the text on at its entry i0 (the library has i0 = 7 alone) -/
def tx_own (own : String) (ic : Nat) (X Y : String) (r : List String) (i0 : Nat) (b0 : ByteArray) : List Cond :=
  Bundle.throwableAtoms ++ Bundle.throwableSAtoms ++ (Bundle.passSAtoms X Y i0 b0 ++ Bundle.chainSAtoms Y r) ++
  [.methodLink own ic (Bundle.initS X), .instantiable X 6, .castable X X, .selects X Bundle.tFill0 Bundle.tFill0, .selects X Bundle.tFill Bundle.tFill,
   .lays X Bundle.tN "cause" "Ljava/lang/Throwable;", .lays X Bundle.tN "stackTrace" Bundle.steD, .lays X Bundle.tN "suppressedExceptions" Bundle.listD, .lays X Bundle.tN "detailMessage" "Ljava/lang/String;",
   .isRef (.static Bundle.tN "UNASSIGNED_STACK" Bundle.steD), .isRef (.static Bundle.tN "SUPPRESSED_SENTINEL" Bundle.listD),
   .fieldLink Bundle.tN 198 Bundle.tN "backtrace" "Ljava/lang/Object;", .lays Bundle.tN Bundle.tN "backtrace" "Ljava/lang/Object;", .lays X Bundle.tN "backtrace" "Ljava/lang/Object;"]
section TXC
variable {p : Program} {l : Launch} {e : Env} {R : Room} {s : State} {m₀ : MethodId} {args : Array Value} {below : List Frame} {meth : Method} {c : Code} {T0 : State} {locs : List Loc} {cells slots : Nat}
set_option maxHeartbeats 2000000 in
/-- follows the library's law of such a throw (Stand.ctorThrowS), with the first link's entry left open -/
theorem tx_ctor (X : Stand p l e R s m₀ args below meth c T0 locs cells slots) (hexec : p.tables.exec = Jvm.exec) (htr : e.platform.stackTraces = false) {own cls Y9 : String} {names : List String} {ic i0 : Nat} {b0 : ByteArray}
    (hown : s.vm.findClass own = some m₀.cls) (hcls : Bundle.fit cls = true) (hY9 : Bundle.fit Y9 = true) (hnames : ∀ n ∈ names, Bundle.fit n = true)
    (e0 : decode b0 0 = .ok (.aload_n 0, 1)) (e1 : decode b0 1 = .ok (.aload_n 1, 1)) (e2 : decode b0 2 = .ok (.invokespecial i0, 3)) (e5 : decode b0 5 = .ok (.return_, 1))
    (h : ∀ a ∈ tx_own own ic cls Y9 names i0 b0, a.before args s = true)
    (hlocs : ∀ x ∈ locs, ∀ cell, s.heap[x.base]? = some cell → cell.vm.isStatics = false)
    {a : Addr} {cX : ClassId} {kX : Class} (hfoundX : s.vm.findClass cls = some cX) (hkX : s.vm.classes[cX]? = some kX) (hcell : T0.heap[a]? = some (freshCell cX kX)) (hnew : s.heap.size ≤ a)
    {msg : Value} (hmsg : msg.isRef = true)
    {g : JFrame} (hg : g.method = m₀) (hsize : g.locals.size = c.maxLocals) (hlocked : g.locked = none) (hentered : g.entered = []) {rest : List Value} (hstack : g.stack = msg :: .ref a :: .ref a :: rest)
    (hd6 : decode c.code g.pc = .ok (.invokespecial ic, 3)) (hd9 : decode c.code (g.pc + 3) = .ok (.athrow, 1)) (hout : ∀ x ∈ c.exceptionTable.toList, covers x (g.pc + 3) = false)
    (hRframes : names.length + 4 < R.frames) (hRlocals : 2 * g.monitorRoom + ((Value.ref a :: rest).map fun v => v.category).sum + (13 * (names.length + 2) + 42) ≤ R.locals) (hlocks : meth.locks = false) :
    ∃ U : State, Steps p.tables e below (T0.setTop g) U ∧ U.status = .running ∧ Ended U below (.threw a) ∧ s.WarmedH U.vm ∧ s.sameButNew ({ U with vm := s.vm } : State) locs cells slots ∧
      ∃ ce, U.heap[a]? = some ce ∧ s.vm.findClass cls = some ce.cls ∧ ce.vm = .none := by
  have howns : e.platform.frameOwnsMonitors = true := by rw [X.admits.platform]
  have hfin : e.platform.finalization = false := by rw [X.admits.platform]
  have hpl : e.platform.magicAccessors = ({} : Platform).magicAccessors := by rw [X.admits.platform]
  have a' : ∀ x, x ∈ tx_own own ic cls Y9 names i0 b0 → x.holds args s none s [] = true := fun x hx => h x hx
  obtain ⟨T, Z0, L, -, Y⟩ := ThrowableC.of_atoms (args := args) howns hfin hpl (fun x hx => h x (by simp [tx_own, hx]))
  obtain ⟨Z, M, LZ, LM, hnZ⟩ := Init0T.ofS_atoms (args := args) hpl L Y (fun x hx => h x (by simp [tx_own, hx]))
  obtain ⟨Q1, Ps, hlen, LQ, hL, hQ1m, hlink1, hlink⟩ := Bundle.chainS (args := args) hpl hnZ names Y9 hY9 hnames (fun x hx => h x (by simp [tx_own, hx]))
  obtain ⟨P1, L1, hP1m, hs1⟩ := PassC.ofS_atoms (args := args) (s := s) hpl (X := cls) (Y := Y9) (Bundle.fit_spec hcls).1 (Bundle.fit_spec hY9).2 e0 e1 e2 e5 (fun x hx => h x (by simp [tx_own, hx]))
  have hsup : P1.sup = Q1.m := Option.some.inj (hs1.symm.trans hQ1m)
  have hfound : s.vm.findClass cls = some P1.m.cls := findClass_of_methodNamed hP1m
  cases Option.some.inj (hfoundX.symm.trans hfound)
  obtain ⟨c1, kX', hc1, hk, hord, -, -, hn6⟩ := Cond.instantiable_spec (a' (.instantiable cls 6) (by simp [tx_own]))
  cases Option.some.inj (hc1.symm.trans hfound)
  cases Option.some.inj (hkX.symm.trans hk)
  have hsel0 : selectMethod e.platform s.vm P1.m.cls T.fill0 = .method T.fill0 := by
    obtain ⟨c2, r2, m2, q1, q2, q3, q4, -⟩ := Cond.selects_spec (a' (.selects cls Bundle.tFill0 Bundle.tFill0) (by simp [tx_own]))
    cases Option.some.inj (q1.symm.trans hfound)
    cases Option.some.inj (q2.symm.trans (State.methodFound?_of_named Y.fill0 (by decide)))
    cases Option.some.inj (q3.symm.trans Y.fill0)
    rw [Launch.admits_selectMethod X.admits]; exact q4
  have hselF : selectMethod e.platform s.vm P1.m.cls T.fill = .method T.fill := by
    obtain ⟨c2, r2, m2, q1, q2, q3, q4, -⟩ := Cond.selects_spec (a' (.selects cls Bundle.tFill Bundle.tFill) (by simp [tx_own]))
    cases Option.some.inj (q1.symm.trans hfound)
    cases Option.some.inj (q2.symm.trans (State.methodFound?_of_named Y.fill (by decide)))
    cases Option.some.inj (q3.symm.trans Y.fill)
    rw [Launch.admits_selectMethod X.admits]; exact q4
  obtain ⟨cellS0, hcS0, hiss⟩ := Y.statics
  obtain ⟨u0, hu0⟩ := Cond.staticRefV Y.unassigned L.unassignedStatic L.statics hcS0 hiss (a' (.isRef (.static Bundle.tN "UNASSIGNED_STACK" Bundle.steD)) (by simp [tx_own]))
  obtain ⟨sen, hsen⟩ := Cond.staticRefV Y.sentinel L.sentinelStatic L.statics hcS0 hiss (a' (.isRef (.static Bundle.tN "SUPPRESSED_SENTINEL" Bundle.listD)) (by simp [tx_own]))
  obtain ⟨ci198, i198, fB, hk198, hg198, ha198, hsB, -, hnB, htB, hffB⟩ := Cond.ownField (t := .object "java/lang/Object") Y.found L.cls (by decide +kernel) (a' (.fieldLink Bundle.tN 198 Bundle.tN "backtrace" "Ljava/lang/Object;") (by simp [tx_own])) (a' (.lays Bundle.tN Bundle.tN "backtrace" "Ljava/lang/Object;") (by simp [tx_own])) e.platform hpl
  obtain ⟨cellS, hcS', heS, -, hkeep⟩ := X.same.2.2.2.2.2 T.aS cellS0 hcS0
  have hcellS : T0.heap[T.aS]? = some cellS := hcS'
  have hout' : ∀ i, (⟨T.aS, i⟩ : Loc) ∉ locs := fun i hmem => by
    have := hlocs _ hmem cellS0 hcS0
    rw [hiss] at this; cases this
  have hknownS : cellS.vm ≠ .unknown := by
    rw [heS]; intro hu
    rw [show cellS0.vm = .unknown from hu] at hiss
    cases hiss
  have hneS : T.aS ≠ a := Nat.ne_of_lt (Nat.lt_of_lt_of_le (Array.getElem?_eq_some_iff.mp hcS0).1 hnew)
  obtain ⟨iM, hffM⟩ := Y.msg
  obtain ⟨tyC, dC, hdC, hdnC⟩ := Cond.laysAt hfound hk Y.cause (a' (.lays cls Bundle.tN "cause" "Ljava/lang/Throwable;") (by simp [tx_own]))
  obtain ⟨tyS, dS, hdS, hdnS⟩ := Cond.laysAt hfound hk Y.stack (a' (.lays cls Bundle.tN "stackTrace" Bundle.steD) (by simp [tx_own]))
  obtain ⟨tyP, dP, hdP, hdnP⟩ := Cond.laysAt hfound hk Y.supp (a' (.lays cls Bundle.tN "suppressedExceptions" Bundle.listD) (by simp [tx_own]))
  obtain ⟨tyM, dM, hdM, hdnM⟩ := Cond.laysAt hfound hk hffM (a' (.lays cls Bundle.tN "detailMessage" "Ljava/lang/String;") (by simp [tx_own]))
  obtain ⟨tyB, dB, hdB, hdnB⟩ := Cond.laysAt hfound hk hffB (a' (.lays cls Bundle.tN "backtrace" "Ljava/lang/Object;") (by simp [tx_own]))
  have bC := Cond.laysApart hdB hdC hdnB hdnC (by rw [hnB, Y.causeName]; decide)
  have bS := Cond.laysApart hdB hdS hdnB hdnS (by rw [hnB, Y.stackName]; decide)
  have bP := Cond.laysApart hdB hdP hdnB hdnP (by rw [hnB, Y.suppName]; decide)
  have hskip : SkipFacts T e.platform s (fun u => u) u0 ((preparedCellV T.toThrowableT (freshCell P1.m.cls kX) a u0 sen).withEntry T0.cur) :=
    ⟨{ ci198 := ci198, i198 := i198, fBack := fB }, ⟨hk198, hg198, ha198, hsB⟩, by
      have := fresh_default (c := P1.m.cls) tyB
      rw [htB] at this
      simpa [preparedCellV, Cell.setSlot, Cell.withEntry, Array.getElem?_setIfInBounds, bC, bS, bP, bC.symm, bS.symm, bP.symm, defaultValue] using this, fun _ _ => rfl⟩
  obtain ⟨tm, methC, cdC, kC, vm₁, hnC, -, -, -, -, -, -, -, hW₁, st1⟩ := Steps.initColdS (tb := p.tables) (e := e) (below := below) (s := s) (U := T0) X.here hexec X.warmed hpl hown (t := Bundle.initS cls) rfl rfl (Bundle.fit_spec hcls).2
    (a' (.methodLink own ic (Bundle.initS cls)) (by simp [tx_own])) (h (.instanceMethod (Bundle.initS cls)) (by simp [tx_own, Bundle.passSAtoms])) (bytes := b0) (maxL := 2) (h (.code (Bundle.initS cls) b0 2 none) (by simp [tx_own, Bundle.passSAtoms]))
    (f := g) hg (a := a) (msg := msg) (rest := .ref a :: rest) hstack hd6
  cases Option.some.inj (hnC.symm.trans hP1m)
  have X₁ := X.noted hW₁
  obtain ⟨vm₂, X₂, st2⟩ := X₁.ctorMessageOffV hexec (g := { g with stack := .ref a :: rest }) hg hsize T L Z LZ M LM (P1 :: Q1 :: Ps)
    (fun P hP => by rcases List.mem_cons.mp hP with rfl | hP; exact L1; rcases List.mem_cons.mp hP with rfl | hP; exact LQ; exact hL P hP) ⟨hsup, hlink1, hlink⟩ (u0 := u0) (sen := sen) (self := a) hmsg (cell := freshCell P1.m.cls kX) (cellS := cellS)
    hcell (fun _ => by simp) (by simp) rfl rfl hsel0 hselF hcellS hneS hknownS (by rw [hkeep _ (hout' _)]; exact hu0) (by rw [hkeep _ (hout' _)]; exact hsen)
    (Takes.of_laid hk hord tyC (by rw [Y.causeType]; rfl)) (Takes.of_laid hk hord tyS (by rw [Y.stackType]; exact fits_refV_array _ u0)) (Takes.of_laid hk hord tyP (by rw [Y.suppType]; exact fits_refV_object _ sen))
    (Takes.of_laid hk hord tyM (by rw [Y.msgType]; exact fits_refV_object _ ⟨msg, hmsg⟩)) Y.objLocals hskip htr [] hd6
    (by simp only [List.length_cons, hlen]; omega) (by simp only [List.length_cons, hlen]; exact hRlocals)
  obtain ⟨hwalk, hrun, hended, hWU, hsame⟩ := X₂.athrowLeaves hexec (g := { g with stack := .ref a :: rest, pc := g.pc + 3 }) hg hlocked hentered hout (a := a) (rest := rest) rfl hd9
  have hlt : a < ((T0.setVm vm₁).setVm vm₂).heap.size := (Array.getElem?_eq_some_iff.mp hcell).1
  have hU := heapAt_setCell_self (s := (T0.setVm vm₁).setVm vm₂) (plainBareV T.toThrowableT (freshCell P1.m.cls kX) a u0 sen msg) hlt
  refine ⟨_, st1 _ (fun acts => ?_), hrun, hended, hWU, hsame.weaken (fun y hy hlt' => ?_) (Nat.le_refl _) (Nat.le_refl _), _, hU, hfound, rfl⟩
  · rw [doInvoke_state]
    exact st2 _ hwalk
  · rcases List.mem_append.mp hy with h1 | h1
    · exact h1
    · exfalso
      have hb : y.base = a := by
        simp only [List.mem_cons, List.not_mem_nil, or_false] at h1
        rcases h1 with rfl | rfl | rfl | rfl | rfl <;> rfl
      rw [hb] at hlt'
      exact Nat.not_lt.mpr hnew hlt'
end TXC
def tx_X (cls : String) (D : va_G) (cl : List vw_C) (ws : va_W) (A : Nat → Prop) : String → State → State → Prop := vx_X (fun _ : Unit => True) (fun E _ t => E = cls ∧ va_P D cl ws t.heap) A
section TX
variable {p : Program} {l : Launch} {e : Env} {R : Room} {s : State} {m : MethodId} {args : Array Value} {below : List Frame} {meth : Method} {c : Code} {H : Heap} {locs : List Loc} {cells slots : Nat}
set_option maxHeartbeats 2000000 in
/-- follows vx_throwS of the names' text, over tx_ctor -/
theorem tx_throw {Qc : Array Value → State → Outcome → State → Prop} {cc : ByteArray} {pc mc ms : Nat} {ls : Array Slot} {rest : List Value} {cls text : String} {ik is ic i0 : Nat} {b0 : ByteArray} {A : Nat → Prop} {sa : Nat → Nat} {D : va_G} {cl : List vw_C} {ws : va_W} {cd : Cond}
    (hk : Cond.classLink RX4 ik cls ∈ wA) (hi : Cond.initialized cls ∈ wA) (hfit : Bundle.fit cls = true) (e0 : decode b0 0 = .ok (.aload_n 0, 1)) (e1 : decode b0 1 = .ok (.aload_n 1, 1)) (e2 : decode b0 2 = .ok (.invokespecial i0, 3)) (e5 : decode b0 5 = .ok (.return_, 1))
    {B9 : List Cond} (hw : ∀ w ∈ ((tx_own RX4 ic cls "java/lang/RuntimeException" tx_nm i0 b0).filter vx_no).filter goodWord, w ∈ wA) (hc1 : ∀ w ∈ ((tx_own RX4 ic cls "java/lang/RuntimeException" tx_nm i0 b0).filter vx_no).filter (fun w => !goodWord w), w ∈ B9)
    (hg : ∀ w ∈ Cond.classLink RX4 ik cls :: Cond.initialized cls :: (tx_own RX4 ic cls "java/lang/RuntimeException" tx_nm i0 b0).filter vx_no, vx_ot w = true)
    (hcc : ∀ w ∈ B9, w.before args s = true) (hexec : p.tables.exec = Jvm.exec) (hb : c.code = cc) (hl : l.stackTraces = false) (hown : s.vm.findClass RX4 = some m.cls) (hts : ∀ w ∈ cd :: wA, w.before args s = true) (hstr : (is, text) ∈ tx_strs)
    (hE : tx_E A sa s s.heap) (hP : va_P D cl ws H) (hS : va_S A s.heap H locs) (hsize : ls.size = c.maxLocals)
    (d0 : decode cc pc = .ok (.new ik, 3)) (d3 : decode cc (pc + 3) = .ok (.dup, 1)) (d4 : decode cc (pc + 4) = .ok (.ldc is, 2)) (d6 : decode cc (pc + 6) = .ok (.invokespecial ic, 3)) (d9 : decode cc (pc + 9) = .ok (.athrow, 1))
    (hout : ∀ x ∈ c.exceptionTable.toList, False) (hRf : 5 < R.frames) (hRl : (rest.map fun v => v.category).sum + 82 ≤ R.locals) (hRc : cells + 1 ≤ R.cells) (hRs : slots + 6 ≤ R.slots) (hlocks : meth.locks = false) (hc : cells + 1 ≤ mc) (hs : slots + 6 ≤ ms) :
    W p l e R s m args below meth c H locs cells slots (vx_MQ below Qc (tx_X cls D cl ws A) args s mc ms A) (F0 m pc ls rest) := by
  intro T hT X
  have htr : e.platform.stackTraces = false := (show e.platform.stackTraces = l.stackTraces by rw [X.admits.platform]).trans hl
  have Y := vx_rebase X (R' := { frames := R.frames, locals := R.locals, cells := 1, slots := 6 }) (Nat.le_refl _) (Nat.le_refl _) hRc hRs
  obtain ⟨s', hA⟩ : ∃ z, z = (T.setVm s.vm).setFrames (.invoking m args :: below) := ⟨_, rfl⟩
  rw [← hA] at Y
  have hvm : s'.vm = s.vm := by rw [hA]; rfl
  have hhp : s'.heap = H := by rw [hA]; exact hT
  have hW0 : s.WarmedH s'.vm := by rw [hvm]; exact State.WarmedH.refl s
  have hat : ∀ w ∈ (tx_own RX4 ic cls "java/lang/RuntimeException" tx_nm i0 b0).filter vx_no, w.before args s = true := vx_hat (B := B9) (fun w h => hts w (List.mem_cons_of_mem _ (hw w h))) hc1 hcc
  have hat' : ∀ w ∈ (tx_own RX4 ic cls "java/lang/RuntimeException" tx_nm i0 b0).filter vx_no, w.before args s' = true := fun w hw => vx_ot_at hW0 hvm.symm (hg w (List.mem_cons_of_mem _ (List.mem_cons_of_mem _ hw))) (hat w hw)
  have hk' : (Cond.classLink RX4 ik cls).before args s' = true := vx_ot_at hW0 hvm.symm (hg _ List.mem_cons_self) (hts _ (List.mem_cons_of_mem _ hk))
  have hini' : (Cond.initialized cls).before args s' = true := vx_ot_at hW0 hvm.symm (hg _ (List.mem_cons_of_mem _ List.mem_cons_self)) (hts _ (List.mem_cons_of_mem _ hi))
  have hU' : vx_Zq Bundle.tN "UNASSIGNED_STACK" Bundle.steD A s' s'.heap := by rw [hhp]; exact vx_Zq.moved hW0.alike (hE.1.1.kept hS.2.1)
  have hN' : vx_Zq Bundle.tN "SUPPRESSED_SENTINEL" Bundle.listD A s' s'.heap := by rw [hhp]; exact vx_Zq.moved hW0.alike (hE.1.2.kept hS.2.1)
  have h : ∀ w ∈ tx_own RX4 ic cls "java/lang/RuntimeException" tx_nm i0 b0, w.before args s' = true := vx_own hat' (vx_isRefq hU'.1) (vx_isRefq hN'.1) hU'.2.word hN'.2.word
  have hown' : s'.vm.findClass RX4 = some m.cls := by rw [hvm]; exact hown
  have hins : (Cond.instantiable cls 6).before args s' = true := h _ (by simp [tx_own])
  obtain ⟨vm₁, cX, kX, hfX, hkX, -, -, X₁, st1⟩ := Y.newCold hexec (own := RX4) (C := cls) (index := ik) (n := 6) hown' hk' hins hini'
    (g := F0 m pc ls rest) rfl (by rw [hb]; exact d0) (Nat.le_refl _) (Nat.le_refl _)
  generalize hT1 : (T.setVm vm₁).pushCell { cls := cX, slots := kX.instanceTypes.map defaultValue, vm := .none } = T1 at X₁ st1
  have hcat : (Value.ref T.heap.size).category = 1 := rfl
  have hcellA : T1.heap[T.heap.size]? = some (freshCell cX kX) := by rw [← hT1]; exact State.heap_pushCell_size _ _
  have d3' : decode c.code (pc + 3) = .ok (.dup, 1) := by rw [hb]; exact d3
  have d4' : decode c.code (pc + 4) = .ok (.ldc is, 2) := by rw [hb]; exact d4
  have hstr' : vk_R RX4 is text (sa is) s' := vk_R.warm hW0 (hE.2.2.2 (is, text) hstr)
  obtain ⟨U, hsteps, hrun, hend, hW, hsame, ce, hce, hcl9, hcv⟩ := tx_ctor X₁ hexec htr (own := RX4) (cls := cls) (Y9 := "java/lang/RuntimeException") (names := tx_nm) (ic := ic) (i0 := i0) (b0 := b0) hown' hfit (by decide) (by decide) e0 e1 e2 e5 h (fun x hx => nomatch hx) hfX hkX hcellA (by rw [hhp, hT]; exact Nat.le_refl _) (msg := .ref (sa is)) rfl
    (g := { method := m, pc := pc + 6, locals := ls, stack := .ref (sa is) :: .ref T.heap.size :: .ref T.heap.size :: rest, locked := none }) rfl hsize rfl rfl (rest := rest) rfl
    (by rw [hb]; exact d6) (by rw [hb]; exact d9) (fun x hx => (hout x hx).elim) hRf (by
      have e9 : 2 * JFrame.monitorRoom { method := m, pc := pc + 6, locals := ls, stack := .ref (sa is) :: .ref T.heap.size :: .ref T.heap.size :: rest, locked := none } = 0 := rfl
      rw [e9]
      simp only [List.map_cons, List.sum_cons, hcat, tx_nm, List.length_cons, List.length_nil]; omega) hlocks
  obtain ⟨f1, f2⟩ := vx_frame hsame
  rw [hhp] at f1 f2
  have hWs : s.WarmedH U.vm := State.WarmedH.trans hW0 hW
  have hcl : s.vm.findClass cls = some ce.cls := by rw [hvm] at hcl9; exact hcl9
  have hall : s.sameButNew ({ U with vm := s.vm } : State) locs mc ms := by
    subst hA
    obtain ⟨q1, q2⟩ := hsame
    rw [State.setFrames_setFrames] at q1
    have h2 : (T.setVm s.vm).sameButNew ({ U with vm := s.vm } : State) [] (0 + 1) (0 + 6) := ⟨q1, q2⟩
    have h3 := X.same.trans h2
    rw [List.append_nil] at h3
    exact h3.mono hc hs
  have hk9 : ∀ q : Nat, q < H.size → U.heap[q]? = H[q]? := fun q hq => f2 q hq (fun z hz => nomatch hz)
  have hx9 : tx_X cls D cl ws A cls s U := by
    refine ⟨(), trivial, ⟨rfl, hP.kept fun k q hq => hk9 _ (vx_lt hP hq)⟩, Nat.le_trans hS.1 f1, fun q h1 h2 => ?_⟩
    rw [hk9 q (Nat.lt_of_lt_of_le h1 hS.1)]
    exact hS.2.1 q h1 h2
  refine ⟨U, ?_, .threw T.heap.size, hrun, hend, Or.inr ⟨T.heap.size, rfl, cls, ce, locs, hx9, hce, hcv, hcl, hWs, hall, hS.2.2⟩⟩
  refine st1 _ ?_
  show Steps p.tables e below (T1.setTop { method := m, pc := pc + 3, locals := ls, stack := .ref T.heap.size :: rest, locked := none }) _
  jvm_step X₁.here [X₁.here.top, hexec, d3', Value.category]
  exact X₁.ldcString hexec (own := RX4) (text := text) (index := is) (a := sa is) hown' hstr'.1 hstr'.2
    (g := { method := m, pc := pc + 4, locals := ls, stack := .ref T.heap.size :: .ref T.heap.size :: rest, locked := none }) rfl d4' _ hsteps
end TX
set_option maxRecDepth 20000 in
theorem tx_wI : ∀ w ∈ ((tx_own RX4 43 "java/lang/IllegalArgumentException" "java/lang/RuntimeException" tx_nm 7 Bundle.six).filter vx_no).filter goodWord, w ∈ wA := by decide +kernel
set_option maxRecDepth 20000 in
theorem tx_cI : ∀ w ∈ ((tx_own RX4 43 "java/lang/IllegalArgumentException" "java/lang/RuntimeException" tx_nm 7 Bundle.six).filter vx_no).filter (fun w => !goodWord w), w ∈ ([Cond.castable "java/lang/IllegalArgumentException" "java/lang/IllegalArgumentException", Cond.declares ⟨"java/lang/RuntimeException", "<init>", "(Ljava/lang/String;)V"⟩, Cond.declares ⟨"java/lang/Exception", "<init>", "(Ljava/lang/String;)V"⟩, Cond.declares ⟨"java/lang/Throwable", "<init>", "(Ljava/lang/String;)V"⟩] : List Cond) := by decide +kernel
set_option maxRecDepth 20000 in
theorem tx_gI : ∀ w ∈ Cond.classLink RX4 39 "java/lang/IllegalArgumentException" :: Cond.initialized "java/lang/IllegalArgumentException" :: (tx_own RX4 43 "java/lang/IllegalArgumentException" "java/lang/RuntimeException" tx_nm 7 Bundle.six).filter vx_no, vx_ot w = true := by decide +kernel
theorem tx_hI {A : Nat → Prop} {sa : Nat → Nat} {s : State} {H : Heap} {args : Array Value} (hE : tx_E A sa s H) : ∀ w ∈ ([Cond.castable "java/lang/IllegalArgumentException" "java/lang/IllegalArgumentException", Cond.declares ⟨"java/lang/RuntimeException", "<init>", "(Ljava/lang/String;)V"⟩, Cond.declares ⟨"java/lang/Exception", "<init>", "(Ljava/lang/String;)V"⟩, Cond.declares ⟨"java/lang/Throwable", "<init>", "(Ljava/lang/String;)V"⟩] : List Cond), w.before args s = true := vx_c (va_Nw.use rfl hE.2.1.1) (vx_c (va_Nw.use rfl hE.2.1.2.2.2.1) (vx_c (va_Nw.use rfl hE.2.1.2.2.2.2.1) (vx_c (va_Nw.use rfl hE.2.1.2.2.2.2.2) vx_n)))
set_option maxRecDepth 20000 in
theorem tx_wG : ∀ w ∈ ((tx_own RX4 67 "java/lang/IllegalStateException" "java/lang/RuntimeException" tx_nm 7 Bundle.six).filter vx_no).filter goodWord, w ∈ wA := by decide +kernel
set_option maxRecDepth 20000 in
theorem tx_cG : ∀ w ∈ ((tx_own RX4 67 "java/lang/IllegalStateException" "java/lang/RuntimeException" tx_nm 7 Bundle.six).filter vx_no).filter (fun w => !goodWord w), w ∈ ([Cond.castable "java/lang/IllegalStateException" "java/lang/IllegalStateException", Cond.declares ⟨"java/lang/RuntimeException", "<init>", "(Ljava/lang/String;)V"⟩, Cond.declares ⟨"java/lang/Exception", "<init>", "(Ljava/lang/String;)V"⟩, Cond.declares ⟨"java/lang/Throwable", "<init>", "(Ljava/lang/String;)V"⟩] : List Cond) := by decide +kernel
set_option maxRecDepth 20000 in
theorem tx_gG : ∀ w ∈ Cond.classLink RX4 63 "java/lang/IllegalStateException" :: Cond.initialized "java/lang/IllegalStateException" :: (tx_own RX4 67 "java/lang/IllegalStateException" "java/lang/RuntimeException" tx_nm 7 Bundle.six).filter vx_no, vx_ot w = true := by decide +kernel
theorem tx_hG {A : Nat → Prop} {sa : Nat → Nat} {s : State} {H : Heap} {args : Array Value} (hE : tx_E A sa s H) : ∀ w ∈ ([Cond.castable "java/lang/IllegalStateException" "java/lang/IllegalStateException", Cond.declares ⟨"java/lang/RuntimeException", "<init>", "(Ljava/lang/String;)V"⟩, Cond.declares ⟨"java/lang/Exception", "<init>", "(Ljava/lang/String;)V"⟩, Cond.declares ⟨"java/lang/Throwable", "<init>", "(Ljava/lang/String;)V"⟩] : List Cond), w.before args s = true := vx_c (va_Nw.use rfl hE.2.1.2.1) (vx_c (va_Nw.use rfl hE.2.1.2.2.2.1) (vx_c (va_Nw.use rfl hE.2.1.2.2.2.2.1) (vx_c (va_Nw.use rfl hE.2.1.2.2.2.2.2) vx_n)))
set_option maxRecDepth 20000 in
theorem tx_wN : ∀ w ∈ ((tx_own RX4 106 "java/util/NoSuchElementException" "java/lang/RuntimeException" tx_nm 13 tx_b13).filter vx_no).filter goodWord, w ∈ wA := by decide +kernel
set_option maxRecDepth 20000 in
theorem tx_cN : ∀ w ∈ ((tx_own RX4 106 "java/util/NoSuchElementException" "java/lang/RuntimeException" tx_nm 13 tx_b13).filter vx_no).filter (fun w => !goodWord w), w ∈ ([Cond.castable "java/util/NoSuchElementException" "java/util/NoSuchElementException", Cond.declares ⟨"java/lang/RuntimeException", "<init>", "(Ljava/lang/String;)V"⟩, Cond.declares ⟨"java/lang/Exception", "<init>", "(Ljava/lang/String;)V"⟩, Cond.declares ⟨"java/lang/Throwable", "<init>", "(Ljava/lang/String;)V"⟩] : List Cond) := by decide +kernel
set_option maxRecDepth 20000 in
theorem tx_gN : ∀ w ∈ Cond.classLink RX4 102 "java/util/NoSuchElementException" :: Cond.initialized "java/util/NoSuchElementException" :: (tx_own RX4 106 "java/util/NoSuchElementException" "java/lang/RuntimeException" tx_nm 13 tx_b13).filter vx_no, vx_ot w = true := by decide +kernel
theorem tx_hN {A : Nat → Prop} {sa : Nat → Nat} {s : State} {H : Heap} {args : Array Value} (hE : tx_E A sa s H) : ∀ w ∈ ([Cond.castable "java/util/NoSuchElementException" "java/util/NoSuchElementException", Cond.declares ⟨"java/lang/RuntimeException", "<init>", "(Ljava/lang/String;)V"⟩, Cond.declares ⟨"java/lang/Exception", "<init>", "(Ljava/lang/String;)V"⟩, Cond.declares ⟨"java/lang/Throwable", "<init>", "(Ljava/lang/String;)V"⟩] : List Cond), w.before args s = true := vx_c (va_Nw.use rfl hE.2.1.2.2.1) (vx_c (va_Nw.use rfl hE.2.1.2.2.2.1) (vx_c (va_Nw.use rfl hE.2.1.2.2.2.2.1) (vx_c (va_Nw.use rfl hE.2.1.2.2.2.2.2) vx_n)))
theorem tx_d0 : decode tx_b13 0 = .ok (.aload_n 0, 1) := by decide +kernel
theorem tx_d1 : decode tx_b13 1 = .ok (.aload_n 1, 1) := by decide +kernel
theorem tx_d2 : decode tx_b13 2 = .ok (.invokespecial 13, 3) := by decide +kernel
theorem tx_d5 : decode tx_b13 5 = .ok (.return_, 1) := by decide +kernel
