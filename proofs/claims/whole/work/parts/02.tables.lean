/-! bits of an int (the first rows are the kit's family 'Int32 by its bits', pasted) -/
def bb_t (x : Int32) (i : Nat) : Bool := x.toBitVec.getLsbD i
theorem bb_or (x y : Int32) (i : Nat) : bb_t (x ||| y) i = (bb_t x i || bb_t y i) := by unfold bb_t; rw [Int32.toBitVec_or, BitVec.getLsbD_or]
theorem bb_and (x y : Int32) (i : Nat) : bb_t (x &&& y) i = (bb_t x i && bb_t y i) := by unfold bb_t; rw [Int32.toBitVec_and, BitVec.getLsbD_and]
theorem bb_xor (x y : Int32) (i : Nat) : bb_t (x ^^^ y) i = (bb_t x i ^^ bb_t y i) := by unfold bb_t; rw [Int32.toBitVec_xor, BitVec.getLsbD_xor]
theorem bb_m1 : ∀ i, i < 32 → bb_t (-1) i = true := by decide +kernel
theorem bb_0 (i : Nat) : bb_t 0 i = false := BitVec.getLsbD_zero
theorem bb_ext {x y : Int32} (h : ∀ i, i < 32 → bb_t x i = bb_t y i) : x = y := Int32.toBitVec_inj.mp (BitVec.eq_of_getLsbD_eq (fun i hi => h i hi))
theorem bb_one : ∀ u, u < 32 → ∀ i, i < 32 → bb_t ((1 : Int32) <<< (nI u &&& 31)) i = decide (u = i) := by decide +kernel
/-- the code's own question: is the bit t of m set? -/
theorem bb_ask (m : Int32) {t : Nat} (ht : t < 32) : m &&& ((1 : Int32) <<< (nI t &&& 31)) = 0 ↔ bb_t m t = false := by
  constructor
  · intro h
    have h1 := congrArg (fun z => bb_t z t) h
    simp only [bb_and, bb_one t ht t ht, bb_0] at h1
    simpa using h1
  · intro h
    refine bb_ext fun i hi => ?_
    rw [bb_and, bb_one t ht i hi, bb_0]
    by_cases e : t = i
    · subst e; simp [h]
    · simp [e]
theorem bb_meet (x y : Int32) : x &&& y = 0 ↔ ∀ t, t < 32 → ¬ (bb_t x t = true ∧ bb_t y t = true) := by
  constructor
  · intro h t _ hq
    have h1 := congrArg (fun z => bb_t z t) h
    simp only [bb_and, bb_0] at h1
    rw [hq.1, hq.2] at h1
    cases h1
  · intro h
    refine bb_ext fun i hi => ?_
    rw [bb_and, bb_0]
    have := h i hi
    cases h1 : bb_t x i <;> cases h2 : bb_t y i <;> simp_all
/-! tables of terms -/
def pv_s1 (k : Nat) : Nat := if k = 0 then 1 else if k = 1 then 2 else if k = 9 ∨ k = 17 ∨ k = 18 ∨ k = 19 then 4 else 3
def pv_s2 (k : Nat) : Nat := if 4 ≤ k ∧ k ≤ 13 then 3 else if k = 18 ∨ k = 19 then 4 else 0
def pv_s3 (k : Nat) : Nat := if k = 9 then 3 else 0
def pv_fit (k : Nat → Nat) (t s p : Nat) : Prop := (s = 0 → p = 0) ∧ (s = 1 → p < 2) ∧ (s = 2 → p < 32) ∧ (s = 3 → p < t ∧ k p < 10) ∧ (s = 4 → p < t ∧ 10 ≤ k p)
def pv_ok (k a b c : Nat → Nat) (t : Nat) : Prop := k t < 20 ∧ pv_fit k t (pv_s1 (k t)) (a t) ∧ pv_fit k t (pv_s2 (k t)) (b t) ∧ pv_fit k t (pv_s3 (k t)) (c t)
def pv_TI (k a b c : Nat → Nat) (n : Nat) : Prop := ∀ t, t < n → pv_ok k a b c t
/-- the worth of term t, those of its parts given -/
def pv_one (k a b c : Nat → Nat) (x y : Int32) (w : Nat → Int32) (t : Nat) : Int32 :=
  if k t = 0 then (if a t = 0 then x else y) else if k t = 1 then nI (a t)
  else if k t = 9 then (if w (a t) = 1 then w (b t) else w (c t))
  else pm_op (nI (k t)) (w (a t)) (if pv_s2 (k t) = 0 then 0 else w (b t))
def pv_sol (k a b c : Nat → Nat) (n : Nat) (x y : Int32) (w : Nat → Int32) : Prop := ∀ t, t < n → w t = pv_one k a b c x y w t
/-- the parts that term t names -/
def pv_ch (k a b c : Nat → Nat) (t u : Nat) : Prop := (3 ≤ pv_s1 (k t) ∧ u = a t) ∨ (3 ≤ pv_s2 (k t) ∧ u = b t) ∨ (3 ≤ pv_s3 (k t) ∧ u = c t)
theorem pv_s1_le (k : Nat) : pv_s1 k ≤ 4 ∧ 1 ≤ pv_s1 k := by unfold pv_s1; split <;> (try split) <;> (try split) <;> omega
theorem pv_s2_le (k : Nat) : pv_s2 k = 0 ∨ pv_s2 k = 3 ∨ pv_s2 k = 4 := by unfold pv_s2; split <;> (try split) <;> omega
theorem pv_s3_le (k : Nat) : pv_s3 k = 0 ∨ pv_s3 k = 3 := by unfold pv_s3; split <;> omega
theorem pv_ch_lt {k a b c : Nat → Nat} {t u : Nat} (h : pv_ok k a b c t) (hu : pv_ch k a b c t u) : u < t := by
  obtain ⟨-, h1, h2, h3⟩ := h
  rcases hu with ⟨q, rfl⟩ | ⟨q, rfl⟩ | ⟨q, rfl⟩
  · have := pv_s1_le (k t)
    rcases (show pv_s1 (k t) = 3 ∨ pv_s1 (k t) = 4 by omega) with e | e
    · exact (h1.2.2.2.1 e).1
    · exact (h1.2.2.2.2 e).1
  · rcases pv_s2_le (k t) with e | e | e
    · omega
    · exact (h2.2.2.2.1 e).1
    · exact (h2.2.2.2.2 e).1
  · rcases pv_s3_le (k t) with e | e
    · omega
    · exact (h3.2.2.2.1 e).1
theorem pv_one_congr {k a b c : Nat → Nat} {x y : Int32} {w w' : Nat → Int32} {t : Nat} (h : ∀ u, pv_ch k a b c t u → w u = w' u) : pv_one k a b c x y w t = pv_one k a b c x y w' t := by
  unfold pv_one
  by_cases h0 : k t = 0
  · simp [h0]
  by_cases h1 : k t = 1
  · simp [h1]
  by_cases h9 : k t = 9
  · have e1 := h (a t) (Or.inl ⟨by simp [pv_s1, h9], rfl⟩)
    have e2 := h (b t) (Or.inr (Or.inl ⟨by simp [pv_s2, h9], rfl⟩))
    have e3 := h (c t) (Or.inr (Or.inr ⟨by simp [pv_s3, h9], rfl⟩))
    simp [h9, e1, e2, e3]
  · have e1 := h (a t) (Or.inl ⟨by unfold pv_s1; rw [if_neg h0, if_neg h1]; split <;> omega, rfl⟩)
    by_cases hs : pv_s2 (k t) = 0
    · simp [h0, h1, h9, hs, e1]
    · have e2 := h (b t) (Or.inr (Or.inl ⟨by rcases pv_s2_le (k t) with e | e | e <;> omega, rfl⟩))
      simp [h0, h1, h9, hs, e1, e2]
theorem pv_uniq {k a b c : Nat → Nat} {n : Nat} {x y : Int32} {w w' : Nat → Int32} (hT : pv_TI k a b c n) (h : pv_sol k a b c n x y w) (h' : pv_sol k a b c n x y w') : ∀ t, t < n → w t = w' t := by
  intro t
  induction t using Nat.strongRecOn with
  | _ t ih =>
    intro ht
    rw [h t ht, h' t ht]
    exact pv_one_congr fun u hu => ih u (pv_ch_lt (hT t ht) hu) (Nat.lt_trans (pv_ch_lt (hT t ht) hu) ht)
/-! what the terms are worth lies in its range -/
def pv_rng (k : Nat → Nat) (w : Nat → Int32) (t : Nat) : Prop := (k t < 10 → ∃ j, j < 32 ∧ w t = nI j) ∧ (10 ≤ k t → w t = 0 ∨ w t = 1)
theorem pe_mask : ∀ x : Int32, x &&& 31 = x → ∃ j, j < 32 ∧ x = nI j := by
  intro x h
  obtain ⟨j, h1, h2⟩ := pk_andE x (m := 31) 5 (by decide)
  exact ⟨j, h1, by rw [← h]; exact h2⟩
theorem pe_opE {k x y : Nat} (hk : k < 17) (h2 : 2 ≤ k) (h9 : k ≠ 9) (hx : x < 32) (hy : y < 32) : pu_op (nI k) (nI x) (nI y) = pm_op (nI k) (nI x) (nI y) := by
  have h := List.all_eq_true.mp pe_op k (List.mem_range.mpr hk)
  rw [Bool.or_eq_true] at h
  rcases h with h | h
  · simp at h; omega
  · exact of_decide_eq_true (List.all_eq_true.mp (List.all_eq_true.mp h x (List.mem_range.mpr hx)) y (List.mem_range.mpr hy))
theorem pe_numE {k x y : Nat} (hk : k < 9) (h2 : 2 ≤ k) (hx : x < 32) (hy : y < 32) : ∃ j, j < 32 ∧ pm_op (nI k) (nI x) (nI y) = nI j := by
  have h := List.all_eq_true.mp pe_num k (List.mem_range.mpr hk)
  rw [Bool.or_eq_true] at h
  rcases h with h | h
  · simp at h; omega
  · exact pe_mask _ (of_decide_eq_true (List.all_eq_true.mp (List.all_eq_true.mp h x (List.mem_range.mpr hx)) y (List.mem_range.mpr hy)))
theorem pe_truE {k x y : Nat} (hk : k < 17) (h2 : 10 ≤ k) (hx : x < 32) (hy : y < 32) : pm_op (nI k) (nI x) (nI y) = 0 ∨ pm_op (nI k) (nI x) (nI y) = 1 := by
  have h := List.all_eq_true.mp pe_tru k (List.mem_range.mpr hk)
  rw [Bool.or_eq_true] at h
  rcases h with h | h
  · simp at h; omega
  · exact of_decide_eq_true (List.all_eq_true.mp (List.all_eq_true.mp h x (List.mem_range.mpr hx)) y (List.mem_range.mpr hy))
theorem pe_logic : ∀ k, k < 20 → 17 ≤ k → ∀ x y : Int32, (x = 0 ∨ x = 1) → (y = 0 ∨ y = 1) → pm_op (nI k) x y = 0 ∨ pm_op (nI k) x y = 1 := by
  intro k hk h17 x y hx hy
  rcases (show k = 17 ∨ k = 18 ∨ k = 19 by omega) with rfl | rfl | rfl <;> rcases hx with rfl | rfl <;> rcases hy with rfl | rfl <;> decide +kernel
theorem pv_range {k a b c : Nat → Nat} {n : Nat} {x y : Int32} {w : Nat → Int32} (hT : pv_TI k a b c n) (h : pv_sol k a b c n x y w) (hx : ∃ j, j < 32 ∧ x = nI j) (hy : ∃ j, j < 32 ∧ y = nI j) : ∀ t, t < n → pv_rng k w t := by
  intro t
  induction t using Nat.strongRecOn with
  | _ t ih =>
    intro ht
    have hok := hT t ht
    have lt : ∀ u, pv_ch k a b c t u → pv_rng k w u := fun u hu => ih u (pv_ch_lt hok hu) (Nat.lt_trans (pv_ch_lt hok hu) ht)
    obtain ⟨hk, h1, h2, h3⟩ := hok
    have e := h t ht
    unfold pv_one at e
    by_cases k0 : k t = 0
    · rw [if_pos k0] at e
      refine ⟨fun _ => ?_, fun z => by omega⟩
      rw [e]
      split
      · exact hx
      · exact hy
    rw [if_neg k0] at e
    by_cases k1 : k t = 1
    · rw [if_pos k1] at e
      exact ⟨fun _ => ⟨a t, h1.2.2.1 (by simp [pv_s1, k1]), e⟩, fun z => by omega⟩
    rw [if_neg k1] at e
    by_cases k9 : k t = 9
    · rw [if_pos k9] at e
      refine ⟨fun _ => ?_, fun z => by omega⟩
      rw [e]
      split
      · exact (lt (b t) (Or.inr (Or.inl ⟨by simp [pv_s2, k9], rfl⟩))).1 (h2.2.2.2.1 (by simp [pv_s2, k9])).2
      · exact (lt (c t) (Or.inr (Or.inr ⟨by simp [pv_s3, k9], rfl⟩))).1 (h3.2.2.2.1 (by simp [pv_s3, k9])).2
    rw [if_neg k9] at e
    have ha := lt (a t) (Or.inl ⟨by unfold pv_s1; rw [if_neg k0, if_neg k1]; split <;> omega, rfl⟩)
    by_cases k17 : 17 ≤ k t
    · have s1 : pv_s1 (k t) = 4 := by unfold pv_s1; rw [if_neg k0, if_neg k1, if_pos (by omega)]
      have av := ha.2 (h1.2.2.2.2 s1).2
      have bv : (if pv_s2 (k t) = 0 then (0 : Int32) else w (b t)) = 0 ∨ (if pv_s2 (k t) = 0 then (0 : Int32) else w (b t)) = 1 := by
        by_cases s2 : pv_s2 (k t) = 0
        · rw [if_pos s2]; exact Or.inl rfl
        · rw [if_neg s2]
          have s4 : pv_s2 (k t) = 4 := by unfold pv_s2 at s2 ⊢; rw [if_neg (by omega)] at s2 ⊢; by_cases q : k t = 18 ∨ k t = 19; rw [if_pos q]; rw [if_neg q] at s2; omega
          exact (lt (b t) (Or.inr (Or.inl ⟨by omega, rfl⟩))).2 (h2.2.2.2.2 s4).2
      exact ⟨fun z => by omega, fun _ => by rw [e]; exact pe_logic _ hk k17 _ _ av bv⟩
    · have s1 : pv_s1 (k t) = 3 := by unfold pv_s1; rw [if_neg k0, if_neg k1, if_neg (by omega)]
      obtain ⟨i, hi, ai⟩ := ha.1 (h1.2.2.2.1 s1).2
      have bv : ∃ j, j < 32 ∧ (if pv_s2 (k t) = 0 then (0 : Int32) else w (b t)) = nI j := by
        by_cases s2 : pv_s2 (k t) = 0
        · rw [if_pos s2]; exact ⟨0, by omega, nI_0.symm⟩
        · rw [if_neg s2]
          have s3 : pv_s2 (k t) = 3 := by unfold pv_s2 at s2 ⊢; by_cases q : 4 ≤ k t ∧ k t ≤ 13; rw [if_pos q]; rw [if_neg q, if_neg (by omega)] at s2; omega
          exact (lt (b t) (Or.inr (Or.inl ⟨by omega, rfl⟩))).1 (h2.2.2.2.1 s3).2
      obtain ⟨j, hj, bj⟩ := bv
      rw [ai, bj] at e
      refine ⟨fun z => ?_, fun z => ?_⟩
      · rw [e]; exact pe_numE (by omega) (by omega) hi hj
      · rw [e]; exact pe_truE (by omega) z hi hj
/-! the class's own reckoning of a term -/
def pc_one (k a b c : Nat → Nat) (x y : Int32) (w : Nat → Int32) (t : Nat) : Int32 :=
  if k t = 0 then (if a t = 0 then x else y) else if k t = 1 then nI (a t)
  else if k t = 9 then (if w (a t) = 1 then w (b t) else w (c t))
  else if k t = 17 then 1 - w (a t) else if k t = 18 then w (a t) &&& w (b t) else if k t = 19 then w (a t) ||| w (b t)
  else pu_op (nI (k t)) (w (a t)) (w (b t))
theorem pe_un : ∀ k, k < 17 → 2 ≤ k → (pv_s2 k = 0) → k ≠ 9 → ∀ x y z : Int32, pu_op (nI k) x y = pu_op (nI k) x z := by
  intro k h17 h2 hs h9 x y z
  rcases (show k = 2 ∨ k = 3 ∨ k = 14 ∨ k = 15 ∨ k = 16 by unfold pv_s2 at hs; by_cases q : 4 ≤ k ∧ k ≤ 13; rw [if_pos q] at hs; omega; omega) with rfl | rfl | rfl | rfl | rfl
  · rw [show nI 2 = (2 : Int32) from by decide]; simp [pu_op]
  · rw [show nI 3 = (3 : Int32) from by decide]; simp [pu_op]
  · rw [show nI 14 = (14 : Int32) from by decide]; simp [pu_op]
  · rw [show nI 15 = (15 : Int32) from by decide]; simp [pu_op]
  · rw [show nI 16 = (16 : Int32) from by decide]; simp [pu_op]
theorem pc_one_eq {k a b c : Nat → Nat} {n : Nat} {x y : Int32} {w v : Nat → Int32} {t : Nat} (hT : pv_TI k a b c n) (ht : t < n) (hr : ∀ u, u < n → pv_rng k v u) (hw : ∀ u, pv_ch k a b c t u → w u = v u) : pc_one k a b c x y w t = pv_one k a b c x y v t := by
  have hok := hT t ht
  have lt : ∀ u, pv_ch k a b c t u → pv_rng k v u := fun u hu => hr u (Nat.lt_trans (pv_ch_lt hok hu) ht)
  obtain ⟨hk, h1, h2, h3⟩ := hok
  unfold pc_one pv_one
  by_cases k0 : k t = 0
  · simp [k0]
  by_cases k1 : k t = 1
  · simp [k1]
  have ca : pv_ch k a b c t (a t) := Or.inl ⟨by unfold pv_s1; rw [if_neg k0, if_neg k1]; split <;> omega, rfl⟩
  by_cases k9 : k t = 9
  · have e1 := hw (a t) ca
    have e2 := hw (b t) (Or.inr (Or.inl ⟨by simp [pv_s2, k9], rfl⟩))
    have e3 := hw (c t) (Or.inr (Or.inr ⟨by simp [pv_s3, k9], rfl⟩))
    simp [k9, e1, e2, e3]
  have e1 := hw (a t) ca
  by_cases k17 : 17 ≤ k t
  · have s1 : pv_s1 (k t) = 4 := by unfold pv_s1; rw [if_neg k0, if_neg k1, if_pos (by omega)]
    have av := (lt (a t) ca).2 (h1.2.2.2.2 s1).2
    rcases (show k t = 17 ∨ k t = 18 ∨ k t = 19 by omega) with q | q | q
    · rw [if_neg k0, if_neg k1, if_neg k9, if_pos q, if_neg k0, if_neg k1, if_neg k9, e1, q]; rfl
    · have s2 : pv_s2 (k t) = 4 := by rw [q]; rfl
      have cb : pv_ch k a b c t (b t) := Or.inr (Or.inl ⟨by omega, rfl⟩)
      have e2 := hw (b t) cb
      have bv := (lt (b t) cb).2 (h2.2.2.2.2 s2).2
      rw [if_neg k0, if_neg k1, if_neg k9, if_neg (by omega), if_pos q, if_neg k0, if_neg k1, if_neg k9, e1, e2, if_neg (by omega), q]
      rcases av with z1 | z1 <;> rcases bv with z2 | z2 <;> rw [z1, z2] <;> decide +kernel
    · have s2 : pv_s2 (k t) = 4 := by rw [q]; rfl
      have cb : pv_ch k a b c t (b t) := Or.inr (Or.inl ⟨by omega, rfl⟩)
      have e2 := hw (b t) cb
      have bv := (lt (b t) cb).2 (h2.2.2.2.2 s2).2
      rw [if_neg k0, if_neg k1, if_neg k9, if_neg (by omega), if_neg (by omega), if_pos q, if_neg k0, if_neg k1, if_neg k9, e1, e2, if_neg (by omega), q]
      rcases av with z1 | z1 <;> rcases bv with z2 | z2 <;> rw [z1, z2] <;> decide +kernel
  · have s1 : pv_s1 (k t) = 3 := by unfold pv_s1; rw [if_neg k0, if_neg k1, if_neg (by omega)]
    obtain ⟨i, hi, ai⟩ := (lt (a t) ca).1 (h1.2.2.2.1 s1).2
    rw [if_neg k0, if_neg k1, if_neg k9, if_neg (by omega), if_neg (by omega), if_neg (by omega), if_neg k0, if_neg k1, if_neg k9, e1, ai]
    by_cases s2 : pv_s2 (k t) = 0
    · rw [if_pos s2, pe_un (k t) (by omega) (by omega) s2 k9 (nI i) (w (b t)) (nI 0), pe_opE (by omega) (by omega) k9 hi (by omega), nI_0]
    · rw [if_neg s2]
      have s3 : pv_s2 (k t) = 3 := by unfold pv_s2 at s2 ⊢; by_cases q : 4 ≤ k t ∧ k t ≤ 13; rw [if_pos q]; rw [if_neg q, if_neg (by omega)] at s2; omega
      have cb : pv_ch k a b c t (b t) := Or.inr (Or.inl ⟨by omega, rfl⟩)
      obtain ⟨j, hj, bj⟩ := (lt (b t) cb).1 (h2.2.2.2.1 s3).2
      rw [hw (b t) cb, bj]
      exact pe_opE (by omega) (by omega) k9 hi hj
