section
/-! numbers of the class, as its code branches -/
def pu_nan (x : Int32) : Int32 := if x &&& 15 ≤ 12 then 0 else 1
def pu_inf (x : Int32) : Int32 := if x &&& 15 = 12 then 1 else 0
def pu_zer (x : Int32) : Int32 := if x &&& 15 = 0 then 1 else 0
def pu_neg (x : Int32) : Int32 := x ^^^ 16
def pu_mag (x : Int32) : Int32 := if x &&& 15 < 8 then x &&& 15 else 2 * (x &&& 15) - 8
def pu_sq (x : Int32) : Int32 := if x &&& 16 = 0 then pu_mag x else -(pu_mag x)
def pu_eq (x y : Int32) : Int32 := if pu_nan x = 0 then (if pu_nan y = 0 then (if x = y then 1 else if pu_zer x = 0 then 0 else if pu_zer y = 0 then 0 else 1) else 0) else 0
def pu_les (x y : Int32) : Int32 := if pu_nan x = 0 then (if pu_nan y = 0 then (if pu_sq x < pu_sq y then 1 else 0) else 0) else 0
def pu_stp (s : Int32) : Int32 := if s < 32 then 4 else 8
def pu_num (s : Int32) : Int32 := s / pu_stp s + (if s < 32 then 0 else 4)
def pu_twi (s : Int32) : Int32 := 2 * (s - s / pu_stp s * pu_stp s)
def pu_up (s : Int32) : Int32 := if pu_stp s < pu_twi s ∨ (pu_twi s = pu_stp s ∧ pu_num s - pu_num s / 2 * 2 = 1) then pu_num s + 1 else pu_num s
def pu_rnd (s : Int32) : Int32 := if pu_up s < 12 then pu_up s else 12
def pu_abs (x : Int32) : Int32 := if 0 ≤ x then x else 0 - x
def pu_add (x y : Int32) : Int32 :=
  if pu_nan x = 0 ∧ pu_nan y = 0 then
    (if pu_inf x = 0 then
      (if pu_inf y = 0 then
        (if pu_sq x + pu_sq y = 0 then (if x = 16 ∧ y = 16 then 16 else 0)
         else (if pu_sq x + pu_sq y < 0 then 16 else 0) ||| pu_rnd (4 * pu_abs (pu_sq x + pu_sq y)))
       else y)
     else if ¬ pu_inf y = 0 ∧ ¬ x = y then 13 else x)
  else 13
def pu_mul (x y : Int32) : Int32 :=
  if pu_nan x = 0 ∧ pu_nan y = 0 ∧ ¬ (¬ pu_inf x = 0 ∧ ¬ pu_zer y = 0) ∧ ¬ (¬ pu_zer x = 0 ∧ ¬ pu_inf y = 0) then
    (if pu_inf x = 0 ∧ pu_inf y = 0 then ((x ^^^ y) &&& 16) ||| pu_rnd (pu_abs (pu_sq x * pu_sq y)) else ((x ^^^ y) &&& 16) ||| 12)
  else 13
def pu_op (k x y : Int32) : Int32 :=
  if k = 2 then pu_neg x else if k = 3 then x &&& 15 else if k = 4 then pu_add x y else if k = 5 then pu_add x (pu_neg y) else if k = 6 then pu_mul x y
  else if k = 7 then (if ¬ pu_nan x = 0 ∨ ¬ pu_les y x = 0 then y else x)
  else if k = 8 then (if ¬ pu_nan x = 0 ∨ ¬ pu_les x y = 0 then y else x)
  else if k = 10 then (if x = y ∨ (¬ pu_nan x = 0 ∧ ¬ pu_nan y = 0) then 1 else 0)
  else if k = 11 then (if pu_eq x y = 0 then 0 else 1)
  else if k = 12 then (if pu_les x y = 0 then 0 else 1)
  else if k = 13 then (if ¬ pu_les x y = 0 ∨ ¬ pu_eq x y = 0 then 1 else 0)
  else if k = 14 then (if pu_nan x = 0 then 0 else 1)
  else if k = 15 then (if pu_inf x = 0 then 0 else 1)
  else if k = 16 then (if pu_zer x = 0 then 0 else 1)
  else 0
/-! numbers of the reference -/
def pm_q (k : Int32) : Int32 := if k < 8 then k else if k < 12 then 2 * k - 8 else 16
def pm_out (k n : Int32) : Int32 := if k < 0 then 1 else if n ≤ k then 1 else 0
def pm_wor (x : Int32) : Int32 := if 16 ≤ x then -(if pu_inf x = 0 then pm_q (x &&& 15) else 100) else (if pu_inf x = 0 then pm_q (x &&& 15) else 100)
def pm_ab (x : Int32) : Int32 := if x < 0 then -x else x
def pm_rst (s best : Int32) (k : Int32) : Int32 :=
  if pm_ab (s - 4 * pm_q k) < pm_ab (s - 4 * pm_q best) ∨ (pm_ab (s - 4 * pm_q k) = pm_ab (s - 4 * pm_q best) ∧ k - k / 2 * 2 = 0) then k else best
def pm_rlp (s : Int32) : Nat → Int32
  | 0 => 0
  | k + 1 => pm_rst s (pm_rlp s k) (nI (k + 1))
def pm_rnd (s : Int32) : Int32 := pm_rlp s 12
def pm_add (x y : Int32) : Int32 :=
  if ¬ pu_nan x = 0 ∨ ¬ pu_nan y = 0 ∨ (¬ pu_inf x = 0 ∧ ¬ pu_inf y = 0 ∧ ¬ x = y) then 13
  else if ¬ pu_inf x = 0 then x else if ¬ pu_inf y = 0 then y
  else if pm_wor x + pm_wor y = 0 then (if x = 16 ∧ y = 16 then 16 else 0)
  else if pm_wor x + pm_wor y < 0 then 16 + pm_rnd (-4 * (pm_wor x + pm_wor y)) else pm_rnd (4 * (pm_wor x + pm_wor y))
def pm_mul (x y : Int32) : Int32 :=
  if ¬ pu_nan x = 0 ∨ ¬ pu_nan y = 0 ∨ (¬ pu_inf x = 0 ∧ ¬ pu_zer y = 0) ∨ (¬ pu_inf y = 0 ∧ ¬ pu_zer x = 0) then 13
  else if ¬ pu_inf x = 0 ∨ ¬ pu_inf y = 0 then ((x ^^^ y) &&& 16) + 12
  else ((x ^^^ y) &&& 16) + pm_rnd (pm_q (x &&& 15) * pm_q (y &&& 15))
def pm_eq (x y : Int32) : Int32 := if pu_nan x = 0 ∧ pu_nan y = 0 ∧ (x = y ∨ (¬ pu_zer x = 0 ∧ ¬ pu_zer y = 0)) then 1 else 0
def pm_les (x y : Int32) : Int32 := if pu_nan x = 0 ∧ pu_nan y = 0 ∧ pm_wor x < pm_wor y then 1 else 0
def pm_op (k x y : Int32) : Int32 :=
  if k = 2 then x ^^^ 16 else if k = 3 then x &&& 15 else if k = 4 then pm_add x y else if k = 5 then pm_add x (y ^^^ 16) else if k = 6 then pm_mul x y
  else if k = 7 then (if ¬ pu_nan x = 0 ∨ ¬ pm_les y x = 0 then y else x)
  else if k = 8 then (if ¬ pu_nan x = 0 ∨ ¬ pm_les x y = 0 then y else x)
  else if k = 10 then (if x = y ∨ (¬ pu_nan x = 0 ∧ ¬ pu_nan y = 0) then 1 else 0)
  else if k = 11 then (if pm_eq x y = 0 then 0 else 1)
  else if k = 12 then (if pm_les x y = 0 then 0 else 1)
  else if k = 13 then (if ¬ pm_les x y = 0 ∨ ¬ pm_eq x y = 0 then 1 else 0)
  else if k = 14 then (if pu_nan x = 0 then 0 else 1)
  else if k = 15 then (if pu_inf x = 0 then 0 else 1)
  else if k = 16 then (if pu_zer x = 0 then 0 else 1)
  else if k = 17 then 1 - x
  else if k = 18 then x * y
  else (if 0 < x + y then 1 else 0)
/-! the two agree on numbers -/
theorem pe_op : (List.range 17).all (fun k => (k < 2 || k == 9) || (List.range 32).all fun x => (List.range 32).all fun y => decide (pu_op (nI k) (nI x) (nI y) = pm_op (nI k) (nI x) (nI y))) = true := by decide +kernel
theorem pe_num : (List.range 9).all (fun k => k < 2 || (List.range 32).all fun x => (List.range 32).all fun y => decide (pm_op (nI k) (nI x) (nI y) &&& 31 = pm_op (nI k) (nI x) (nI y))) = true := by decide +kernel
theorem pe_tru : (List.range 17).all (fun k => k < 10 || (List.range 32).all fun x => (List.range 32).all fun y => decide (pm_op (nI k) (nI x) (nI y) = 0 ∨ pm_op (nI k) (nI x) (nI y) = 1)) = true := by decide +kernel
end
section
/-! bits of an int (the first rows are the kit's family 'Int32 by its bits', pasted) -/
def bb_t (x : Int32) (i : Nat) : Bool := x.toBitVec.getLsbD i
theorem bb_or (x y : Int32) (i : Nat) : bb_t (x ||| y) i = (bb_t x i || bb_t y i) := by unfold bb_t; rw [Int32.toBitVec_or, BitVec.getLsbD_or]
theorem bb_and (x y : Int32) (i : Nat) : bb_t (x &&& y) i = (bb_t x i && bb_t y i) := by unfold bb_t; rw [Int32.toBitVec_and, BitVec.getLsbD_and]
theorem bb_xor (x y : Int32) (i : Nat) : bb_t (x ^^^ y) i = (bb_t x i ^^ bb_t y i) := by unfold bb_t; rw [Int32.toBitVec_xor, BitVec.getLsbD_xor]
theorem bb_m1 : ∀ i, i < 32 → bb_t (-1) i = true := by decide +kernel
theorem bb_0 (i : Nat) : bb_t 0 i = false := BitVec.getLsbD_zero
theorem bb_ext {x y : Int32} (h : ∀ i, i < 32 → bb_t x i = bb_t y i) : x = y := Int32.toBitVec_inj.mp (BitVec.eq_of_getLsbD_eq (fun i hi => h i hi))
theorem bb_one : ∀ u, u < 32 → ∀ i, i < 32 → bb_t ((1 : Int32) <<< (nI u &&& 31)) i = decide (u = i) := by decide +kernel
/-- the code's own question: is the bit t of m set? -/
theorem bb_ask (m : Int32) {t : Nat} (ht : t < 32) : m &&& ((1 : Int32) <<< (nI t &&& 31)) = 0 ↔ bb_t m t = false := by
  constructor
  · intro h
    have h1 := congrArg (fun z => bb_t z t) h
    simp only [bb_and, bb_one t ht t ht, bb_0] at h1
    simpa using h1
  · intro h
    refine bb_ext fun i hi => ?_
    rw [bb_and, bb_one t ht i hi, bb_0]
    by_cases e : t = i
    · subst e; simp [h]
    · simp [e]
theorem bb_meet (x y : Int32) : x &&& y = 0 ↔ ∀ t, t < 32 → ¬ (bb_t x t = true ∧ bb_t y t = true) := by
  constructor
  · intro h t _ hq
    have h1 := congrArg (fun z => bb_t z t) h
    simp only [bb_and, bb_0] at h1
    rw [hq.1, hq.2] at h1
    cases h1
  · intro h
    refine bb_ext fun i hi => ?_
    rw [bb_and, bb_0]
    have := h i hi
    cases h1 : bb_t x i <;> cases h2 : bb_t y i <;> simp_all
/-! tables of terms -/
def pv_s1 (k : Nat) : Nat := if k = 0 then 1 else if k = 1 then 2 else if k = 9 ∨ k = 17 ∨ k = 18 ∨ k = 19 then 4 else 3
def pv_s2 (k : Nat) : Nat := if 4 ≤ k ∧ k ≤ 13 then 3 else if k = 18 ∨ k = 19 then 4 else 0
def pv_s3 (k : Nat) : Nat := if k = 9 then 3 else 0
def pv_fit (k : Nat → Nat) (t s p : Nat) : Prop := (s = 0 → p = 0) ∧ (s = 1 → p < 2) ∧ (s = 2 → p < 32) ∧ (s = 3 → p < t ∧ k p < 10) ∧ (s = 4 → p < t ∧ 10 ≤ k p)
def pv_ok (k a b c : Nat → Nat) (t : Nat) : Prop := k t < 20 ∧ pv_fit k t (pv_s1 (k t)) (a t) ∧ pv_fit k t (pv_s2 (k t)) (b t) ∧ pv_fit k t (pv_s3 (k t)) (c t)
def pv_TI (k a b c : Nat → Nat) (n : Nat) : Prop := ∀ t, t < n → pv_ok k a b c t
/-- the worth of term t, those of its parts given -/
def pv_one (k a b c : Nat → Nat) (x y : Int32) (w : Nat → Int32) (t : Nat) : Int32 :=
  if k t = 0 then (if a t = 0 then x else y) else if k t = 1 then nI (a t)
  else if k t = 9 then (if w (a t) = 1 then w (b t) else w (c t))
  else pm_op (nI (k t)) (w (a t)) (if pv_s2 (k t) = 0 then 0 else w (b t))
def pv_sol (k a b c : Nat → Nat) (n : Nat) (x y : Int32) (w : Nat → Int32) : Prop := ∀ t, t < n → w t = pv_one k a b c x y w t
/-- the parts that term t names -/
def pv_ch (k a b c : Nat → Nat) (t u : Nat) : Prop := (3 ≤ pv_s1 (k t) ∧ u = a t) ∨ (3 ≤ pv_s2 (k t) ∧ u = b t) ∨ (3 ≤ pv_s3 (k t) ∧ u = c t)
theorem pv_s1_le (k : Nat) : pv_s1 k ≤ 4 ∧ 1 ≤ pv_s1 k := by unfold pv_s1; split <;> (try split) <;> (try split) <;> omega
theorem pv_s2_le (k : Nat) : pv_s2 k = 0 ∨ pv_s2 k = 3 ∨ pv_s2 k = 4 := by unfold pv_s2; split <;> (try split) <;> omega
theorem pv_s3_le (k : Nat) : pv_s3 k = 0 ∨ pv_s3 k = 3 := by unfold pv_s3; split <;> omega
theorem pv_ch_lt {k a b c : Nat → Nat} {t u : Nat} (h : pv_ok k a b c t) (hu : pv_ch k a b c t u) : u < t := by
  obtain ⟨-, h1, h2, h3⟩ := h
  rcases hu with ⟨q, rfl⟩ | ⟨q, rfl⟩ | ⟨q, rfl⟩
  · have := pv_s1_le (k t)
    rcases (show pv_s1 (k t) = 3 ∨ pv_s1 (k t) = 4 by omega) with e | e
    · exact (h1.2.2.2.1 e).1
    · exact (h1.2.2.2.2 e).1
  · rcases pv_s2_le (k t) with e | e | e
    · omega
    · exact (h2.2.2.2.1 e).1
    · exact (h2.2.2.2.2 e).1
  · rcases pv_s3_le (k t) with e | e
    · omega
    · exact (h3.2.2.2.1 e).1
theorem pv_one_congr {k a b c : Nat → Nat} {x y : Int32} {w w' : Nat → Int32} {t : Nat} (h : ∀ u, pv_ch k a b c t u → w u = w' u) : pv_one k a b c x y w t = pv_one k a b c x y w' t := by
  unfold pv_one
  by_cases h0 : k t = 0
  · simp [h0]
  by_cases h1 : k t = 1
  · simp [h1]
  by_cases h9 : k t = 9
  · have e1 := h (a t) (Or.inl ⟨by simp [pv_s1, h9], rfl⟩)
    have e2 := h (b t) (Or.inr (Or.inl ⟨by simp [pv_s2, h9], rfl⟩))
    have e3 := h (c t) (Or.inr (Or.inr ⟨by simp [pv_s3, h9], rfl⟩))
    simp [h9, e1, e2, e3]
  · have e1 := h (a t) (Or.inl ⟨by unfold pv_s1; rw [if_neg h0, if_neg h1]; split <;> omega, rfl⟩)
    by_cases hs : pv_s2 (k t) = 0
    · simp [h0, h1, h9, hs, e1]
    · have e2 := h (b t) (Or.inr (Or.inl ⟨by rcases pv_s2_le (k t) with e | e | e <;> omega, rfl⟩))
      simp [h0, h1, h9, hs, e1, e2]
theorem pv_uniq {k a b c : Nat → Nat} {n : Nat} {x y : Int32} {w w' : Nat → Int32} (hT : pv_TI k a b c n) (h : pv_sol k a b c n x y w) (h' : pv_sol k a b c n x y w') : ∀ t, t < n → w t = w' t := by
  intro t
  induction t using Nat.strongRecOn with
  | _ t ih =>
    intro ht
    rw [h t ht, h' t ht]
    exact pv_one_congr fun u hu => ih u (pv_ch_lt (hT t ht) hu) (Nat.lt_trans (pv_ch_lt (hT t ht) hu) ht)
/-! what the terms are worth lies in its range -/
def pv_rng (k : Nat → Nat) (w : Nat → Int32) (t : Nat) : Prop := (k t < 10 → ∃ j, j < 32 ∧ w t = nI j) ∧ (10 ≤ k t → w t = 0 ∨ w t = 1)
theorem pe_mask : ∀ x : Int32, x &&& 31 = x → ∃ j, j < 32 ∧ x = nI j := by
  intro x h
  obtain ⟨j, h1, h2⟩ := pk_andE x (m := 31) 5 (by decide)
  exact ⟨j, h1, by rw [← h]; exact h2⟩
theorem pe_opE {k x y : Nat} (hk : k < 17) (h2 : 2 ≤ k) (h9 : k ≠ 9) (hx : x < 32) (hy : y < 32) : pu_op (nI k) (nI x) (nI y) = pm_op (nI k) (nI x) (nI y) := by
  have h := List.all_eq_true.mp pe_op k (List.mem_range.mpr hk)
  rw [Bool.or_eq_true] at h
  rcases h with h | h
  · simp at h; omega
  · exact of_decide_eq_true (List.all_eq_true.mp (List.all_eq_true.mp h x (List.mem_range.mpr hx)) y (List.mem_range.mpr hy))
theorem pe_numE {k x y : Nat} (hk : k < 9) (h2 : 2 ≤ k) (hx : x < 32) (hy : y < 32) : ∃ j, j < 32 ∧ pm_op (nI k) (nI x) (nI y) = nI j := by
  have h := List.all_eq_true.mp pe_num k (List.mem_range.mpr hk)
  rw [Bool.or_eq_true] at h
  rcases h with h | h
  · simp at h; omega
  · exact pe_mask _ (of_decide_eq_true (List.all_eq_true.mp (List.all_eq_true.mp h x (List.mem_range.mpr hx)) y (List.mem_range.mpr hy)))
theorem pe_truE {k x y : Nat} (hk : k < 17) (h2 : 10 ≤ k) (hx : x < 32) (hy : y < 32) : pm_op (nI k) (nI x) (nI y) = 0 ∨ pm_op (nI k) (nI x) (nI y) = 1 := by
  have h := List.all_eq_true.mp pe_tru k (List.mem_range.mpr hk)
  rw [Bool.or_eq_true] at h
  rcases h with h | h
  · simp at h; omega
  · exact of_decide_eq_true (List.all_eq_true.mp (List.all_eq_true.mp h x (List.mem_range.mpr hx)) y (List.mem_range.mpr hy))
theorem pe_logic : ∀ k, k < 20 → 17 ≤ k → ∀ x y : Int32, (x = 0 ∨ x = 1) → (y = 0 ∨ y = 1) → pm_op (nI k) x y = 0 ∨ pm_op (nI k) x y = 1 := by
  intro k hk h17 x y hx hy
  rcases (show k = 17 ∨ k = 18 ∨ k = 19 by omega) with rfl | rfl | rfl <;> rcases hx with rfl | rfl <;> rcases hy with rfl | rfl <;> decide +kernel
theorem pv_range {k a b c : Nat → Nat} {n : Nat} {x y : Int32} {w : Nat → Int32} (hT : pv_TI k a b c n) (h : pv_sol k a b c n x y w) (hx : ∃ j, j < 32 ∧ x = nI j) (hy : ∃ j, j < 32 ∧ y = nI j) : ∀ t, t < n → pv_rng k w t := by
  intro t
  induction t using Nat.strongRecOn with
  | _ t ih =>
    intro ht
    have hok := hT t ht
    have lt : ∀ u, pv_ch k a b c t u → pv_rng k w u := fun u hu => ih u (pv_ch_lt hok hu) (Nat.lt_trans (pv_ch_lt hok hu) ht)
    obtain ⟨hk, h1, h2, h3⟩ := hok
    have e := h t ht
    unfold pv_one at e
    by_cases k0 : k t = 0
    · rw [if_pos k0] at e
      refine ⟨fun _ => ?_, fun z => by omega⟩
      rw [e]
      split
      · exact hx
      · exact hy
    rw [if_neg k0] at e
    by_cases k1 : k t = 1
    · rw [if_pos k1] at e
      exact ⟨fun _ => ⟨a t, h1.2.2.1 (by simp [pv_s1, k1]), e⟩, fun z => by omega⟩
    rw [if_neg k1] at e
    by_cases k9 : k t = 9
    · rw [if_pos k9] at e
      refine ⟨fun _ => ?_, fun z => by omega⟩
      rw [e]
      split
      · exact (lt (b t) (Or.inr (Or.inl ⟨by simp [pv_s2, k9], rfl⟩))).1 (h2.2.2.2.1 (by simp [pv_s2, k9])).2
      · exact (lt (c t) (Or.inr (Or.inr ⟨by simp [pv_s3, k9], rfl⟩))).1 (h3.2.2.2.1 (by simp [pv_s3, k9])).2
    rw [if_neg k9] at e
    have ha := lt (a t) (Or.inl ⟨by unfold pv_s1; rw [if_neg k0, if_neg k1]; split <;> omega, rfl⟩)
    by_cases k17 : 17 ≤ k t
    · have s1 : pv_s1 (k t) = 4 := by unfold pv_s1; rw [if_neg k0, if_neg k1, if_pos (by omega)]
      have av := ha.2 (h1.2.2.2.2 s1).2
      have bv : (if pv_s2 (k t) = 0 then (0 : Int32) else w (b t)) = 0 ∨ (if pv_s2 (k t) = 0 then (0 : Int32) else w (b t)) = 1 := by
        by_cases s2 : pv_s2 (k t) = 0
        · rw [if_pos s2]; exact Or.inl rfl
        · rw [if_neg s2]
          have s4 : pv_s2 (k t) = 4 := by unfold pv_s2 at s2 ⊢; rw [if_neg (by omega)] at s2 ⊢; by_cases q : k t = 18 ∨ k t = 19; rw [if_pos q]; rw [if_neg q] at s2; omega
          exact (lt (b t) (Or.inr (Or.inl ⟨by omega, rfl⟩))).2 (h2.2.2.2.2 s4).2
      exact ⟨fun z => by omega, fun _ => by rw [e]; exact pe_logic _ hk k17 _ _ av bv⟩
    · have s1 : pv_s1 (k t) = 3 := by unfold pv_s1; rw [if_neg k0, if_neg k1, if_neg (by omega)]
      obtain ⟨i, hi, ai⟩ := ha.1 (h1.2.2.2.1 s1).2
      have bv : ∃ j, j < 32 ∧ (if pv_s2 (k t) = 0 then (0 : Int32) else w (b t)) = nI j := by
        by_cases s2 : pv_s2 (k t) = 0
        · rw [if_pos s2]; exact ⟨0, by omega, nI_0.symm⟩
        · rw [if_neg s2]
          have s3 : pv_s2 (k t) = 3 := by unfold pv_s2 at s2 ⊢; by_cases q : 4 ≤ k t ∧ k t ≤ 13; rw [if_pos q]; rw [if_neg q, if_neg (by omega)] at s2; omega
          exact (lt (b t) (Or.inr (Or.inl ⟨by omega, rfl⟩))).1 (h2.2.2.2.1 s3).2
      obtain ⟨j, hj, bj⟩ := bv
      rw [ai, bj] at e
      refine ⟨fun z => ?_, fun z => ?_⟩
      · rw [e]; exact pe_numE (by omega) (by omega) hi hj
      · rw [e]; exact pe_truE (by omega) z hi hj
/-! the class's own reckoning of a term -/
def pc_one (k a b c : Nat → Nat) (x y : Int32) (w : Nat → Int32) (t : Nat) : Int32 :=
  if k t = 0 then (if a t = 0 then x else y) else if k t = 1 then nI (a t)
  else if k t = 9 then (if w (a t) = 1 then w (b t) else w (c t))
  else if k t = 17 then 1 - w (a t) else if k t = 18 then w (a t) &&& w (b t) else if k t = 19 then w (a t) ||| w (b t)
  else pu_op (nI (k t)) (w (a t)) (w (b t))
theorem pe_un : ∀ k, k < 17 → 2 ≤ k → (pv_s2 k = 0) → k ≠ 9 → ∀ x y z : Int32, pu_op (nI k) x y = pu_op (nI k) x z := by
  intro k h17 h2 hs h9 x y z
  rcases (show k = 2 ∨ k = 3 ∨ k = 14 ∨ k = 15 ∨ k = 16 by unfold pv_s2 at hs; by_cases q : 4 ≤ k ∧ k ≤ 13; rw [if_pos q] at hs; omega; omega) with rfl | rfl | rfl | rfl | rfl
  · rw [show nI 2 = (2 : Int32) from by decide]; simp [pu_op]
  · rw [show nI 3 = (3 : Int32) from by decide]; simp [pu_op]
  · rw [show nI 14 = (14 : Int32) from by decide]; simp [pu_op]
  · rw [show nI 15 = (15 : Int32) from by decide]; simp [pu_op]
  · rw [show nI 16 = (16 : Int32) from by decide]; simp [pu_op]
theorem pc_one_eq {k a b c : Nat → Nat} {n : Nat} {x y : Int32} {w v : Nat → Int32} {t : Nat} (hT : pv_TI k a b c n) (ht : t < n) (hr : ∀ u, u < n → pv_rng k v u) (hw : ∀ u, pv_ch k a b c t u → w u = v u) : pc_one k a b c x y w t = pv_one k a b c x y v t := by
  have hok := hT t ht
  have lt : ∀ u, pv_ch k a b c t u → pv_rng k v u := fun u hu => hr u (Nat.lt_trans (pv_ch_lt hok hu) ht)
  obtain ⟨hk, h1, h2, h3⟩ := hok
  unfold pc_one pv_one
  by_cases k0 : k t = 0
  · simp [k0]
  by_cases k1 : k t = 1
  · simp [k1]
  have ca : pv_ch k a b c t (a t) := Or.inl ⟨by unfold pv_s1; rw [if_neg k0, if_neg k1]; split <;> omega, rfl⟩
  by_cases k9 : k t = 9
  · have e1 := hw (a t) ca
    have e2 := hw (b t) (Or.inr (Or.inl ⟨by simp [pv_s2, k9], rfl⟩))
    have e3 := hw (c t) (Or.inr (Or.inr ⟨by simp [pv_s3, k9], rfl⟩))
    simp [k9, e1, e2, e3]
  have e1 := hw (a t) ca
  by_cases k17 : 17 ≤ k t
  · have s1 : pv_s1 (k t) = 4 := by unfold pv_s1; rw [if_neg k0, if_neg k1, if_pos (by omega)]
    have av := (lt (a t) ca).2 (h1.2.2.2.2 s1).2
    rcases (show k t = 17 ∨ k t = 18 ∨ k t = 19 by omega) with q | q | q
    · rw [if_neg k0, if_neg k1, if_neg k9, if_pos q, if_neg k0, if_neg k1, if_neg k9, e1, q]; rfl
    · have s2 : pv_s2 (k t) = 4 := by rw [q]; rfl
      have cb : pv_ch k a b c t (b t) := Or.inr (Or.inl ⟨by omega, rfl⟩)
      have e2 := hw (b t) cb
      have bv := (lt (b t) cb).2 (h2.2.2.2.2 s2).2
      rw [if_neg k0, if_neg k1, if_neg k9, if_neg (by omega), if_pos q, if_neg k0, if_neg k1, if_neg k9, e1, e2, if_neg (by omega), q]
      rcases av with z1 | z1 <;> rcases bv with z2 | z2 <;> rw [z1, z2] <;> decide +kernel
    · have s2 : pv_s2 (k t) = 4 := by rw [q]; rfl
      have cb : pv_ch k a b c t (b t) := Or.inr (Or.inl ⟨by omega, rfl⟩)
      have e2 := hw (b t) cb
      have bv := (lt (b t) cb).2 (h2.2.2.2.2 s2).2
      rw [if_neg k0, if_neg k1, if_neg k9, if_neg (by omega), if_neg (by omega), if_pos q, if_neg k0, if_neg k1, if_neg k9, e1, e2, if_neg (by omega), q]
      rcases av with z1 | z1 <;> rcases bv with z2 | z2 <;> rw [z1, z2] <;> decide +kernel
  · have s1 : pv_s1 (k t) = 3 := by unfold pv_s1; rw [if_neg k0, if_neg k1, if_neg (by omega)]
    obtain ⟨i, hi, ai⟩ := (lt (a t) ca).1 (h1.2.2.2.1 s1).2
    rw [if_neg k0, if_neg k1, if_neg k9, if_neg (by omega), if_neg (by omega), if_neg (by omega), if_neg k0, if_neg k1, if_neg k9, e1, ai]
    by_cases s2 : pv_s2 (k t) = 0
    · rw [if_pos s2, pe_un (k t) (by omega) (by omega) s2 k9 (nI i) (w (b t)) (nI 0), pe_opE (by omega) (by omega) k9 hi (by omega), nI_0]
    · rw [if_neg s2]
      have s3 : pv_s2 (k t) = 3 := by unfold pv_s2 at s2 ⊢; by_cases q : 4 ≤ k t ∧ k t ≤ 13; rw [if_pos q]; rw [if_neg q, if_neg (by omega)] at s2; omega
      have cb : pv_ch k a b c t (b t) := Or.inr (Or.inl ⟨by omega, rfl⟩)
      obtain ⟨j, hj, bj⟩ := (lt (b t) cb).1 (h2.2.2.2.1 s3).2
      rw [hw (b t) cb, bj]
      exact pe_opE (by omega) (by omega) k9 hi hj
end
section
/-! a pass of the class over the terms that are asked -/
def pc_ah (k a b c : Nat → Nat) (x y as cl : Int32) : Nat → Nat → (Nat → Int32) → Bool × (Nat → Int32)
  | 0, _, w => (true, w)
  | r + 1, t, w => if bb_t as t = true then
      (if bb_t cl t = true ∧ pc_one k a b c x y w t = 0 then (false, upd w t (pc_one k a b c x y w t)) else pc_ah k a b c x y as cl r (t + 1) (upd w t (pc_one k a b c x y w t)))
    else pc_ah k a b c x y as cl r (t + 1) w
theorem pc_ah_spec {k a b c : Nat → Nat} {n : Nat} {x y as cl : Int32} {v w0 : Nat → Int32} (hT : pv_TI k a b c n) (hr : ∀ u, u < n → pv_rng k v u) (hv : pv_sol k a b c n x y v)
    (hch : ∀ t, t < n → bb_t as t = true → ∀ u, pv_ch k a b c t u → bb_t as u = true ∨ w0 u = v u) :
    ∀ (r t : Nat) (w : Nat → Int32), r + t = n → (∀ u, u < t → bb_t as u = true → w u = v u) → (∀ u, bb_t as u = false → w u = w0 u) → (∀ u, u < t → bb_t as u = true → bb_t cl u = true → v u ≠ 0) →
      ((pc_ah k a b c x y as cl r t w).1 = true ↔ ∀ u, u < n → bb_t as u = true → bb_t cl u = true → v u ≠ 0) ∧
      ((pc_ah k a b c x y as cl r t w).1 = true → ∀ u, u < n → bb_t as u = true → (pc_ah k a b c x y as cl r t w).2 u = v u) ∧
      (∀ u, bb_t as u = false → (pc_ah k a b c x y as cl r t w).2 u = w0 u) := by
  intro r
  induction r with
  | zero =>
    intro t w ht h1 h2 h3
    have ht : t = n := by omega
    subst ht
    exact ⟨⟨fun _ => h3, fun _ => rfl⟩, fun _ => h1, h2⟩
  | succ r ih =>
    intro t w ht h1 h2 h3
    have htn : t < n := by omega
    unfold pc_ah
    by_cases ha : bb_t as t = true
    · have e : pc_one k a b c x y w t = v t := by
        rw [hv t htn]
        refine pc_one_eq hT htn hr fun u hu => ?_
        have hlt := pv_ch_lt (hT t htn) hu
        by_cases hau : bb_t as u = true
        · exact h1 u hlt hau
        · rcases hch t htn ha u hu with q | q
          · exact absurd q hau
          · rw [h2 u (Bool.not_eq_true _ ▸ hau), q]
      rw [if_pos ha, e]
      have hu2 : ∀ u, bb_t as u = false → upd w t (v t) u = w0 u := by
        intro u hu
        have hne : u ≠ t := fun z => by subst z; rw [ha] at hu; cases hu
        rw [pk_un hne]
        exact h2 u hu
      by_cases hc : bb_t cl t = true ∧ v t = 0
      · rw [if_pos hc]
        refine ⟨⟨fun z => (by cases z), fun z => absurd hc.2 (z t htn ha hc.1)⟩, fun z => (by cases z), hu2⟩
      · rw [if_neg hc]
        refine ih (t + 1) _ (by omega) (fun u hu hau => ?_) hu2 (fun u hu hau hcu => ?_)
        · by_cases hut : u = t
          · subst hut; exact pk_us
          · rw [pk_un hut]; exact h1 u (by omega) hau
        · by_cases hut : u = t
          · subst hut; exact fun z => hc ⟨hcu, z⟩
          · exact h3 u (by omega) hau hcu
    · rw [if_neg ha]
      refine ih (t + 1) w (by omega) (fun u hu hau => ?_) h2 (fun u hu hau hcu => ?_)
      · by_cases hut : u = t
        · subst hut; exact absurd hau ha
        · exact h1 u (by omega) hau
      · by_cases hut : u = t
        · subst hut; exact absurd hau ha
        · exact h3 u (by omega) hau hcu
/-! the parts of a term, as a set -/
def pp_PI (k a b c : Nat → Nat) (P : Nat → Int32) (n : Nat) : Prop := ∀ t, t < n → ∀ u, u < 32 → (bb_t (P t) u = true ↔ u = t ∨ ∃ z, pv_ch k a b c t z ∧ bb_t (P z) u = true)
theorem pp_le {k a b c : Nat → Nat} {P : Nat → Int32} {n : Nat} (hT : pv_TI k a b c n) (hP : pp_PI k a b c P n) : ∀ t, t < n → ∀ u, u < 32 → bb_t (P t) u = true → u ≤ t := by
  intro t
  induction t using Nat.strongRecOn with
  | _ t ih =>
    intro ht u hu h
    rcases (hP t ht u hu).mp h with e | ⟨z, hz, hb⟩
    · omega
    · have hlt := pv_ch_lt (hT t ht) hz
      have := ih z hlt (by omega) u hu hb
      omega
theorem pp_self {k a b c : Nat → Nat} {P : Nat → Int32} {n : Nat} (hn : n ≤ 32) (hP : pp_PI k a b c P n) {t : Nat} (ht : t < n) : bb_t (P t) t = true := (hP t ht t (by omega)).mpr (Or.inl rfl)
theorem pp_trans {k a b c : Nat → Nat} {P : Nat → Int32} {n : Nat} (hT : pv_TI k a b c n) (hP : pp_PI k a b c P n) : ∀ t, t < n → ∀ u z, u < 32 → z < 32 → bb_t (P t) u = true → bb_t (P u) z = true → bb_t (P t) z = true := by
  intro t
  induction t using Nat.strongRecOn with
  | _ t ih =>
    intro ht u z hu hz h1 h2
    rcases (hP t ht u hu).mp h1 with e | ⟨y, hy, hb⟩
    · subst e; exact h2
    · have hlt := pv_ch_lt (hT t ht) hy
      exact (hP t ht z hz).mpr (Or.inr ⟨y, hy, ih y hlt (by omega) u z hu hz hb h2⟩)
theorem pp_child {k a b c : Nat → Nat} {P : Nat → Int32} {n : Nat} (hn : n ≤ 32) (hT : pv_TI k a b c n) (hP : pp_PI k a b c P n) {t u z : Nat} (ht : t < n) (hu : u < n) (h : bb_t (P t) u = true) (hz : pv_ch k a b c u z) : bb_t (P t) z = true := by
  have hlt := pv_ch_lt (hT u hu) hz
  exact pp_trans hT hP t ht u z (by omega) (by omega) h ((hP u hu z (by omega)).mpr (Or.inr ⟨z, hz, pp_self hn hP (by omega)⟩))
/-! which terms vary with a variable -/
def pp_VI (k a : Nat → Nat) (P : Nat → Int32) (V : Int32) (i n : Nat) : Prop := ∀ t, t < 32 → (bb_t V t = true ↔ t < n ∧ ((k t = 0 ∧ a t = i) ∨ ∃ u, u < t ∧ bb_t (P t) u = true ∧ bb_t V u = true))
theorem pp_up {k a b c : Nat → Nat} {P : Nat → Int32} {V : Int32} {i n : Nat} (hn : n ≤ 32) (hT : pv_TI k a b c n) (hP : pp_PI k a b c P n) (hV : pp_VI k a P V i n) {t u : Nat} (ht : t < n) (hu : u < 32) (h : bb_t (P t) u = true) (hb : bb_t V u = true) : bb_t V t = true := by
  have := pp_le hT hP t ht u hu h
  by_cases e : u = t
  · subst e; exact hb
  · exact (hV t (by omega)).mpr ⟨ht, Or.inr ⟨u, by omega, h, hb⟩⟩
theorem pp_indep {k a b c : Nat → Nat} {P : Nat → Int32} {V : Int32} {i n : Nat} (hn : n ≤ 32) (hT : pv_TI k a b c n) (hP : pp_PI k a b c P n) (hV : pp_VI k a P V i n) {x y x' y' : Int32} (hi : (i = 0 ∧ y = y') ∨ (i = 1 ∧ x = x'))
    {v v' : Nat → Int32} (hv : pv_sol k a b c n x y v) (hv' : pv_sol k a b c n x' y' v') : ∀ t, t < n → bb_t V t = false → v t = v' t := by
  intro t
  induction t using Nat.strongRecOn with
  | _ t ih =>
    intro ht hb
    have hc : ∀ u, pv_ch k a b c t u → v u = v' u := by
      intro u hu
      have hlt := pv_ch_lt (hT t ht) hu
      refine ih u hlt (by omega) ?_
      cases hq : bb_t V u with
      | false => rfl
      | true =>
        have := pp_up hn hT hP hV ht (u := u) (by omega) ((hP t ht u (by omega)).mpr (Or.inr ⟨u, hu, pp_self hn hP (by omega)⟩)) hq
        rw [hb] at this
        cases this
    rw [hv t ht, hv' t ht, pv_one_congr hc]
    unfold pv_one
    by_cases k0 : k t = 0
    · have ha : a t < 2 := (hT t ht).2.1.2.1 (by simp [pv_s1, k0])
      have hne : a t ≠ i := fun z => by
        have := (hV t (by omega)).mpr ⟨ht, Or.inl ⟨k0, z⟩⟩
        rw [hb] at this
        cases this
      rw [if_pos k0, if_pos k0]
      rcases hi with ⟨q, e⟩ | ⟨q, e⟩
      · rw [if_neg (by omega), if_neg (by omega), e]
      · rw [if_pos (by omega), if_pos (by omega), e]
    · rw [if_neg k0, if_neg k0]
/-! the class's search -/
def pc_in (k a b c : Nat → Nat) (n : Nat) (x mv cl : Int32) : Nat → Nat → (Nat → Int32) → Option Nat × (Nat → Int32)
  | 0, _, w => (none, w)
  | r + 1, y, w => if (pc_ah k a b c x (nI y) mv cl n 0 w).1 = true then (some y, (pc_ah k a b c x (nI y) mv cl n 0 w).2) else pc_in k a b c n x mv cl r (y + 1) (pc_ah k a b c x (nI y) mv cl n 0 w).2
def pc_out (k a b c : Nat → Nat) (n : Nat) (fx mv cl : Int32) : Nat → Nat → (Nat → Int32) → Option (Nat × Nat) × (Nat → Int32)
  | 0, _, w => (none, w)
  | r + 1, x, w => if (pc_ah k a b c (nI x) 0 fx cl n 0 w).1 = true then
      (match (pc_in k a b c n (nI x) mv cl 32 0 (pc_ah k a b c (nI x) 0 fx cl n 0 w).2).1 with
       | some y => (some (x, y), (pc_in k a b c n (nI x) mv cl 32 0 (pc_ah k a b c (nI x) 0 fx cl n 0 w).2).2)
       | none => pc_out k a b c n fx mv cl r (x + 1) (pc_in k a b c n (nI x) mv cl 32 0 (pc_ah k a b c (nI x) 0 fx cl n 0 w).2).2)
    else pc_out k a b c n fx mv cl r (x + 1) (pc_ah k a b c (nI x) 0 fx cl n 0 w).2
def ps_hold (cl : Int32) (n : Nat) (w : Nat → Int32) : Prop := ∀ u, u < n → bb_t cl u = true → w u ≠ 0
/-- what a table, its sets and the values of its terms are to be, for the search -/
def ps_good (k a b c : Nat → Nat) (n : Nat) (fx mv cl : Int32) (v : Nat → Nat → Nat → Int32) : Prop :=
  pv_TI k a b c n ∧ (∀ x y, x < 32 → y < 32 → pv_sol k a b c n (nI x) (nI y) (v x y) ∧ ∀ u, u < n → pv_rng k (v x y) u) ∧
  (∀ t, t < n → bb_t fx t = true → ∀ u, pv_ch k a b c t u → bb_t fx u = true) ∧
  (∀ t, t < n → bb_t mv t = true → ∀ u, pv_ch k a b c t u → bb_t mv u = true ∨ bb_t fx u = true) ∧
  (∀ t, t < n → bb_t cl t = true → bb_t fx t = true ∨ bb_t mv t = true) ∧ (∀ t, t < n → bb_t fx t = true → bb_t mv t = false) ∧
  (∀ t, t < n → bb_t fx t = true → ∀ x y y', x < 32 → y < 32 → y' < 32 → v x y t = v x y' t)
theorem pc_in_spec {k a b c : Nat → Nat} {n : Nat} {fx mv cl : Int32} {v : Nat → Nat → Nat → Int32} (hg : ps_good k a b c n fx mv cl v) {x : Nat} (hx : x < 32) (hf : ∀ u, u < n → bb_t fx u = true → bb_t cl u = true → v x 0 u ≠ 0) :
    ∀ (r y : Nat) (w : Nat → Int32), r + y = 32 → (∀ u, u < n → bb_t fx u = true → w u = v x 0 u) →
      match (pc_in k a b c n (nI x) mv cl r y w).1 with
      | some y' => y ≤ y' ∧ y' < 32 ∧ ps_hold cl n (v x y') ∧ ∀ y'', y ≤ y'' → y'' < y' → ¬ ps_hold cl n (v x y'')
      | none => ∀ y'', y ≤ y'' → y'' < 32 → ¬ ps_hold cl n (v x y'') := by
  obtain ⟨hT, hv, g1, g2, g3, g4, g5⟩ := hg
  intro r
  induction r with
  | zero => intro y w hy _; exact fun y'' h1 h2 => by omega
  | succ r ih =>
    intro y w hy hw
    have hy32 : y < 32 := by omega
    obtain ⟨s1, s2, s3⟩ := pc_ah_spec (as := mv) (cl := cl) (w0 := w) hT (hv x y hx hy32).2 (hv x y hx hy32).1 (fun t ht hm u hu => by
      rcases g2 t ht hm u hu with q | q
      · exact Or.inl q
      · have hlt := pv_ch_lt (hT t ht) hu
        exact Or.inr ((hw u (by omega) q).trans (g5 u (by omega) q x 0 y hx (by omega) hy32))) n 0 w rfl (fun u hu => by omega) (fun u _ => rfl) (fun u hu => by omega)
    have key : ps_hold cl n (v x y) ↔ (pc_ah k a b c (nI x) (nI y) mv cl n 0 w).1 = true := by
      rw [s1]
      constructor
      · exact fun h u hu _ hc => h u hu hc
      · intro h u hu hc
        rcases g3 u hu hc with q | q
        · rw [← g5 u hu q x 0 y hx (by omega) hy32]; exact hf u hu q hc
        · exact h u hu q hc
    unfold pc_in
    by_cases hq : (pc_ah k a b c (nI x) (nI y) mv cl n 0 w).1 = true
    · rw [if_pos hq]
      exact ⟨Nat.le_refl _, hy32, key.mpr hq, fun y'' h1 h2 => by omega⟩
    · rw [if_neg hq]
      have := ih (y + 1) (pc_ah k a b c (nI x) (nI y) mv cl n 0 w).2 (by omega) (fun u hu hfu => by rw [s3 u (g4 u hu hfu)]; exact hw u hu hfu)
      revert this
      cases (pc_in k a b c n (nI x) mv cl r (y + 1) (pc_ah k a b c (nI x) (nI y) mv cl n 0 w).2).1 with
      | some y' =>
        intro ⟨h1, h2, h3, h4⟩
        refine ⟨by omega, h2, h3, fun y'' q1 q2 => ?_⟩
        by_cases e : y'' = y
        · subst e; exact fun z => hq (key.mp z)
        · exact h4 y'' (by omega) q2
      | none =>
        intro h y'' q1 q2
        by_cases e : y'' = y
        · subst e; exact fun z => hq (key.mp z)
        · exact h y'' (by omega) q2
theorem pc_out_spec {k a b c : Nat → Nat} {n L : Nat} {fx mv cl : Int32} {v : Nat → Nat → Nat → Int32} (hg : ps_good k a b c n fx mv cl v) (hL : L ≤ 32) :
    ∀ (r x : Nat) (w : Nat → Int32), r + x = L →
      match (pc_out k a b c n fx mv cl r x w).1 with
      | some (x', y') => x ≤ x' ∧ x' < L ∧ y' < 32 ∧ ps_hold cl n (v x' y') ∧ ∀ x'' y'', x ≤ x'' → y'' < 32 → (x'' < x' ∨ (x'' = x' ∧ y'' < y')) → ¬ ps_hold cl n (v x'' y'')
      | none => ∀ x'' y'', x ≤ x'' → x'' < L → y'' < 32 → ¬ ps_hold cl n (v x'' y'') := by
  have hg' := hg
  obtain ⟨hT, hv, g1, g2, g3, g4, g5⟩ := hg
  intro r
  induction r with
  | zero => intro x w hx; exact fun x'' y'' h1 h2 => by omega
  | succ r ih =>
    intro x w hx
    have hx32 : x < 32 := by omega
    obtain ⟨s1, s2, s3⟩ := pc_ah_spec (as := fx) (cl := cl) (w0 := w) hT (hv x 0 hx32 (by omega)).2 (hv x 0 hx32 (by omega)).1 (fun t ht hm u hu => Or.inl (g1 t ht hm u hu)) n 0 w rfl (fun u hu => by omega) (fun u _ => rfl) (fun u hu => by omega)
    rw [nI_0] at s1 s2 s3
    unfold pc_out
    by_cases hq : (pc_ah k a b c (nI x) 0 fx cl n 0 w).1 = true
    · rw [if_pos hq]
      have hin := pc_in_spec hg' hx32 (s1.mp hq) 32 0 (pc_ah k a b c (nI x) 0 fx cl n 0 w).2 rfl (s2 hq)
      revert hin
      cases hc : (pc_in k a b c n (nI x) mv cl 32 0 (pc_ah k a b c (nI x) 0 fx cl n 0 w).2).1 with
      | some y =>
        intro ⟨_, h2, h3, h4⟩
        refine ⟨Nat.le_refl _, by omega, h2, h3, fun x'' y'' q1 q2 q3 => ?_⟩
        rcases q3 with q | ⟨rfl, q⟩
        · omega
        · exact h4 y'' (Nat.zero_le _) q
      | none =>
        intro hn
        have := ih (x + 1) (pc_in k a b c n (nI x) mv cl 32 0 (pc_ah k a b c (nI x) 0 fx cl n 0 w).2).2 (by omega)
        revert this
        show _ → match (pc_out k a b c n fx mv cl r (x + 1) _).1 with | some (x', y') => _ | none => _
        cases (pc_out k a b c n fx mv cl r (x + 1) (pc_in k a b c n (nI x) mv cl 32 0 (pc_ah k a b c (nI x) 0 fx cl n 0 w).2).2).1 with
        | some z =>
          obtain ⟨x', y'⟩ := z
          intro ⟨h1, h2, h3, h4, h5⟩
          refine ⟨by omega, h2, h3, h4, fun x'' y'' q1 q2 q3 => ?_⟩
          by_cases e : x'' = x
          · subst e; exact hn y'' (Nat.zero_le _) q2
          · exact h5 x'' y'' (by omega) q2 q3
        | none =>
          intro h x'' y'' q1 q2 q3
          by_cases e : x'' = x
          · subst e; exact hn y'' (Nat.zero_le _) q3
          · exact h x'' y'' (by omega) q2 q3
    · rw [if_neg hq]
      have hno : ∀ y'', y'' < 32 → ¬ ps_hold cl n (v x y'') := by
        intro y'' hy hh
        refine hq (s1.mpr fun u hu hf hc => ?_)
        rw [g5 u hu hf x 0 y'' hx32 (by omega) hy]
        exact hh u hu hc
      have := ih (x + 1) (pc_ah k a b c (nI x) 0 fx cl n 0 w).2 (by omega)
      revert this
      cases (pc_out k a b c n fx mv cl r (x + 1) (pc_ah k a b c (nI x) 0 fx cl n 0 w).2).1 with
      | some z =>
        obtain ⟨x', y'⟩ := z
        intro ⟨h1, h2, h3, h4, h5⟩
        refine ⟨by omega, h2, h3, h4, fun x'' y'' q1 q2 q3 => ?_⟩
        by_cases e : x'' = x
        · subst e; exact hno y'' q2
        · exact h5 x'' y'' (by omega) q2 q3
      | none =>
        intro h x'' y'' q1 q2 q3
        by_cases e : x'' = x
        · subst e; exact hno y'' q3
        · exact h x'' y'' (by omega) q2 q3
end
section
/-! the reference's reckoning of all terms -/
def pv_ev (k a b c : Nat → Nat) (x y : Int32) (w : Nat → Int32) : Nat → Nat → Int32
  | 0 => w
  | t + 1 => upd (pv_ev k a b c x y w t) t (pv_one k a b c x y (pv_ev k a b c x y w t) t)
theorem pv_ev_keep {k a b c : Nat → Nat} {x y : Int32} {w : Nat → Int32} {u t : Nat} (hu : u < t) : ∀ r, pv_ev k a b c x y w (t + r) u = pv_ev k a b c x y w t u := by
  intro r
  induction r with
  | zero => rfl
  | succ r ih =>
    rw [← Nat.add_assoc]
    show upd _ (t + r) _ u = _
    rw [pk_un (by omega), ih]
theorem pv_ev_sol {k a b c : Nat → Nat} {n : Nat} {x y : Int32} {w : Nat → Int32} (hT : pv_TI k a b c n) : pv_sol k a b c n x y (pv_ev k a b c x y w n) := by
  intro t ht
  obtain ⟨r, rfl⟩ : ∃ r, n = t + 1 + r := ⟨n - (t + 1), by omega⟩
  rw [pv_ev_keep (by omega : t < t + 1) r]
  show upd _ t _ t = _
  rw [pk_us]
  refine pv_one_congr fun u hu => ?_
  have hlt := pv_ch_lt (hT t ht) hu
  rw [Nat.add_assoc, pv_ev_keep hlt (1 + r)]
def pm_all (cm : Nat → Nat) (w : Nat → Int32) : Nat → Bool
  | 0 => true
  | j + 1 => pm_all cm w j && decide (w (cm j) = 1)
theorem pm_all_iff {cm : Nat → Nat} {w : Nat → Int32} : ∀ m, pm_all cm w m = true ↔ ∀ j, j < m → w (cm j) = 1 := by
  intro m
  induction m with
  | zero => exact ⟨fun _ j hj => by omega, fun _ => rfl⟩
  | succ m ih =>
    show (pm_all cm w m && decide (w (cm m) = 1)) = true ↔ _
    rw [Bool.and_eq_true, ih, decide_eq_true_eq]
    constructor
    · intro ⟨h1, h2⟩ j hj
      by_cases e : j = m
      · subst e; exact h2
      · exact h1 j (by omega)
    · exact fun h => ⟨fun j hj => h j (by omega), h m (by omega)⟩
def pm_ck (k a b c : Nat → Nat) (n : Nat) (cm : Nat → Nat) (m : Nat) : Nat → Nat → (Nat → Int32) → Option Nat × (Nat → Int32)
  | 0, _, w => (none, w)
  | r + 1, i, w => if pm_all cm (pv_ev k a b c (nI (i / 32)) (nI (i % 32)) w n) m = true then (some i, pv_ev k a b c (nI (i / 32)) (nI (i % 32)) w n)
      else pm_ck k a b c n cm m r (i + 1) (pv_ev k a b c (nI (i / 32)) (nI (i % 32)) w n)
theorem pm_ck_spec {k a b c : Nat → Nat} {n m : Nat} {cm : Nat → Nat} {v : Nat → Nat → Nat → Int32} (hT : pv_TI k a b c n) (hv : ∀ x y, x < 32 → y < 32 → pv_sol k a b c n (nI x) (nI y) (v x y)) (hm : ∀ j, j < m → cm j < n) :
    ∀ (r i : Nat) (w : Nat → Int32), r + i = 1024 →
      match (pm_ck k a b c n cm m r i w).1 with
      | some i' => i ≤ i' ∧ i' < 1024 ∧ (∀ j, j < m → v (i' / 32) (i' % 32) (cm j) = 1) ∧ ∀ i'', i ≤ i'' → i'' < i' → ¬ ∀ j, j < m → v (i'' / 32) (i'' % 32) (cm j) = 1
      | none => ∀ i'', i ≤ i'' → i'' < 1024 → ¬ ∀ j, j < m → v (i'' / 32) (i'' % 32) (cm j) = 1 := by
  intro r
  induction r with
  | zero => intro i w hi; exact fun i'' h1 h2 => by omega
  | succ r ih =>
    intro i w hi
    have key : (∀ j, j < m → v (i / 32) (i % 32) (cm j) = 1) ↔ pm_all cm (pv_ev k a b c (nI (i / 32)) (nI (i % 32)) w n) m = true := by
      rw [pm_all_iff]
      have e := pv_uniq hT (hv (i / 32) (i % 32) (by omega) (by omega)) (pv_ev_sol (w := w) hT)
      exact ⟨fun h j hj => by rw [← e _ (hm j hj)]; exact h j hj, fun h j hj => by rw [e _ (hm j hj)]; exact h j hj⟩
    unfold pm_ck
    by_cases hq : pm_all cm (pv_ev k a b c (nI (i / 32)) (nI (i % 32)) w n) m = true
    · rw [if_pos hq]
      exact ⟨Nat.le_refl _, by omega, key.mpr hq, fun i'' h1 h2 => by omega⟩
    · rw [if_neg hq]
      have := ih (i + 1) (pv_ev k a b c (nI (i / 32)) (nI (i % 32)) w n) (by omega)
      revert this
      cases (pm_ck k a b c n cm m r (i + 1) (pv_ev k a b c (nI (i / 32)) (nI (i % 32)) w n)).1 with
      | some i' =>
        intro ⟨h1, h2, h3, h4⟩
        refine ⟨by omega, h2, h3, fun i'' q1 q2 => ?_⟩
        by_cases e : i'' = i
        · subst e; exact fun z => hq (key.mp z)
        · exact h4 i'' (by omega) q2
      | none =>
        intro h i'' q1 q2
        by_cases e : i'' = i
        · subst e; exact fun z => hq (key.mp z)
        · exact h i'' (by omega) q2
/-! the sets of the class's search -/
def pc_po (P : Nat → Int32) (set : Int32) : Nat → Int32
  | 0 => 0
  | t + 1 => if bb_t set t = true then pc_po P set t ||| P t else pc_po P set t
theorem pc_po_bit {P : Nat → Int32} {set : Int32} {u : Nat} : ∀ n, bb_t (pc_po P set n) u = true ↔ ∃ t, t < n ∧ bb_t set t = true ∧ bb_t (P t) u = true := by
  intro n
  induction n with
  | zero => exact ⟨fun h => (by rw [show pc_po P set 0 = 0 from rfl, bb_0] at h; cases h), fun ⟨t, h, _⟩ => by omega⟩
  | succ n ih =>
    unfold pc_po
    by_cases hq : bb_t set n = true
    · rw [if_pos hq, bb_or, Bool.or_eq_true, ih]
      constructor
      · rintro (⟨t, h1, h2⟩ | h)
        · exact ⟨t, by omega, h2⟩
        · exact ⟨n, by omega, hq, h⟩
      · rintro ⟨t, h1, h2, h3⟩
        by_cases e : t = n
        · subst e; exact Or.inr h3
        · exact Or.inl ⟨t, by omega, h2, h3⟩
    · rw [if_neg hq, ih]
      constructor
      · rintro ⟨t, h1, h2⟩; exact ⟨t, by omega, h2⟩
      · rintro ⟨t, h1, h2, h3⟩
        by_cases e : t = n
        · subst e; exact absurd h2 hq
        · exact ⟨t, by omega, h2, h3⟩
def pc_ct (cm : Nat → Nat) : Nat → Int32
  | 0 => 0
  | i + 1 => pc_ct cm i ||| ((1 : Int32) <<< (nI (cm i) &&& 31))
theorem pc_ct_bit {cm : Nat → Nat} {u : Nat} (hu : u < 32) : ∀ m, (∀ j, j < m → cm j < 32) → (bb_t (pc_ct cm m) u = true ↔ ∃ j, j < m ∧ cm j = u) := by
  intro m
  induction m with
  | zero => exact fun _ => ⟨fun h => (by rw [show pc_ct cm 0 = 0 from rfl, bb_0] at h; cases h), fun ⟨t, h, _⟩ => by omega⟩
  | succ m ih =>
    intro hm
    unfold pc_ct
    rw [bb_or, Bool.or_eq_true, ih (fun j hj => hm j (by omega)), bb_one _ (hm m (by omega)) _ hu, decide_eq_true_eq]
    constructor
    · rintro (⟨t, h1, h2⟩ | h)
      · exact ⟨t, by omega, h2⟩
      · exact ⟨m, by omega, h⟩
    · rintro ⟨t, h1, h2⟩
      by_cases e : t = m
      · subst e; exact Or.inr h2
      · exact Or.inl ⟨t, by omega, h2⟩
def pc_mv (P : Nat → Int32) (V1 cl : Int32) (n : Nat) : Int32 := pc_po P cl n &&& V1
def pc_fx (P : Nat → Int32) (V1 cl : Int32) (n : Nat) : Int32 := pc_po P cl n &&& (pc_mv P V1 cl n ^^^ (-1))
theorem pc_fx_bit {P : Nat → Int32} {V1 cl : Int32} {n u : Nat} (hu : u < 32) : bb_t (pc_fx P V1 cl n) u = true ↔ bb_t (pc_po P cl n) u = true ∧ bb_t V1 u = false := by
  unfold pc_fx pc_mv
  rw [bb_and, bb_xor, bb_m1 u hu, bb_and]
  cases bb_t (pc_po P cl n) u <;> cases bb_t V1 u <;> simp
theorem pc_mv_bit {P : Nat → Int32} {V1 cl : Int32} {n u : Nat} : bb_t (pc_mv P V1 cl n) u = true ↔ bb_t (pc_po P cl n) u = true ∧ bb_t V1 u = true := by
  unfold pc_mv
  rw [bb_and, Bool.and_eq_true]
theorem ps_good_of {k a b c : Nat → Nat} {P : Nat → Int32} {V1 cl : Int32} {n : Nat} {v : Nat → Nat → Nat → Int32} (hn : n ≤ 32) (hT : pv_TI k a b c n) (hP : pp_PI k a b c P n) (hV1 : pp_VI k a P V1 1 n)
    (hv : ∀ x y, x < 32 → y < 32 → pv_sol k a b c n (nI x) (nI y) (v x y)) : ps_good k a b c n (pc_fx P V1 cl n) (pc_mv P V1 cl n) cl v := by
  have close : ∀ t, t < n → bb_t (pc_po P cl n) t = true → ∀ u, pv_ch k a b c t u → bb_t (pc_po P cl n) u = true := by
    intro t ht h u hu
    obtain ⟨z, h1, h2, h3⟩ := (pc_po_bit n).mp h
    exact (pc_po_bit n).mpr ⟨z, h1, h2, pp_child hn hT hP h1 ht h3 hu⟩
  refine ⟨hT, fun x y hx hy => ⟨hv x y hx hy, pv_range hT (hv x y hx hy) ⟨x, hx, rfl⟩ ⟨y, hy, rfl⟩⟩, ?_, ?_, ?_, ?_, ?_⟩
  · intro t ht h u hu
    have hlt := pv_ch_lt (hT t ht) hu
    obtain ⟨h1, h2⟩ := (pc_fx_bit (by omega)).mp h
    refine (pc_fx_bit (by omega)).mpr ⟨close t ht h1 u hu, ?_⟩
    cases hq : bb_t V1 u with
    | false => rfl
    | true =>
      have := pp_up hn hT hP hV1 ht (u := u) (by omega) ((hP t ht u (by omega)).mpr (Or.inr ⟨u, hu, pp_self hn hP (by omega)⟩)) hq
      rw [h2] at this
      cases this
  · intro t ht h u hu
    have hlt := pv_ch_lt (hT t ht) hu
    have hp := close t ht (pc_mv_bit.mp h).1 u hu
    cases hq : bb_t V1 u with
    | false => exact Or.inr ((pc_fx_bit (by omega)).mpr ⟨hp, hq⟩)
    | true => exact Or.inl (pc_mv_bit.mpr ⟨hp, hq⟩)
  · intro t ht h
    have hp : bb_t (pc_po P cl n) t = true := (pc_po_bit n).mpr ⟨t, ht, h, pp_self hn hP ht⟩
    cases hq : bb_t V1 t with
    | false => exact Or.inl ((pc_fx_bit (by omega)).mpr ⟨hp, hq⟩)
    | true => exact Or.inr (pc_mv_bit.mpr ⟨hp, hq⟩)
  · intro t ht h
    have h2 := ((pc_fx_bit (by omega)).mp h).2
    cases hq : bb_t (pc_mv P V1 cl n) t with
    | false => rfl
    | true => rw [(pc_mv_bit.mp hq).2] at h2; cases h2
  · intro t ht h x y y' hx hy hy'
    exact pp_indep hn hT hP hV1 (Or.inr ⟨rfl, rfl⟩) (hv x y hx hy) (hv x y' hx hy') t ht ((pc_fx_bit (by omega)).mp h).2
/-- the class's search finds what the reference finds -/
theorem ps_same {k a b c : Nat → Nat} {P : Nat → Int32} {V0 V1 : Int32} {n m : Nat} {cm : Nat → Nat} (hn : n ≤ 32) (hT : pv_TI k a b c n) (hP : pp_PI k a b c P n) (hV0 : pp_VI k a P V0 0 n) (hV1 : pp_VI k a P V1 1 n)
    (hm : ∀ j, j < m → cm j < n ∧ 10 ≤ k (cm j)) {L : Nat} (hL : L = 32 ∨ (L = 1 ∧ pc_po P (pc_ct cm m) n &&& V0 = 0)) (w w' : Nat → Int32) :
    (pc_out k a b c n (pc_fx P V1 (pc_ct cm m) n) (pc_mv P V1 (pc_ct cm m) n) (pc_ct cm m) L 0 w).1 = (pm_ck k a b c n cm m 1024 0 w').1.map (fun i => (i / 32, i % 32)) := by
  let v : Nat → Nat → Nat → Int32 := fun x y => pv_ev k a b c (nI x) (nI y) (fun _ => 0) n
  have hv : ∀ x y, x < 32 → y < 32 → pv_sol k a b c n (nI x) (nI y) (v x y) := fun x y _ _ => pv_ev_sol hT
  have hr : ∀ x y, x < 32 → y < 32 → ∀ u, u < n → pv_rng k (v x y) u := fun x y hx hy => pv_range hT (hv x y hx hy) ⟨x, hx, rfl⟩ ⟨y, hy, rfl⟩
  have hcl : ∀ u, u < 32 → (bb_t (pc_ct cm m) u = true ↔ ∃ j, j < m ∧ cm j = u) := fun u hu => pc_ct_bit hu m (fun j hj => by have := (hm j hj).1; omega)
  have hold : ∀ x y, x < 32 → y < 32 → (ps_hold (pc_ct cm m) n (v x y) ↔ ∀ j, j < m → v x y (cm j) = 1) := by
    intro x y hx hy
    constructor
    · intro h j hj
      have h1 := h (cm j) (hm j hj).1 ((hcl _ (by have := (hm j hj).1; omega)).mpr ⟨j, hj, rfl⟩)
      rcases (hr x y hx hy (cm j) (hm j hj).1).2 (hm j hj).2 with q | q
      · exact absurd q h1
      · exact q
    · intro h u hu hc
      obtain ⟨j, hj, e⟩ := (hcl u (by omega)).mp hc
      subst e
      rw [h j hj]
      decide
  have hc := pc_out_spec (L := L) (ps_good_of (cl := pc_ct cm m) hn hT hP hV1 hv) (by rcases hL with q | q <;> omega) L 0 w rfl
  have hmd := pm_ck_spec (v := v) hT hv (fun j hj => (hm j hj).1) 1024 0 w' rfl
  have hx0 : L = 1 → ∀ x y, x < 32 → y < 32 → (ps_hold (pc_ct cm m) n (v x y) ↔ ps_hold (pc_ct cm m) n (v 0 y)) := by
    intro hL1 x y hx hy
    have hz : pc_po P (pc_ct cm m) n &&& V0 = 0 := by rcases hL with q | q; omega; exact q.2
    have e : ∀ u, u < n → bb_t (pc_ct cm m) u = true → v x y u = v 0 y u := by
      intro u hu hb
      refine pp_indep hn hT hP hV0 (Or.inl ⟨rfl, rfl⟩) (hv x y hx hy) (hv 0 y (by omega) hy) u hu ?_
      cases hq : bb_t V0 u with
      | false => rfl
      | true => exact absurd ⟨(pc_po_bit n).mpr ⟨u, hu, hb, pp_self hn hP hu⟩, hq⟩ ((bb_meet _ _).mp hz u (by omega))
    exact ⟨fun h u hu hb => by rw [← e u hu hb]; exact h u hu hb, fun h u hu hb => by rw [e u hu hb]; exact h u hu hb⟩
  revert hc hmd
  cases (pc_out k a b c n (pc_fx P V1 (pc_ct cm m) n) (pc_mv P V1 (pc_ct cm m) n) (pc_ct cm m) L 0 w).1 with
  | some z =>
    obtain ⟨x, y⟩ := z
    intro ⟨_, h1, h2, h3, h4⟩
    have hx : x < 32 := by rcases hL with q | q <;> omega
    cases (pm_ck k a b c n cm m 1024 0 w').1 with
    | none =>
      intro g
      have h5 := (hold x y hx h2).mp h3
      have e1 : (x * 32 + y) / 32 = x := by omega
      have e2 : (x * 32 + y) % 32 = y := by omega
      exact absurd (by rw [e1, e2]; exact h5) (g (x * 32 + y) (Nat.zero_le _) (by omega))
    | some i =>
      intro ⟨_, g1, g2, g3⟩
      have g4 := (hold (i / 32) (i % 32) (by omega) (by omega)).mpr g2
      have a1 : ¬ (i / 32 < x ∨ (i / 32 = x ∧ i % 32 < y)) := fun q => h4 (i / 32) (i % 32) (Nat.zero_le _) (by omega) q g4
      have a2 : ¬ x * 32 + y < i := fun q => g3 (x * 32 + y) (Nat.zero_le _) q (by
        have e1 : (x * 32 + y) / 32 = x := by omega
        have e2 : (x * 32 + y) % 32 = y := by omega
        rw [e1, e2]; exact (hold x y hx h2).mp h3)
      show some (x, y) = some (i / 32, i % 32)
      rw [show x = i / 32 by omega, show y = i % 32 by omega]
  | none =>
    intro h
    cases (pm_ck k a b c n cm m 1024 0 w').1 with
    | none => intro _; rfl
    | some i =>
      intro ⟨_, g1, g2, _⟩
      have g4 := (hold (i / 32) (i % 32) (by omega) (by omega)).mpr g2
      exfalso
      rcases hL with q | q
      · exact h (i / 32) (i % 32) (Nat.zero_le _) (by omega) (by omega) g4
      · exact h 0 (i % 32) (Nat.zero_le _) (by omega) (by omega) ((hx0 q.1 (i / 32) (i % 32) (by omega) (by omega)).mp g4)
/-- the class's answer for one term -/
theorem ps_value {k a b c : Nat → Nat} {P : Nat → Int32} {n t : Nat} {x y : Nat} (hn : n ≤ 32) (hT : pv_TI k a b c n) (hP : pp_PI k a b c P n) (ht : t < n) (hx : x < 32) (hy : y < 32) (w w' : Nat → Int32) :
    (pc_ah k a b c (nI x) (nI y) (P t) 0 n 0 w).2 t = pv_ev k a b c (nI x) (nI y) w' n t := by
  have hv : pv_sol k a b c n (nI x) (nI y) (pv_ev k a b c (nI x) (nI y) w' n) := pv_ev_sol hT
  obtain ⟨s1, s2, -⟩ := pc_ah_spec (as := P t) (cl := 0) (w0 := w) hT (pv_range hT hv ⟨x, hx, rfl⟩ ⟨y, hy, rfl⟩) hv (fun u hu hb z hz => Or.inl (pp_child hn hT hP ht hu hb hz)) n 0 w rfl (fun u hu => by omega) (fun u _ => rfl) (fun u hu => by omega)
  exact s2 (s1.mpr fun u _ _ hc => by rw [bb_0] at hc; cases hc) t ht (pp_self hn hP ht)
end
section
/-! a term is added -/
theorem pp_ch_old {k a b c : Nat → Nat} {n κ α β γ t u : Nat} (ht : t ≠ n) : pv_ch (va_up k n κ) (va_up a n α) (va_up b n β) (va_up c n γ) t u ↔ pv_ch k a b c t u := by
  unfold pv_ch
  rw [va_up_ne k κ ht, va_up_ne a α ht, va_up_ne b β ht, va_up_ne c γ ht]
theorem pp_ch_new {k a b c : Nat → Nat} {n κ α β γ u : Nat} : pv_ch (va_up k n κ) (va_up a n α) (va_up b n β) (va_up c n γ) n u ↔ (3 ≤ pv_s1 κ ∧ u = α) ∨ (3 ≤ pv_s2 κ ∧ u = β) ∨ (3 ≤ pv_s3 κ ∧ u = γ) := by
  unfold pv_ch
  rw [va_up_self, va_up_self, va_up_self, va_up_self]
theorem pp_fit_up {k : Nat → Nat} {n κ t s p : Nat} (ht : t ≤ n) (h : pv_fit k t s p) : pv_fit (va_up k n κ) t s p := by
  obtain ⟨h0, h1, h2, h3, h4⟩ := h
  refine ⟨h0, h1, h2, fun e => ?_, fun e => ?_⟩
  · have := h3 e
    rw [va_up_ne k κ (by omega)]
    exact this
  · have := h4 e
    rw [va_up_ne k κ (by omega)]
    exact this
theorem pp_push_TI {k a b c : Nat → Nat} {n κ α β γ : Nat} (hT : pv_TI k a b c n) (hκ : κ < 20) (h1 : pv_fit k n (pv_s1 κ) α) (h2 : pv_fit k n (pv_s2 κ) β) (h3 : pv_fit k n (pv_s3 κ) γ) : pv_TI (va_up k n κ) (va_up a n α) (va_up b n β) (va_up c n γ) (n + 1) := by
  intro t ht
  unfold pv_ok
  by_cases e : t = n
  · subst e
    rw [va_up_self, va_up_self, va_up_self, va_up_self]
    exact ⟨hκ, pp_fit_up (Nat.le_refl _) h1, pp_fit_up (Nat.le_refl _) h2, pp_fit_up (Nat.le_refl _) h3⟩
  · rw [va_up_ne k κ e, va_up_ne a α e, va_up_ne b β e, va_up_ne c γ e]
    obtain ⟨q0, q1, q2, q3⟩ := hT t (by omega)
    exact ⟨q0, pp_fit_up (by omega) q1, pp_fit_up (by omega) q2, pp_fit_up (by omega) q3⟩
def pp_pb (P : Nat → Int32) (s p : Nat) : Int32 := if 3 ≤ s then P p else 0
def pp_new (P : Nat → Int32) (n κ α β γ : Nat) : Int32 := (((1 : Int32) <<< (nI n &&& 31)) ||| pp_pb P (pv_s1 κ) α ||| pp_pb P (pv_s2 κ) β) ||| pp_pb P (pv_s3 κ) γ
theorem pp_pb_bit {P : Nat → Int32} {s p u : Nat} : bb_t (pp_pb P s p) u = true ↔ 3 ≤ s ∧ bb_t (P p) u = true := by
  unfold pp_pb
  by_cases h : 3 ≤ s
  · rw [if_pos h]; exact ⟨fun z => ⟨h, z⟩, fun z => z.2⟩
  · rw [if_neg h, bb_0]; exact ⟨fun z => (by cases z), fun z => absurd z.1 h⟩
theorem pp_new_bit {P : Nat → Int32} {n κ α β γ u : Nat} (hn : n < 32) (hu : u < 32) : bb_t (pp_new P n κ α β γ) u = true ↔ u = n ∨ (3 ≤ pv_s1 κ ∧ bb_t (P α) u = true) ∨ (3 ≤ pv_s2 κ ∧ bb_t (P β) u = true) ∨ (3 ≤ pv_s3 κ ∧ bb_t (P γ) u = true) := by
  unfold pp_new
  rw [bb_or, bb_or, bb_or, Bool.or_eq_true, Bool.or_eq_true, Bool.or_eq_true, pp_pb_bit, pp_pb_bit, pp_pb_bit, bb_one n hn u hu, decide_eq_true_eq]
  constructor
  · rintro (((h | h) | h) | h)
    · exact Or.inl h.symm
    · exact Or.inr (Or.inl h)
    · exact Or.inr (Or.inr (Or.inl h))
    · exact Or.inr (Or.inr (Or.inr h))
  · rintro (h | h | h | h)
    · exact Or.inl (Or.inl (Or.inl h.symm))
    · exact Or.inl (Or.inl (Or.inr h))
    · exact Or.inl (Or.inr h)
    · exact Or.inr h
theorem pp_push_PI {k a b c : Nat → Nat} {P : Nat → Int32} {n κ α β γ : Nat} (hn : n < 32) (hT : pv_TI (va_up k n κ) (va_up a n α) (va_up b n β) (va_up c n γ) (n + 1)) (hP : pp_PI k a b c P n) : pp_PI (va_up k n κ) (va_up a n α) (va_up b n β) (va_up c n γ) (upd P n (pp_new P n κ α β γ)) (n + 1) := by
  intro t ht u hu
  have old : ∀ z, pv_ch (va_up k n κ) (va_up a n α) (va_up b n β) (va_up c n γ) t z → upd P n (pp_new P n κ α β γ) z = P z := by
    intro z hz
    have := pv_ch_lt (hT t ht) hz
    exact pk_un (by omega)
  by_cases e : t = n
  · subst e
    rw [pk_us, pp_new_bit hn hu]
    constructor
    · rintro (h | ⟨h1, h2⟩ | ⟨h1, h2⟩ | ⟨h1, h2⟩)
      · exact Or.inl h
      · have hc := (pp_ch_new (k := k) (a := a) (b := b) (c := c) (n := t) (κ := κ) (α := α) (β := β) (γ := γ)).mpr (Or.inl ⟨h1, rfl⟩)
        exact Or.inr ⟨α, hc, by rw [old α hc]; exact h2⟩
      · have hc := (pp_ch_new (k := k) (a := a) (b := b) (c := c) (n := t) (κ := κ) (α := α) (β := β) (γ := γ)).mpr (Or.inr (Or.inl ⟨h1, rfl⟩))
        exact Or.inr ⟨β, hc, by rw [old β hc]; exact h2⟩
      · have hc := (pp_ch_new (k := k) (a := a) (b := b) (c := c) (n := t) (κ := κ) (α := α) (β := β) (γ := γ)).mpr (Or.inr (Or.inr ⟨h1, rfl⟩))
        exact Or.inr ⟨γ, hc, by rw [old γ hc]; exact h2⟩
    · rintro (h | ⟨z, hz, hb⟩)
      · exact Or.inl h
      · rw [old z hz] at hb
        rcases pp_ch_new.mp hz with ⟨h1, rfl⟩ | ⟨h1, rfl⟩ | ⟨h1, rfl⟩
        · exact Or.inr (Or.inl ⟨h1, hb⟩)
        · exact Or.inr (Or.inr (Or.inl ⟨h1, hb⟩))
        · exact Or.inr (Or.inr (Or.inr ⟨h1, hb⟩))
  · rw [pk_un e, hP t (by omega) u hu]
    constructor
    · rintro (h | ⟨z, hz, hb⟩)
      · exact Or.inl h
      · have hc := (pp_ch_old (κ := κ) (α := α) (β := β) (γ := γ) e).mpr hz
        exact Or.inr ⟨z, hc, by rw [old z hc]; exact hb⟩
    · rintro (h | ⟨z, hz, hb⟩)
      · exact Or.inl h
      · rw [old z hz] at hb
        exact Or.inr ⟨z, (pp_ch_old e).mp hz, hb⟩
def pp_vr (P' : Nat → Int32) (V : Int32) (n κ α i : Nat) : Int32 := if (κ = 0 ∧ α = i) ∨ ¬ P' n &&& V = 0 then V ||| ((1 : Int32) <<< (nI n &&& 31)) else V
theorem pp_push_VI {k a b c : Nat → Nat} {P : Nat → Int32} {V : Int32} {i n κ α β γ : Nat} (hn : n < 32) (hT : pv_TI (va_up k n κ) (va_up a n α) (va_up b n β) (va_up c n γ) (n + 1)) (hP' : pp_PI (va_up k n κ) (va_up a n α) (va_up b n β) (va_up c n γ) (upd P n (pp_new P n κ α β γ)) (n + 1))
    (hV : pp_VI k a P V i n) : pp_VI (va_up k n κ) (va_up a n α) (upd P n (pp_new P n κ α β γ)) (pp_vr (upd P n (pp_new P n κ α β γ)) V n κ α i) i (n + 1) := by
  have hb : ∀ t, t < 32 → bb_t V t = true → t < n := fun t ht h => ((hV t ht).mp h).1
  have bit : ∀ t, t < 32 → (bb_t (pp_vr (upd P n (pp_new P n κ α β γ)) V n κ α i) t = true ↔ bb_t V t = true ∨ (t = n ∧ ((κ = 0 ∧ α = i) ∨ ¬ upd P n (pp_new P n κ α β γ) n &&& V = 0))) := by
    intro t ht
    unfold pp_vr
    by_cases q : (κ = 0 ∧ α = i) ∨ ¬ upd P n (pp_new P n κ α β γ) n &&& V = 0
    · rw [if_pos q, bb_or, Bool.or_eq_true, bb_one n hn t ht, decide_eq_true_eq]
      exact ⟨fun h => h.elim Or.inl fun z => Or.inr ⟨z.symm, q⟩, fun h => h.elim Or.inl fun z => Or.inr z.1.symm⟩
    · rw [if_neg q]
      exact ⟨Or.inl, fun h => h.elim id fun z => absurd z.2 q⟩
  have old : ∀ u, u < n → (bb_t (pp_vr (upd P n (pp_new P n κ α β γ)) V n κ α i) u = true ↔ bb_t V u = true) := by
    intro u hu
    rw [bit u (by omega)]
    exact ⟨fun h => h.elim id fun z => by omega, Or.inl⟩
  intro t ht
  rw [bit t ht]
  by_cases e : t = n
  · subst e
    rw [va_up_self, va_up_self]
    have hnV : ¬ bb_t V t = true := fun z => by have := hb t ht z; omega
    have meet : ¬ upd P t (pp_new P t κ α β γ) t &&& V = 0 ↔ ∃ u, u < t ∧ bb_t (upd P t (pp_new P t κ α β γ) t) u = true ∧ bb_t V u = true := by
      constructor
      · intro h
        refine Classical.byContradiction fun hno => h ((bb_meet _ _).mpr fun u hu hq => hno ⟨u, hb u hu hq.2, hq⟩)
      · rintro ⟨u, hu, hq⟩ h
        exact (bb_meet _ _).mp h u (by omega) hq
    constructor
    · rintro (h | ⟨-, h | h⟩)
      · exact absurd h hnV
      · exact ⟨by omega, Or.inl h⟩
      · obtain ⟨u, h1, h2, h3⟩ := meet.mp h
        exact ⟨by omega, Or.inr ⟨u, h1, h2, (old u h1).mpr h3⟩⟩
    · rintro ⟨-, h | ⟨u, h1, h2, h3⟩⟩
      · exact Or.inr ⟨rfl, Or.inl h⟩
      · exact Or.inr ⟨rfl, Or.inr (meet.mpr ⟨u, h1, h2, (old u h1).mp h3⟩)⟩
  · rw [va_up_ne k κ e, va_up_ne a α e, pk_un e]
    constructor
    · rintro (h | ⟨h, -⟩)
      · obtain ⟨h1, h2⟩ := (hV t ht).mp h
        refine ⟨by omega, h2.elim Or.inl fun ⟨u, q1, q2, q3⟩ => Or.inr ⟨u, q1, q2, (old u (by omega)).mpr q3⟩⟩
      · exact absurd h e
    · rintro ⟨h1, h2⟩
      refine Or.inl ((hV t ht).mpr ⟨by omega, h2.elim Or.inl fun ⟨u, q1, q2, q3⟩ => Or.inr ⟨u, q1, q2, (old u (by omega)).mp q3⟩⟩)
/-! which parts a kind takes, as the two sides ask it -/
def pq_fit (k : Nat → Nat) (n s : Nat) (p : Int32) : Prop := s = 0 ∨ (s = 1 ∧ ∃ j, j < 2 ∧ p = nI j) ∨ (s = 2 ∧ ∃ j, j < 32 ∧ p = nI j) ∨ (s = 3 ∧ ∃ j, j < n ∧ p = nI j ∧ k j < 10) ∨ (s = 4 ∧ ∃ j, j < n ∧ p = nI j ∧ 10 ≤ k j)
def pq_alw (k : Nat → Nat) (n : Nat) (kd a b c : Int32) : Prop := ∃ κ, κ < 20 ∧ kd = nI κ ∧ pq_fit k n (pv_s1 κ) a ∧ pq_fit k n (pv_s2 κ) b ∧ pq_fit k n (pv_s3 κ) c
theorem pq_to_fit {k : Nat → Nat} {n s : Nat} {p : Int32} (hn : n ≤ 12) (h : pq_fit k n s p) : ∃ j, j < 32 ∧ pv_fit k n s j ∧ (s ≠ 0 → p = nI j) := by
  rcases h with rfl | ⟨rfl, j, h1, h2⟩ | ⟨rfl, j, h1, h2⟩ | ⟨rfl, j, h1, h2, h3⟩ | ⟨rfl, j, h1, h2, h3⟩
  · exact ⟨0, by omega, ⟨fun _ => rfl, fun z => by omega, fun z => by omega, fun z => by omega, fun z => by omega⟩, fun z => absurd rfl z⟩
  · exact ⟨j, by omega, ⟨fun z => by omega, fun _ => h1, fun z => by omega, fun z => by omega, fun z => by omega⟩, fun _ => h2⟩
  · exact ⟨j, by omega, ⟨fun z => by omega, fun z => by omega, fun _ => h1, fun z => by omega, fun z => by omega⟩, fun _ => h2⟩
  · exact ⟨j, by omega, ⟨fun z => by omega, fun z => by omega, fun z => by omega, fun _ => ⟨h1, h3⟩, fun z => by omega⟩, fun _ => h2⟩
  · exact ⟨j, by omega, ⟨fun z => by omega, fun z => by omega, fun z => by omega, fun z => by omega, fun _ => ⟨h1, h3⟩⟩, fun _ => h2⟩
/-! the first term of a kind with its parts -/
def pq_fd (k a b c : Nat → Nat) (κ α β γ : Nat) : Nat → Nat → Option Nat
  | 0, _ => none
  | r + 1, t => if k t = κ ∧ a t = α ∧ b t = β ∧ c t = γ then some t else pq_fd k a b c κ α β γ r (t + 1)
theorem pq_fd_lt {k a b c : Nat → Nat} {κ α β γ n : Nat} : ∀ r t i, r + t = n → pq_fd k a b c κ α β γ r t = some i → i < n := by
  intro r
  induction r with
  | zero => intro t i _ h; cases h
  | succ r ih =>
    intro t i ht h
    unfold pq_fd at h
    by_cases q : k t = κ ∧ a t = α ∧ b t = β ∧ c t = γ
    · rw [if_pos q] at h
      cases h
      omega
    · rw [if_neg q] at h
      exact ih (t + 1) i (by omega) h
end
section
/-! the arguments of term, as numbers -/
def pq_k (kd : Int32) : Nat := kd.toNatClampNeg
def pq_b (κ : Nat) (b : Int32) : Nat := if pv_s2 κ = 0 then 0 else b.toNatClampNeg
def pq_c (κ : Nat) (c : Int32) : Nat := if pv_s3 κ = 0 then 0 else c.toNatClampNeg
theorem pq_fit1 {k : Nat → Nat} {n s : Nat} {p : Int32} (hn : n ≤ 12) (h : pq_fit k n s p) (hs : s ≠ 0) : p = nI p.toNatClampNeg ∧ p.toNatClampNeg < 32 ∧ pv_fit k n s p.toNatClampNeg := by
  obtain ⟨j, h1, h2, h3⟩ := pq_to_fit hn h
  have e : p.toNatClampNeg = j := by rw [h3 hs, nI_clamp (by omega)]
  rw [e]
  exact ⟨h3 hs, h1, h2⟩
theorem pq_fit0 (k : Nat → Nat) (n : Nat) : pv_fit k n 0 0 := ⟨fun _ => rfl, fun z => by omega, fun z => by omega, fun z => by omega, fun z => by omega⟩
theorem pq_facts {k : Nat → Nat} {n : Nat} {kd a b c : Int32} (hn : n ≤ 12) (h : pq_alw k n kd a b c) :
    pq_k kd < 20 ∧ kd = nI (pq_k kd) ∧ a = nI a.toNatClampNeg ∧ a.toNatClampNeg < 32 ∧ pv_fit k n (pv_s1 (pq_k kd)) a.toNatClampNeg ∧
    (pv_s2 (pq_k kd) ≠ 0 → b = nI (pq_b (pq_k kd) b)) ∧ pq_b (pq_k kd) b < 32 ∧ pv_fit k n (pv_s2 (pq_k kd)) (pq_b (pq_k kd) b) ∧
    (pv_s3 (pq_k kd) ≠ 0 → c = nI (pq_c (pq_k kd) c)) ∧ pq_c (pq_k kd) c < 32 ∧ pv_fit k n (pv_s3 (pq_k kd)) (pq_c (pq_k kd) c) := by
  obtain ⟨κ, h1, h2, h3, h4, h5⟩ := h
  have e : pq_k kd = κ := by unfold pq_k; rw [h2, nI_clamp (by omega)]
  rw [e]
  have s1 := pv_s1_le κ
  obtain ⟨a1, a2, a3⟩ := pq_fit1 hn h3 (by omega)
  refine ⟨h1, h2, a1, a2, a3, ?_⟩
  have hb : (pv_s2 κ ≠ 0 → b = nI (pq_b κ b)) ∧ pq_b κ b < 32 ∧ pv_fit k n (pv_s2 κ) (pq_b κ b) := by
    unfold pq_b
    by_cases z : pv_s2 κ = 0
    · rw [if_pos z, z]
      exact ⟨fun q => absurd rfl q, by omega, pq_fit0 k n⟩
    · rw [if_neg z]
      obtain ⟨b1, b2, b3⟩ := pq_fit1 hn h4 z
      exact ⟨fun _ => b1, b2, b3⟩
  have hc : (pv_s3 κ ≠ 0 → c = nI (pq_c κ c)) ∧ pq_c κ c < 32 ∧ pv_fit k n (pv_s3 κ) (pq_c κ c) := by
    unfold pq_c
    by_cases z : pv_s3 κ = 0
    · rw [if_pos z, z]
      exact ⟨fun q => absurd rfl q, by omega, pq_fit0 k n⟩
    · rw [if_neg z]
      obtain ⟨b1, b2, b3⟩ := pq_fit1 hn h5 z
      exact ⟨fun _ => b1, b2, b3⟩
  exact ⟨hb.1, hb.2.1, hb.2.2, hc⟩
end
section
-- ===== PART A: goes FIRST, ahead of the names: the tables' words, and 'selects' of the private methods out of them =====
/-- a private method of a class that the tables say can be made, by its rows of tables_1 -/
def lw_okq (q : MethodName × Nat) : Prop := (q.1.cls ≠ "java/lang/invoke/MethodHandle" ∧ q.1.cls ≠ "java/lang/invoke/VarHandle") ∧ Cond.instantiable q.1.cls q.2 ∈ tables_1 ∧ Cond.privateMethod q.1 ∈ tables_1 ∧ Cond.instanceMethod q.1 ∈ tables_1
theorem lw_p0 : lw_okq (⟨"FloatSolver", "search", "()Z"⟩, 5) := ⟨⟨by decide +kernel, by decide +kernel⟩, List.mem_of_getElem? (i := 15) (by decide +kernel), List.mem_of_getElem? (i := 94) (by decide +kernel), List.mem_of_getElem? (i := 95) (by decide +kernel)⟩
theorem lw_p1 : lw_okq (⟨"FloatSolver$TermTable", "workOut", "(III)I"⟩, 8) := ⟨⟨by decide +kernel, by decide +kernel⟩, List.mem_of_getElem? (i := 23) (by decide +kernel), List.mem_of_getElem? (i := 114) (by decide +kernel), List.mem_of_getElem? (i := 115) (by decide +kernel)⟩
theorem lw_p2 : lw_okq (⟨"FloatSolver$TermTable", "fits", "(II)Z"⟩, 8) := ⟨⟨by decide +kernel, by decide +kernel⟩, List.mem_of_getElem? (i := 23) (by decide +kernel), List.mem_of_getElem? (i := 201) (by decide +kernel), List.mem_of_getElem? (i := 202) (by decide +kernel)⟩
theorem lw_p3 : lw_okq (⟨"java/lang/Throwable", "fillInStackTrace", "(I)Ljava/lang/Throwable;"⟩, 6) := ⟨⟨by decide +kernel, by decide +kernel⟩, List.mem_of_getElem? (i := 267) (by decide +kernel), List.mem_of_getElem? (i := 265) (by decide +kernel), List.mem_of_getElem? (i := 266) (by decide +kernel)⟩
theorem lw_p4 : lw_okq (⟨"FloatSolver$TermTable", "partsBelow", "(II)I"⟩, 8) := ⟨⟨by decide +kernel, by decide +kernel⟩, List.mem_of_getElem? (i := 23) (by decide +kernel), List.mem_of_getElem? (i := 327) (by decide +kernel), List.mem_of_getElem? (i := 328) (by decide +kernel)⟩
theorem lw_p5 : lw_okq (⟨"FloatSolver$TermTable", "noteVariables", "(I)V"⟩, 8) := ⟨⟨by decide +kernel, by decide +kernel⟩, List.mem_of_getElem? (i := 23) (by decide +kernel), List.mem_of_getElem? (i := 334) (by decide +kernel), List.mem_of_getElem? (i := 335) (by decide +kernel)⟩
theorem lw_p6 : lw_okq (⟨"FloatSolverModel", "fits", "(IIII)Z"⟩, 14) := ⟨⟨by decide +kernel, by decide +kernel⟩, List.mem_of_getElem? (i := 432) (by decide +kernel), List.mem_of_getElem? (i := 489) (by decide +kernel), List.mem_of_getElem? (i := 490) (by decide +kernel)⟩
theorem lw_p7 : lw_okq (⟨"FloatSolverModel", "isTruth", "(I)Z"⟩, 14) := ⟨⟨by decide +kernel, by decide +kernel⟩, List.mem_of_getElem? (i := 432) (by decide +kernel), List.mem_of_getElem? (i := 496) (by decide +kernel), List.mem_of_getElem? (i := 497) (by decide +kernel)⟩
theorem lw_p8 : lw_okq (⟨"FloatSolverModel", "isNumber", "(I)Z"⟩, 14) := ⟨⟨by decide +kernel, by decide +kernel⟩, List.mem_of_getElem? (i := 432) (by decide +kernel), List.mem_of_getElem? (i := 500) (by decide +kernel), List.mem_of_getElem? (i := 501) (by decide +kernel)⟩
theorem lw_p9 : lw_okq (⟨"FloatSolverModel", "reckonAll", "(II)V"⟩, 14) := ⟨⟨by decide +kernel, by decide +kernel⟩, List.mem_of_getElem? (i := 432) (by decide +kernel), List.mem_of_getElem? (i := 523) (by decide +kernel), List.mem_of_getElem? (i := 524) (by decide +kernel)⟩
theorem lw_p10 : lw_okq (⟨"FloatSolverModel", "allHold", "()Z"⟩, 14) := ⟨⟨by decide +kernel, by decide +kernel⟩, List.mem_of_getElem? (i := 432) (by decide +kernel), List.mem_of_getElem? (i := 563) (by decide +kernel), List.mem_of_getElem? (i := 564) (by decide +kernel)⟩
def lw_privs_1 : List (MethodName × Nat) := [(⟨"FloatSolver", "search", "()Z"⟩, 5), (⟨"FloatSolver$TermTable", "workOut", "(III)I"⟩, 8), (⟨"FloatSolver$TermTable", "fits", "(II)Z"⟩, 8), (⟨"java/lang/Throwable", "fillInStackTrace", "(I)Ljava/lang/Throwable;"⟩, 6), (⟨"FloatSolver$TermTable", "partsBelow", "(II)I"⟩, 8), (⟨"FloatSolver$TermTable", "noteVariables", "(I)V"⟩, 8), (⟨"FloatSolverModel", "fits", "(IIII)Z"⟩, 14), (⟨"FloatSolverModel", "isTruth", "(I)Z"⟩, 14), (⟨"FloatSolverModel", "isNumber", "(I)Z"⟩, 14), (⟨"FloatSolverModel", "reckonAll", "(II)V"⟩, 14), (⟨"FloatSolverModel", "allHold", "()Z"⟩, 14)]
theorem lw_r1 : ∀ q ∈ lw_privs_1, lw_okq q := List.forall_mem_cons.mpr ⟨lw_p0, List.forall_mem_cons.mpr ⟨lw_p1, List.forall_mem_cons.mpr ⟨lw_p2, List.forall_mem_cons.mpr ⟨lw_p3, List.forall_mem_cons.mpr ⟨lw_p4, List.forall_mem_cons.mpr ⟨lw_p5, List.forall_mem_cons.mpr ⟨lw_p6, List.forall_mem_cons.mpr ⟨lw_p7, List.forall_mem_cons.mpr ⟨lw_p8, List.forall_mem_cons.mpr ⟨lw_p9, List.forall_mem_cons.mpr ⟨lw_p10, fun _ h => absurd h List.not_mem_nil⟩⟩⟩⟩⟩⟩⟩⟩⟩⟩⟩
def lw_privs : List (MethodName × Nat) := lw_privs_1
def lw_tbl : List Cond := k2_sels lw_privs ++ tables_1
theorem lw_privs_ok : ∀ q ∈ lw_privs, lw_okq q := lw_r1
end
section
/-! ===== BEGIN words of one list among another's, by their places ===== -/
theorem goodIn_r {big : List Cond} (ws : List Cond) (ps : List Nat) (hp : ws = ps.filterMap (fun i => big[i]?)) (h : ws.all goodWord = true) : GoodIn big ws := by
  intro w hw
  have h1 := List.all_eq_true.mp h w hw
  rw [hp] at hw
  obtain ⟨i, -, hi⟩ := List.mem_filterMap.mp hw
  have hm : w ∈ big := by first | exact List.mem_of_getElem? hi | exact List.getElem?_mem hi
  exact ⟨hm, good_of_word h1⟩
theorem goodIn_app {big a b : List Cond} (ha : GoodIn big a) (hb : GoodIn big b) : GoodIn big (a ++ b) := fun w h => (List.mem_append.mp h).elim (ha w) (hb w)
theorem goodIn_ca {big a b : List Cond} {c : Cond} (ha : GoodIn big (c :: a)) (hb : GoodIn big b) : GoodIn big (c :: (a ++ b)) := fun w h => (List.mem_cons.mp h).elim (fun e => ha w (List.mem_cons.mpr (Or.inl e))) (fun h => (List.mem_append.mp h).elim (fun h => ha w (List.mem_cons.mpr (Or.inr h))) (hb w))
theorem goodIn_sub {big ws : List Cond} (hm : ∀ w ∈ ws, w ∈ big) (h : ws.all goodWord = true) : GoodIn big ws := fun w hw => ⟨hm w hw, good_of_word (List.all_eq_true.mp h w hw)⟩
/-! ===== END ===== -/

/-! ===== BEGIN exceptions that leave a method, and their catching by the caller (launches without stack traces) ===== -/
section VXA
/-! The laws vx_back, vx_callV, vx_callS, vx_callSW, vx_throw0, vx_throwS follow proofs of the library, with one case more: JvmDerived/Free/Laws.lean (Back.of_free), Shelf42/LK1.lean (callV, callS), Shelf/KitTraced.lean (throwNew0V, throwNewS). -/
/-- where a method has thrown q: the class by its name, the cell, what was written, the world -/
def vx_T (XC : String → State → State → Prop) (st : State) (q : Addr) (t : State) (mc ms : Nat) (free : Addr → Prop) : Prop :=
  ∃ (E : String) (ce : Cell) (L : List Loc), XC E st t ∧ t.heap[q]? = some ce ∧ ce.vm = .none ∧ st.vm.findClass E = some ce.cls ∧ st.WarmedH t.vm ∧ st.sameButNew ({ t with vm := st.vm } : State) L mc ms ∧ ∀ z ∈ L, free z.base
def vx_Q (Qc : Array Value → State → Outcome → State → Prop) (XC : String → State → State → Prop) (mc ms : Nat) (free : Addr → Prop) : Array Value → State → Outcome → State → Prop := fun a st o t =>
  (Qc a st o t ∧ ∃ L, FrameEnd st o t L mc ms ∧ ∀ q ∈ L, free q.base) ∨ ∃ q, o = .threw q ∧ vx_T XC st q t mc ms free
/-- a callee that returns or throws -/
def vx_Met (l : Launch) (y : MethodName) (ws : List Cond) (rm : Room) (Pc : Array Value → State → Prop) (Qc : Array Value → State → Outcome → State → Prop) (XC : String → State → State → Prop) (mc ms : Nat) (free : Addr → Prop) : Prop :=
  MetFree l y (headSpec ws rm) Pc (fun _ _ _ _ _ => True) (vx_Q Qc XC mc ms free)
def vx_Post (XC : String → State → State → Prop) (mc ms : Nat) (free : Addr → Prop) : Pt → Array Value → Addr → Pt → Prop := fun A a q B =>
  ∃ (g : JFrame) (mk : MethodId) (t : State) (L : List Loc) (E : String) (ce : Cell), B.U.heap = t.heap ∧ B.U.vm = t.vm ∧ XC E (A.U.calling g mk a) t ∧ t.heap[q]? = some ce ∧ ce.vm = .none ∧ A.U.vm.findClass E = some ce.cls ∧ B.locs = A.locs ++ L ∧ (∀ z ∈ L, free z.base) ∧ B.cells = A.cells + mc ∧ B.slots = A.slots + ms
def vx_Back (l : Launch) (R : Room) (p : Program) (e : Env) (below : List Frame) (s : State) (sargs : Array Value) (y : MethodName) (len W9 : Nat)
    (Pre : Pt → Array Value → Prop) (Post : Pt → Array Value → Option Value → Pt → Prop) (PostX : Pt → Array Value → Addr → Pt → Prop) : Prop :=
  ∀ (m : MethodId) (meth : Method) (c : Code) (A : Pt) (g : JFrame) (ig : Instr) (mk : MethodId) (a : Array Value),
    Stand p l e R s m sargs below meth c A.U A.locs A.cells A.slots → g.method = m → g.locals.size = c.maxLocals → decode c.code g.pc = .ok (ig, len) →
    2 * g.monitorRoom + (g.stack.map fun v => v.category).sum ≤ W9 → A.U.methodNamed? y = some mk → Pre A a →
    (∃ (v : Option Value) (B : Pt), Stand p l e R s m sargs below meth c B.U B.locs B.cells B.slots ∧ Post A a v B ∧
      Steps p.tables e below (doInvoke e (A.U.setTop g) [] mk a).1 (B.U.setTop { g with pc := g.pc + len, stack := v.toList ++ g.stack })) ∨
    (∃ (q : Addr) (B : Pt), Stand p l e R s m sargs below meth c B.U B.locs B.cells B.slots ∧ PostX A a q B ∧
      Steps p.tables e below (doInvoke e (A.U.setTop g) [] mk a).1 ((B.U.setTop g).pushFrame (.throwing q)))
section Payer
variable {l : Launch} {R : Room} {p : Program} {e : Env} {below : List Frame} {s : State} {sargs : Array Value} {y : MethodName} {len W9 : Nat}
theorem vx_back {ws : List Cond} {rm : Room} {Pc : Array Value → State → Prop} {Qc : Array Value → State → Outcome → State → Prop} {XC : String → State → State → Prop} {mc ms : Nat} {free : Addr → Prop} {bytes : ByteArray} {maxL : Nat} {ret : Option FieldType}
    (hM : vx_Met l y ws rm Pc Qc XC mc ms free) (hblind : FrameBlind Pc) (hrc : rm.cells = mc) (hrs : rm.slots = ms)
    (hframes : rm.frames + 1 ≤ R.frames) (hlocals : W9 + (maxL + 11) + rm.locals ≤ R.locals)
    (hws : ∀ w ∈ ws, ∀ a' U, s.WarmedH U.vm → w.before a' U = true) (hcode : Cond.code y bytes maxL ret ∈ ws) (hinit : ∀ a' U, s.WarmedH U.vm → (Cond.initialized y.cls).before a' U = true) :
    vx_Back l R p e below s sargs y len W9 (PreOf R mc ms Pc) (PostOf Qc mc ms free) (vx_Post XC mc ms free) := by
  intro m meth c A g ig mk a X hg hsize hdg hW hn hp
  have h1 : (headSpec ws rm).pre.before a A.U = true := atoms_intro fun w hw => hws w hw _ _ X.warmed
  have h2 : (Cond.code y bytes maxL ret).before a A.U = true := hws _ hcode _ _ X.warmed
  have h3 : (Cond.initialized y.cls).before a A.U = true := hinit _ _ X.warmed
  have h4 : A.cells + (headSpec ws rm).room.cells ≤ R.cells := by rw [show (headSpec ws rm).room.cells = mc from hrc]; exact hp.1
  have h5 : A.slots + (headSpec ws rm).room.slots ≤ R.slots := by rw [show (headSpec ws rm).room.slots = ms from hrs]; exact hp.2.1
  have hPc : Pc a (A.U.calling g mk a) := hblind _ _ _ _ hp.2.2
  obtain ⟨U, Ls, c0, s0⟩ := A
  dsimp only [Pt.U, Pt.locs, Pt.cells, Pt.slots] at h1 h2 h3 h4 h5 X hn hPc ⊢
  obtain ⟨methY, cY, hmY, hcY, -, hlY, -, -, -, -⟩ := Cond.code_spec hn h2
  obtain ⟨kY, hkY, -⟩ := className_of_methodNamed hn
  have hinitY : kY.init = .initialized := Cond.initialized_spec (findClass_of_methodNamed hn) hkY h3
  have h : At U g.method c below := by rw [hg]; exact X.here
  have hlocals9 : W9 + (maxL + 11) + (headSpec ws rm).room.locals ≤ R.locals := hlocals
  have happ : (headSpec ws rm).appliesLoose y e.platform (U.calling g mk a) = true :=
    Spec.appliesLoose_calling (g := g) h hdg hn hkY hinitY
      (X.room_calling (g := g) (R' := (headSpec ws rm).room) hsize hmY hcY hframes (by rw [hlY]; omega) h4 h5) h1
  obtain ⟨mid, hmid⟩ := h.above
  have hfr : (U.setTop g).frames = (.java g :: mid) ++ below := by rw [State.frames_setTop' g h.top, hmid]; rfl
  obtain ⟨o, s₂, hsteps, -, hend, hq⟩ := Steps.callFree hM p X.admits X.cas X.clock (acts := []) hfr happ hPc trivial
  have hq' : vx_Q Qc XC mc ms free a (U.calling g mk a) o s₂ := hq
  rw [State.frames_setTop' g h.top] at hend
  obtain ⟨g₀, hg0⟩ := Option.isSome_iff_exists.mp h.top
  obtain ⟨r, hr⟩ := State.topJava?_eq_some.mp hg0
  have hr' : (({ U with heap := s₂.heap, slotsUsed := s₂.slotsUsed } : State).setVm s₂.vm).frames = .java g₀ :: r := hr
  rcases hq' with ⟨hqc, L, hfe, hL⟩ | ⟨q, rfl, E, ce, L, hx, hce, hcv, hcl, hW₂, hsm, hL⟩
  · obtain ⟨⟨v, rfl⟩, hW₂, e2, q2, q3, q4, q5, q6⟩ := id hfe
    have e3 : s₂ = ({ (U.calling g mk a).setFrames s₂.frames with heap := s₂.heap, slotsUsed := s₂.slotsUsed } : State).setVm s₂.vm := by
      have : s₂ = ({ s₂ with vm := (U.calling g mk a).vm } : State).setVm s₂.vm := rfl
      rw [e2] at this
      exact this
    obtain ⟨c₂, i₂, len₂, hc₂, hd₂, hf₂⟩ := hend
    have hW' : U.WarmedH s₂.vm := hW₂
    have hcc : c₂ = c := by
      have h1 : s₂.code? g.method = U.code? g.method := by
        rw [State.code?_eq, State.code?_eq, hW'.alike.method?]
      exact Option.some.inj (hc₂.symm.trans (h1.trans h.code))
    subst hcc
    have hlen : len₂ = len := by rw [hdg] at hd₂; cases hd₂; rfl
    subst hlen
    have hs₂ : s₂ = (({ U with heap := s₂.heap, slotsUsed := s₂.slotsUsed } : State).setVm s₂.vm).setTop { g with pc := g.pc + len₂, stack := v.toList ++ g.stack } := by
      refine e3.trans ?_
      rw [hf₂, State.calling_eq h.top, State.setFrames_setFrames, State.setTop_of_frames _ hr', hr]
      rfl
    have hsame : U.sameButNew ({ U with heap := s₂.heap, slotsUsed := s₂.slotsUsed } : State) L mc ms := by
      refine ⟨?_, q2, q3, q4, q5, q6⟩
      obtain ⟨t, ht, -⟩ := State.frames_cons hr
      show ({ U with heap := s₂.heap, slotsUsed := s₂.slotsUsed } : State) = { U.setFrames U.frames with heap := s₂.heap, slotsUsed := s₂.slotsUsed }
      rw [State.setFrames_self ht]
    subst hg
    refine Or.inl ⟨v, ⟨(({ U with heap := s₂.heap, slotsUsed := s₂.slotsUsed } : State).setVm s₂.vm), Ls ++ L, c0 + mc, s0 + ms⟩,
      ⟨X.admits, X.cas, X.clock, X.frames, X.room, X.hears, X.method, X.code, (X.here.setHeapUsed s₂.heap s₂.slotsUsed).setVm hW'.alike, X.tail, State.WarmedH.trans X.warmed hW', X.limits, X.bytes, X.same.trans (hsame.setVm s.vm)⟩,
      ⟨g, mk, s₂, L, rfl, rfl, hqc, rfl, hL, rfl, rfl⟩, ?_⟩
    show Steps p.tables e below _ ((({ U with heap := s₂.heap, slotsUsed := s₂.slotsUsed } : State).setVm s₂.vm).setTop { g with pc := g.pc + len₂, stack := v.toList ++ g.stack })
    rw [← hs₂]
    exact hsteps
  · obtain ⟨e2, q2, q3, q4, q5, q6⟩ := id hsm
    have e3 : s₂ = ({ (U.calling g mk a).setFrames s₂.frames with heap := s₂.heap, slotsUsed := s₂.slotsUsed } : State).setVm s₂.vm := by
      have : s₂ = ({ s₂ with vm := (U.calling g mk a).vm } : State).setVm s₂.vm := rfl
      rw [e2] at this
      exact this
    have hf₂ : s₂.frames = .throwing q :: .java g :: U.frames.tail := hend
    have hW' : U.WarmedH s₂.vm := hW₂
    have hs₂ : s₂ = ((({ U with heap := s₂.heap, slotsUsed := s₂.slotsUsed } : State).setVm s₂.vm).setTop g).pushFrame (.throwing q) := by
      refine e3.trans ?_
      rw [hf₂, State.calling_eq h.top, State.setFrames_setFrames, State.pushFrame, State.frames_setTop _ hr', State.setTop_of_frames _ hr', State.setFrames_setFrames, hr]
      rfl
    have hsame : U.sameButNew ({ U with heap := s₂.heap, slotsUsed := s₂.slotsUsed } : State) L mc ms := by
      refine ⟨?_, q2, q3, q4, q5, q6⟩
      obtain ⟨t, ht, -⟩ := State.frames_cons hr
      show ({ U with heap := s₂.heap, slotsUsed := s₂.slotsUsed } : State) = { U.setFrames U.frames with heap := s₂.heap, slotsUsed := s₂.slotsUsed }
      rw [State.setFrames_self ht]
    subst hg
    refine Or.inr ⟨q, ⟨(({ U with heap := s₂.heap, slotsUsed := s₂.slotsUsed } : State).setVm s₂.vm), Ls ++ L, c0 + mc, s0 + ms⟩,
      ⟨X.admits, X.cas, X.clock, X.frames, X.room, X.hears, X.method, X.code, (X.here.setHeapUsed s₂.heap s₂.slotsUsed).setVm hW'.alike, X.tail, State.WarmedH.trans X.warmed hW', X.limits, X.bytes, X.same.trans (hsame.setVm s.vm)⟩,
      ⟨g, mk, s₂, L, E, ce, rfl, rfl, hx, hce, hcv, hcl, rfl, hL, rfl, rfl⟩, ?_⟩
    show Steps p.tables e below _ (((({ U with heap := s₂.heap, slotsUsed := s₂.slotsUsed } : State).setVm s₂.vm).setTop g).pushFrame (.throwing q))
    rw [← hs₂]
    exact hsteps
end Payer
section Calls
variable {p : Program} {l : Launch} {e : Env} {R : Room} {s : State} {m : MethodId} {args : Array Value} {below : List Frame} {meth : Method} {c : Code} {T : State} {locs : List Loc} {cells slots : Nat}
theorem vx_callV (X : Stand p l e R s m args below meth c T locs cells slots) (hexec : p.tables.exec = Jvm.exec) {own C : String} {index : Nat} {y : MethodName} {bytes : ByteArray} {maxL : Nat} {ret : Option FieldType}
    (hown : s.vm.findClass own = some m.cls) (hlink : (Cond.methodLink own index y).before args s = true) (hinst : (Cond.instanceMethod y).before args s = true) (hsel : (Cond.selects C y y).before args s = true)
    (hcode : (Cond.code y bytes maxL ret).before args s = true) (hy : y.cls ≠ "java/lang/invoke/MethodHandle" ∧ y.cls ≠ "java/lang/invoke/VarHandle")
    {W9 : Nat} {Pre : Pt → Array Value → Prop} {Post : Pt → Array Value → Option Value → Pt → Prop} {PostX : Pt → Array Value → Addr → Pt → Prop} (hK : vx_Back l R p e below s args y 3 W9 Pre Post PostX)
    {b : Addr} {cellB : Cell} (hcell : T.heap[b]? = some cellB) (hobj : cellB.vm.isStatics = false) (hcls : s.vm.findClass C = some cellB.cls)
    {g : JFrame} (hg : g.method = m) (hsize : g.locals.size = c.maxLocals) {argsL rest : List Value} (hlen : ∀ sig, parseMethodDescriptor y.desc = some sig → argsL.length = sig.parameters.length)
    (hstack : g.stack = argsL.reverse ++ .ref b :: rest) (hW : 2 * g.monitorRoom + (rest.map fun v => v.category).sum ≤ W9) (hdg : decode c.code g.pc = .ok (.invokevirtual index, 3))
    (hpre : ∀ vm₁, s.WarmedH vm₁ → Pre ⟨T.setVm vm₁, locs, cells, slots⟩ (Value.ref b :: argsL).toArray) :
    (∃ (v : Option Value) (vm₁ : Vm) (B : Pt), s.WarmedH vm₁ ∧ Stand p l e R s m args below meth c B.U B.locs B.cells B.slots ∧ Post ⟨T.setVm vm₁, locs, cells, slots⟩ (Value.ref b :: argsL).toArray v B ∧
      ∀ target, Steps p.tables e below (B.U.setTop { g with pc := g.pc + 3, stack := v.toList ++ rest }) target → Steps p.tables e below (T.setTop g) target) ∨
    (∃ (q : Addr) (vm₁ : Vm) (B : Pt), s.WarmedH vm₁ ∧ Stand p l e R s m args below meth c B.U B.locs B.cells B.slots ∧ PostX ⟨T.setVm vm₁, locs, cells, slots⟩ (Value.ref b :: argsL).toArray q B ∧
      Steps p.tables e below (T.setTop g) ((B.U.setTop { g with stack := rest }).pushFrame (.throwing q))) := by
  obtain ⟨mk, methM, hnamed, hmethM, hstM, habM⟩ := Cond.instanceMethod_spec hinst
  obtain ⟨methM', cM, hmethM', -, -, -, -, -, -, hsigM⟩ := Cond.code_spec hnamed hcode
  cases hmethM.symm.trans hmethM'
  obtain ⟨c2, r2, m2, q1, q2, q3, q4, kP, hkP, hkPi⟩ := Cond.selects_spec hsel
  cases hcls.symm.trans q1
  cases (State.methodFound?_of_named hnamed hy).symm.trans q2
  cases hnamed.symm.trans q3
  have hselP : selectMethod e.platform s.vm cellB.cls mk = .method mk := by rw [Launch.admits_selectMethod X.admits]; exact q4
  obtain ⟨vm₁, X₁, hstep₁⟩ := X.invokevirtual hexec hown hlink hnamed hmethM hstM hkP hkPi hy (a := b) (cell := cellB) hcell
    (fun z h => by rw [h] at hobj; cases hobj) hselP hmethM habM hkP hkPi (g := g) hg (argsL := argsL) (rest := rest) (hlen _ hsigM) hstack hdg
  rcases hK m meth c ⟨T.setVm vm₁, locs, cells, slots⟩ { g with stack := rest } (.invokevirtual index) mk (Value.ref b :: argsL).toArray X₁ hg hsize hdg hW (X₁.named hnamed) (hpre vm₁ X₁.warmed) with ⟨v, B, X', hpost, hsteps⟩ | ⟨q, B, X', hpost, hsteps⟩
  · exact Or.inl ⟨v, vm₁, B, X₁.warmed, X', hpost, fun target h => hstep₁ _ fun acts => by rw [doInvoke_state]; exact hsteps.trans h⟩
  · exact Or.inr ⟨q, vm₁, B, X₁.warmed, X', hpost, hstep₁ _ fun acts => by rw [doInvoke_state]; exact hsteps⟩
theorem vx_callS (X : Stand p l e R s m args below meth c T locs cells slots) (hexec : p.tables.exec = Jvm.exec) {own : String} {index : Nat} {y : MethodName} {bytes : ByteArray} {maxL : Nat} {ret : Option FieldType}
    (hown : s.vm.findClass own = some m.cls) (hlink : (Cond.methodLink own index y).before args s = true) (hstat : (Cond.static y).before args s = true) (hinit : (Cond.initialized y.cls).before args s = true)
    (hcode : (Cond.code y bytes maxL ret).before args s = true) (hy : y.cls ≠ "java/lang/invoke/MethodHandle" ∧ y.cls ≠ "java/lang/invoke/VarHandle")
    {W9 : Nat} {Pre : Pt → Array Value → Prop} {Post : Pt → Array Value → Option Value → Pt → Prop} {PostX : Pt → Array Value → Addr → Pt → Prop} (hK : vx_Back l R p e below s args y 3 W9 Pre Post PostX)
    {g : JFrame} (hg : g.method = m) (hsize : g.locals.size = c.maxLocals) {argsL rest : List Value} (hlen : ∀ sig, parseMethodDescriptor y.desc = some sig → argsL.length = sig.parameters.length)
    (hstack : g.stack = argsL.reverse ++ rest) (hW : 2 * g.monitorRoom + (rest.map fun v => v.category).sum ≤ W9) (hdg : decode c.code g.pc = .ok (.invokestatic index, 3))
    (hpre : ∀ vm₁, s.WarmedH vm₁ → Pre ⟨T.setVm vm₁, locs, cells, slots⟩ argsL.toArray) :
    (∃ (v : Option Value) (vm₁ : Vm) (B : Pt), s.WarmedH vm₁ ∧ Stand p l e R s m args below meth c B.U B.locs B.cells B.slots ∧ Post ⟨T.setVm vm₁, locs, cells, slots⟩ argsL.toArray v B ∧
      ∀ target, Steps p.tables e below (B.U.setTop { g with pc := g.pc + 3, stack := v.toList ++ rest }) target → Steps p.tables e below (T.setTop g) target) ∨
    (∃ (q : Addr) (vm₁ : Vm) (B : Pt), s.WarmedH vm₁ ∧ Stand p l e R s m args below meth c B.U B.locs B.cells B.slots ∧ PostX ⟨T.setVm vm₁, locs, cells, slots⟩ argsL.toArray q B ∧
      Steps p.tables e below (T.setTop g) ((B.U.setTop { g with stack := rest }).pushFrame (.throwing q))) := by
  obtain ⟨mk, hnamed⟩ := Cond.code_named hcode
  obtain ⟨methM, cM, hmethM, -, -, -, -, -, -, hsigM⟩ := Cond.code_spec hnamed hcode
  have hstatic : methM.isStatic = true := Cond.static_spec hnamed hmethM hstat
  obtain ⟨kP, hkP, -⟩ := className_of_methodNamed hnamed
  have hinitP : kP.init = .initialized := Cond.initialized_spec (findClass_of_methodNamed hnamed) hkP hinit
  obtain ⟨vm₁, X₁, hstep₁⟩ := X.invokestatic hexec hown hlink hnamed hmethM hstatic hkP hinitP hy (g := g) hg (argsL := argsL) (rest := rest) (hlen _ hsigM) hstack hdg
  rcases hK m meth c ⟨T.setVm vm₁, locs, cells, slots⟩ { g with stack := rest } (.invokestatic index) mk argsL.toArray X₁ hg hsize hdg hW (X₁.named hnamed) (hpre vm₁ X₁.warmed) with ⟨v, B, X', hpost, hsteps⟩ | ⟨q, B, X', hpost, hsteps⟩
  · exact Or.inl ⟨v, vm₁, B, X₁.warmed, X', hpost, fun target h => hstep₁ _ fun acts => by rw [doInvoke_state]; exact hsteps.trans h⟩
  · exact Or.inr ⟨q, vm₁, B, X₁.warmed, X', hpost, hstep₁ _ fun acts => by rw [doInvoke_state]; exact hsteps⟩
end Calls
theorem vx_cls {s : State} {T : State} {vm₁ : Vm} {E : String} {k : ClassId} (hW : s.WarmedH vm₁) (h : (T.setVm vm₁).vm.findClass E = some k) : s.vm.findClass E = some k := by
  have h1 : vm₁.findClass E = some k := h
  rw [hW.alike.findClass] at h1
  exact h1
/-- the method's frame g, with q thrown over it -/
def vx_W (p : Program) (l : Launch) (e : Env) (R : Room) (s : State) (m : MethodId) (args : Array Value) (below : List Frame) (meth : Method) (c : Code) (H : Heap) (locs : List Loc) (cells slots : Nat) (Q : State → Prop) (g : JFrame) (q : Addr) : Prop :=
  ∀ T : State, T.heap = H → Stand p l e R s m args below meth c T locs cells slots → ∃ t, Steps p.tables e below ((T.setTop g).pushFrame (.throwing q)) t ∧ Q t
def vx_Run (p : Program) (l : Launch) (e : Env) (R : Room) (s : State) (m : MethodId) (args : Array Value) (below : List Frame) (meth : Method) (c : Code) (H : Heap) (locs : List Loc) (cells slots mc ms : Nat) (g : JFrame) (rest : List Value) (Qa : State → Outcome → State → Prop) (XC : String → State → State → Prop) (free : Addr → Prop) : Prop :=
  ∀ T : State, T.heap = H → Stand p l e R s m args below meth c T locs cells slots →
    (∃ (v : Option Value) (st₀ t T' : State) (L : List Loc), st₀.heap = H ∧ Stand p l e R s m args below meth c T' (locs ++ L) (cells + mc) (slots + ms) ∧ (∀ q ∈ L, free q.base) ∧ T'.heap = t.heap ∧ T'.vm = t.vm ∧ Qa st₀ (.returned v) t ∧
      Goes p e below T g T' { g with pc := g.pc + 3, stack := v.toList ++ rest }) ∨
    (∃ (q : Addr) (st₀ t T' : State) (L : List Loc) (E : String) (ce : Cell), st₀.heap = H ∧ Stand p l e R s m args below meth c T' (locs ++ L) (cells + mc) (slots + ms) ∧ (∀ z ∈ L, free z.base) ∧ T'.heap = t.heap ∧ T'.vm = t.vm ∧ XC E st₀ t ∧ t.heap[q]? = some ce ∧ ce.vm = .none ∧ s.vm.findClass E = some ce.cls ∧
      Steps p.tables e below (T.setTop g) ((T'.setTop { g with stack := rest }).pushFrame (.throwing q)))
def vx_X {S : Type} (px : S → Prop) (B : String → S → State → Prop) (A : Nat → Prop) : String → State → State → Prop := fun E st t => ∃ u : S, px u ∧ B E u t ∧ va_F A st t
section Runs
variable {p : Program} {l : Launch} {e : Env} {R : Room} {s : State} {m : MethodId} {args : Array Value} {below : List Frame} {meth : Method} {c : Code} {H : Heap} {locs : List Loc} {cells slots : Nat}
variable {y : MethodName} {bytes cc : ByteArray} {maxL nL mc ms n index : Nat} {ret : Option FieldType} {ws : List Cond} {rm : Room} {Pc : Array Value → State → Prop} {Qc : Array Value → State → Outcome → State → Prop} {XC : String → State → State → Prop} {free : Addr → Prop} {Ts : List Cond} {own C : String} {b : Addr} {As rest : List Value} {g : JFrame}
theorem vx_callBack (cb : CallB R s args own index y bytes maxL ret ws rm mc ms n) (hM : vx_Met l y ws rm Pc Qc XC mc ms free) (hbl : FrameBlind Pc) : vx_Back l R p e below s args y 3 8 (PreOf R mc ms Pc) (PostOf Qc mc ms free) (vx_Post XC mc ms free) := by
  obtain ⟨hrc, hrs, hfr, hlo, hws, hcw, -, hini, -⟩ := cb
  exact vx_back (bytes := bytes) (maxL := maxL) (ret := ret) hM hbl hrc hrs hfr hlo hws hcw (fun a' U hW => word_at hW (Or.inl (by first | rfl | simp [Cond.onTables, Cond.keeps, Cond.steady])) hini)
theorem vx_runV (S : CallFix p m c cc nL s args Ts own) (hM : vx_Met l y ws rm Pc Qc XC mc ms free) (cw : CallW R s args own C index y bytes maxL ret ws rm mc ms n) (hp : PreV s H C b Pc As)
    (hg : g.method = m) (hn : As.length = n) (hsize : g.locals.size = nL) (hstack : g.stack = As.reverse ++ .ref b :: rest) (hW : 2 * g.monitorRoom + (rest.map fun v => v.category).sum ≤ 8) (hdg : decode cc g.pc = .ok (.invokevirtual index, 3)) (hf : cells + mc ≤ R.cells ∧ slots + ms ≤ R.slots) :
    vx_Run p l e R s m args below meth c H locs cells slots mc ms g rest (Qc (Value.ref b :: As).toArray) XC free := by
  have hK : vx_Back l R p e below s args y 3 8 (PreOf R mc ms Pc) (PostOf Qc mc ms free) (vx_Post XC mc ms free) := vx_callBack cw.1 hM hp.1
  obtain ⟨⟨-, -, -, -, -, -, hcode, -, hy, hlen, hl⟩, hin, hse⟩ := cw
  obtain ⟨hx, hb, hml, ho, -⟩ := S
  obtain ⟨-, ⟨cellB, hcB, hoB, hclB⟩, hPc⟩ := hp
  intro T hT X
  rcases vx_callV X hx (C := C) (bytes := bytes) (maxL := maxL) (ret := ret) ho hl hin hse hcode hy hK (by rw [hT]; exact hcB) hoB hclB hg (hsize.trans hml.symm) (argsL := As) (rest := rest) (fun sig h => hn.trans (hlen sig h)) hstack hW (by rw [hb]; exact hdg)
    (fun vm₁ hW₁ => ⟨hf.1, hf.2, hPc (T.setVm vm₁) hT hW₁⟩) with ⟨v, vm₁, ⟨U', l2, c2, s2⟩, hW₁, X', ⟨g', mk, t, L, e1, e2, hq, h1, hL, h2, h3⟩, st⟩ | ⟨q, vm₁, ⟨U', l2, c2, s2⟩, hW₁, X', ⟨g', mk, t, L, E, ce, e1, e2, hq, hce, hcv, hcl, h1, hL, h2, h3⟩, st⟩
  · dsimp only [Pt.U, Pt.locs, Pt.cells, Pt.slots] at X' e1 e2 h1 h2 h3 st
    subst h1; subst h2; subst h3
    exact Or.inl ⟨v, (T.setVm vm₁).calling g' mk (Value.ref b :: As).toArray, t, U', L, hT, X', hL, e1, e2, hq, st⟩
  · dsimp only [Pt.U, Pt.locs, Pt.cells, Pt.slots] at X' e1 e2 h1 h2 h3 st hcl
    subst h1; subst h2; subst h3
    exact Or.inr ⟨q, (T.setVm vm₁).calling g' mk (Value.ref b :: As).toArray, t, U', L, E, ce, hT, X', hL, e1, e2, hq, hce, hcv, vx_cls hW₁ hcl, st⟩
theorem vx_runS (S : CallFix p m c cc nL s args Ts own) (hM : vx_Met l y ws rm Pc Qc XC mc ms free) (cw : CallB R s args own index y bytes maxL ret ws rm mc ms n ∧ (Cond.static y).before args s = true) (hp : PreS s H Pc As)
    (hg : g.method = m) (hn : As.length = n) (hsize : g.locals.size = nL) (hstack : g.stack = As.reverse ++ rest) (hW : 2 * g.monitorRoom + (rest.map fun v => v.category).sum ≤ 8) (hdg : decode cc g.pc = .ok (.invokestatic index, 3)) (hf : cells + mc ≤ R.cells ∧ slots + ms ≤ R.slots) :
    vx_Run p l e R s m args below meth c H locs cells slots mc ms g rest (Qc As.toArray) XC free := by
  have hK : vx_Back l R p e below s args y 3 8 (PreOf R mc ms Pc) (PostOf Qc mc ms free) (vx_Post XC mc ms free) := vx_callBack cw.1 hM hp.1
  obtain ⟨⟨-, -, -, -, -, -, hcode, hini, hy, hlen, hl⟩, hstt⟩ := cw
  obtain ⟨hx, hb, hml, ho, -⟩ := S
  intro T hT X
  rcases vx_callS X hx (bytes := bytes) (maxL := maxL) (ret := ret) ho hl hstt hini hcode hy hK hg (hsize.trans hml.symm) (argsL := As) (rest := rest) (fun sig h => hn.trans (hlen sig h)) hstack hW (by rw [hb]; exact hdg)
    (fun vm₁ hW₁ => ⟨hf.1, hf.2, hp.2 (T.setVm vm₁) hT hW₁⟩) with ⟨v, vm₁, ⟨U', l2, c2, s2⟩, hW₁, X', ⟨g', mk, t, L, e1, e2, hq, h1, hL, h2, h3⟩, st⟩ | ⟨q, vm₁, ⟨U', l2, c2, s2⟩, hW₁, X', ⟨g', mk, t, L, E, ce, e1, e2, hq, hce, hcv, hcl, h1, hL, h2, h3⟩, st⟩
  · dsimp only [Pt.U, Pt.locs, Pt.cells, Pt.slots] at X' e1 e2 h1 h2 h3 st
    subst h1; subst h2; subst h3
    exact Or.inl ⟨v, (T.setVm vm₁).calling g' mk As.toArray, t, U', L, hT, X', hL, e1, e2, hq, st⟩
  · dsimp only [Pt.U, Pt.locs, Pt.cells, Pt.slots] at X' e1 e2 h1 h2 h3 st hcl
    subst h1; subst h2; subst h3
    exact Or.inr ⟨q, (T.setVm vm₁).calling g' mk As.toArray, t, U', L, E, ce, hT, X', hL, e1, e2, hq, hce, hcv, vx_cls hW₁ hcl, st⟩
end Runs
section Rows
variable {p : Program} {l : Launch} {e : Env} {R : Room} {s : State} {m : MethodId} {args : Array Value} {below : List Frame} {meth : Method} {c : Code} {H : Heap} {locs : List Loc} {cells slots : Nat} {Q : State → Prop}
variable {mc ms : Nat} {free : Addr → Prop} {A0 A1 : Nat → Prop} {H0 : Heap} {a : Array Value} {pc : Nat} {ls : Array Slot} {st0 rest : List Value}
theorem vx_keep {st₀ t T' : State} {L : List Loc} (h0 : st₀.heap = H) (e1 : T'.heap = t.heap) (hS : va_S A0 H0 H locs) (hA : ∀ q, q < H.size → A1 q → A0 q) (hf : ∀ q, free q → A0 q) (hL : ∀ q ∈ L, free q.base) (hF : va_F A1 st₀ t) :
    H.size ≤ T'.heap.size ∧ (∀ q : Nat, q < H.size → ¬ A1 q → T'.heap[q]? = H[q]?) ∧ va_S A0 H0 T'.heap (locs ++ L) := by
  obtain ⟨hz, hk⟩ := hF
  rw [h0] at hz hk
  exact ⟨by rw [e1]; exact hz, fun q h1 h2 => by rw [e1]; exact hk q h1 h2,
    ⟨Nat.le_trans hS.1 (by rw [e1]; exact hz), fun q h1 h2 => by rw [e1, hk q (Nat.lt_of_lt_of_le h1 hS.1) (fun z => h2 (hA q (Nat.lt_of_lt_of_le h1 hS.1) z))]; exact hS.2.1 q h1 h2, fun q hq => by
      rcases List.mem_append.mp hq with h | h
      · exact hS.2.2 q h
      · exact hf _ (hL q h)⟩⟩
theorem vx_calli {S SX : Type} {post : Int32 → S → Prop} {px : SX → Prop} {B : S → State → Prop} {BX : String → SX → State → Prop} {AX : Nat → Prop} (hr : vx_Run p l e R s m args below meth c H locs cells slots mc ms (F0 m pc ls st0) rest (va_Qi post B A1 a) (vx_X px BX AX) free) (hS : va_S A0 H0 H locs) (hA : ∀ q, q < H.size → A1 q → A0 q) (hf : ∀ q, free q → A0 q) (hAX : ∀ q, q < H.size → AX q → A0 q)
    (kx : ∀ (E : String) (ce : Cell) (q9 : Addr) (u : SX) (t : State) (H1 : Heap) (locs1 : List Loc), t.heap = H1 → s.vm.Alike t.vm → px u → BX E u t → H.size ≤ H1.size → (∀ q : Nat, q < H.size → ¬ AX q → H1[q]? = H[q]?) → va_S A0 H0 H1 locs1 → H1[q9]? = some ce → ce.vm = .none → s.vm.findClass E = some ce.cls → vx_W p l e R s m args below meth c H1 locs1 (cells + mc) (slots + ms) Q (F0 m pc ls rest) q9)
    (kk : ∀ (r : Int32) (u : S) (t : State) (H1 : Heap) (locs1 : List Loc), t.heap = H1 → s.vm.Alike t.vm → post r u → B u t → H.size ≤ H1.size → (∀ q : Nat, q < H.size → ¬ A1 q → H1[q]? = H[q]?) → va_S A0 H0 H1 locs1 → W p l e R s m args below meth c H1 locs1 (cells + mc) (slots + ms) Q (F0 m (pc + 3) ls (.int r :: rest))) : W p l e R s m args below meth c H locs cells slots Q (F0 m pc ls st0) := by
  intro T hT X
  rcases hr T hT X with ⟨v, st₀, t, T', L, h0, X', hL, e1, e2, ⟨⟨r, u, hv, hp, hb⟩, hF⟩, st⟩ | ⟨q, st₀, t, T', L, E, ce, h0, X', hL, e1, e2, ⟨u, hp, hb, hF⟩, hce, hcv, hcl, st⟩
  · cases hv
    obtain ⟨k1, k2, k3⟩ := vx_keep h0 e1 hS hA hf hL hF
    obtain ⟨t2, a1, b1⟩ := kk r u t T'.heap (locs ++ L) e1.symm (by rw [← e2]; exact X'.warmed.alike) hp hb k1 k2 k3 T' rfl X'
    exact ⟨t2, st t2 a1, b1⟩
  · obtain ⟨k1, k2, k3⟩ := vx_keep h0 e1 hS hAX hf hL hF
    obtain ⟨t2, a1, b1⟩ := kx E ce q u t T'.heap (locs ++ L) e1.symm (by rw [← e2]; exact X'.warmed.alike) hp hb k1 k2 k3 (by rw [e1]; exact hce) hcv hcl T' rfl X'
    exact ⟨t2, st.trans a1, b1⟩
theorem vx_calll {S SX : Type} {post : Int64 → S → Prop} {px : SX → Prop} {B : S → State → Prop} {BX : String → SX → State → Prop} {AX : Nat → Prop} (hr : vx_Run p l e R s m args below meth c H locs cells slots mc ms (F0 m pc ls st0) rest (va_Ql post B A1 a) (vx_X px BX AX) free) (hS : va_S A0 H0 H locs) (hA : ∀ q, q < H.size → A1 q → A0 q) (hf : ∀ q, free q → A0 q) (hAX : ∀ q, q < H.size → AX q → A0 q)
    (kx : ∀ (E : String) (ce : Cell) (q9 : Addr) (u : SX) (t : State) (H1 : Heap) (locs1 : List Loc), t.heap = H1 → s.vm.Alike t.vm → px u → BX E u t → H.size ≤ H1.size → (∀ q : Nat, q < H.size → ¬ AX q → H1[q]? = H[q]?) → va_S A0 H0 H1 locs1 → H1[q9]? = some ce → ce.vm = .none → s.vm.findClass E = some ce.cls → vx_W p l e R s m args below meth c H1 locs1 (cells + mc) (slots + ms) Q (F0 m pc ls rest) q9)
    (kk : ∀ (r : Int64) (u : S) (t : State) (H1 : Heap) (locs1 : List Loc), t.heap = H1 → s.vm.Alike t.vm → post r u → B u t → H.size ≤ H1.size → (∀ q : Nat, q < H.size → ¬ A1 q → H1[q]? = H[q]?) → va_S A0 H0 H1 locs1 → W p l e R s m args below meth c H1 locs1 (cells + mc) (slots + ms) Q (F0 m (pc + 3) ls (.long r :: rest))) : W p l e R s m args below meth c H locs cells slots Q (F0 m pc ls st0) := by
  intro T hT X
  rcases hr T hT X with ⟨v, st₀, t, T', L, h0, X', hL, e1, e2, ⟨⟨r, u, hv, hp, hb⟩, hF⟩, st⟩ | ⟨q, st₀, t, T', L, E, ce, h0, X', hL, e1, e2, ⟨u, hp, hb, hF⟩, hce, hcv, hcl, st⟩
  · cases hv
    obtain ⟨k1, k2, k3⟩ := vx_keep h0 e1 hS hA hf hL hF
    obtain ⟨t2, a1, b1⟩ := kk r u t T'.heap (locs ++ L) e1.symm (by rw [← e2]; exact X'.warmed.alike) hp hb k1 k2 k3 T' rfl X'
    exact ⟨t2, st t2 a1, b1⟩
  · obtain ⟨k1, k2, k3⟩ := vx_keep h0 e1 hS hAX hf hL hF
    obtain ⟨t2, a1, b1⟩ := kx E ce q u t T'.heap (locs ++ L) e1.symm (by rw [← e2]; exact X'.warmed.alike) hp hb k1 k2 k3 (by rw [e1]; exact hce) hcv hcl T' rfl X'
    exact ⟨t2, st.trans a1, b1⟩
theorem vx_callf {S SX : Type} {post : UInt32 → S → Prop} {px : SX → Prop} {B : S → State → Prop} {BX : String → SX → State → Prop} {AX : Nat → Prop} (hr : vx_Run p l e R s m args below meth c H locs cells slots mc ms (F0 m pc ls st0) rest (va_Qf post B A1 a) (vx_X px BX AX) free) (hS : va_S A0 H0 H locs) (hA : ∀ q, q < H.size → A1 q → A0 q) (hf : ∀ q, free q → A0 q) (hAX : ∀ q, q < H.size → AX q → A0 q)
    (kx : ∀ (E : String) (ce : Cell) (q9 : Addr) (u : SX) (t : State) (H1 : Heap) (locs1 : List Loc), t.heap = H1 → s.vm.Alike t.vm → px u → BX E u t → H.size ≤ H1.size → (∀ q : Nat, q < H.size → ¬ AX q → H1[q]? = H[q]?) → va_S A0 H0 H1 locs1 → H1[q9]? = some ce → ce.vm = .none → s.vm.findClass E = some ce.cls → vx_W p l e R s m args below meth c H1 locs1 (cells + mc) (slots + ms) Q (F0 m pc ls rest) q9)
    (kk : ∀ (r : UInt32) (u : S) (t : State) (H1 : Heap) (locs1 : List Loc), t.heap = H1 → s.vm.Alike t.vm → post r u → B u t → H.size ≤ H1.size → (∀ q : Nat, q < H.size → ¬ A1 q → H1[q]? = H[q]?) → va_S A0 H0 H1 locs1 → W p l e R s m args below meth c H1 locs1 (cells + mc) (slots + ms) Q (F0 m (pc + 3) ls (.float r :: rest))) : W p l e R s m args below meth c H locs cells slots Q (F0 m pc ls st0) := by
  intro T hT X
  rcases hr T hT X with ⟨v, st₀, t, T', L, h0, X', hL, e1, e2, ⟨⟨r, u, hv, hp, hb⟩, hF⟩, st⟩ | ⟨q, st₀, t, T', L, E, ce, h0, X', hL, e1, e2, ⟨u, hp, hb, hF⟩, hce, hcv, hcl, st⟩
  · cases hv
    obtain ⟨k1, k2, k3⟩ := vx_keep h0 e1 hS hA hf hL hF
    obtain ⟨t2, a1, b1⟩ := kk r u t T'.heap (locs ++ L) e1.symm (by rw [← e2]; exact X'.warmed.alike) hp hb k1 k2 k3 T' rfl X'
    exact ⟨t2, st t2 a1, b1⟩
  · obtain ⟨k1, k2, k3⟩ := vx_keep h0 e1 hS hAX hf hL hF
    obtain ⟨t2, a1, b1⟩ := kx E ce q u t T'.heap (locs ++ L) e1.symm (by rw [← e2]; exact X'.warmed.alike) hp hb k1 k2 k3 (by rw [e1]; exact hce) hcv hcl T' rfl X'
    exact ⟨t2, st.trans a1, b1⟩
theorem vx_calld {S SX : Type} {post : UInt64 → S → Prop} {px : SX → Prop} {B : S → State → Prop} {BX : String → SX → State → Prop} {AX : Nat → Prop} (hr : vx_Run p l e R s m args below meth c H locs cells slots mc ms (F0 m pc ls st0) rest (va_Qd post B A1 a) (vx_X px BX AX) free) (hS : va_S A0 H0 H locs) (hA : ∀ q, q < H.size → A1 q → A0 q) (hf : ∀ q, free q → A0 q) (hAX : ∀ q, q < H.size → AX q → A0 q)
    (kx : ∀ (E : String) (ce : Cell) (q9 : Addr) (u : SX) (t : State) (H1 : Heap) (locs1 : List Loc), t.heap = H1 → s.vm.Alike t.vm → px u → BX E u t → H.size ≤ H1.size → (∀ q : Nat, q < H.size → ¬ AX q → H1[q]? = H[q]?) → va_S A0 H0 H1 locs1 → H1[q9]? = some ce → ce.vm = .none → s.vm.findClass E = some ce.cls → vx_W p l e R s m args below meth c H1 locs1 (cells + mc) (slots + ms) Q (F0 m pc ls rest) q9)
    (kk : ∀ (r : UInt64) (u : S) (t : State) (H1 : Heap) (locs1 : List Loc), t.heap = H1 → s.vm.Alike t.vm → post r u → B u t → H.size ≤ H1.size → (∀ q : Nat, q < H.size → ¬ A1 q → H1[q]? = H[q]?) → va_S A0 H0 H1 locs1 → W p l e R s m args below meth c H1 locs1 (cells + mc) (slots + ms) Q (F0 m (pc + 3) ls (.double r :: rest))) : W p l e R s m args below meth c H locs cells slots Q (F0 m pc ls st0) := by
  intro T hT X
  rcases hr T hT X with ⟨v, st₀, t, T', L, h0, X', hL, e1, e2, ⟨⟨r, u, hv, hp, hb⟩, hF⟩, st⟩ | ⟨q, st₀, t, T', L, E, ce, h0, X', hL, e1, e2, ⟨u, hp, hb, hF⟩, hce, hcv, hcl, st⟩
  · cases hv
    obtain ⟨k1, k2, k3⟩ := vx_keep h0 e1 hS hA hf hL hF
    obtain ⟨t2, a1, b1⟩ := kk r u t T'.heap (locs ++ L) e1.symm (by rw [← e2]; exact X'.warmed.alike) hp hb k1 k2 k3 T' rfl X'
    exact ⟨t2, st t2 a1, b1⟩
  · obtain ⟨k1, k2, k3⟩ := vx_keep h0 e1 hS hAX hf hL hF
    obtain ⟨t2, a1, b1⟩ := kx E ce q u t T'.heap (locs ++ L) e1.symm (by rw [← e2]; exact X'.warmed.alike) hp hb k1 k2 k3 (by rw [e1]; exact hce) hcv hcl T' rfl X'
    exact ⟨t2, st.trans a1, b1⟩
theorem vx_callv {S SX : Type} {post : S → Prop} {px : SX → Prop} {B : S → State → Prop} {BX : String → SX → State → Prop} {AX : Nat → Prop} (hr : vx_Run p l e R s m args below meth c H locs cells slots mc ms (F0 m pc ls st0) rest (va_Qv post B A1 a) (vx_X px BX AX) free) (hS : va_S A0 H0 H locs) (hA : ∀ q, q < H.size → A1 q → A0 q) (hf : ∀ q, free q → A0 q) (hAX : ∀ q, q < H.size → AX q → A0 q)
    (kx : ∀ (E : String) (ce : Cell) (q9 : Addr) (u : SX) (t : State) (H1 : Heap) (locs1 : List Loc), t.heap = H1 → s.vm.Alike t.vm → px u → BX E u t → H.size ≤ H1.size → (∀ q : Nat, q < H.size → ¬ AX q → H1[q]? = H[q]?) → va_S A0 H0 H1 locs1 → H1[q9]? = some ce → ce.vm = .none → s.vm.findClass E = some ce.cls → vx_W p l e R s m args below meth c H1 locs1 (cells + mc) (slots + ms) Q (F0 m pc ls rest) q9)
    (kk : ∀ (u : S) (t : State) (H1 : Heap) (locs1 : List Loc), t.heap = H1 → s.vm.Alike t.vm → post u → B u t → H.size ≤ H1.size → (∀ q : Nat, q < H.size → ¬ A1 q → H1[q]? = H[q]?) → va_S A0 H0 H1 locs1 → W p l e R s m args below meth c H1 locs1 (cells + mc) (slots + ms) Q (F0 m (pc + 3) ls (rest))) : W p l e R s m args below meth c H locs cells slots Q (F0 m pc ls st0) := by
  intro T hT X
  rcases hr T hT X with ⟨v, st₀, t, T', L, h0, X', hL, e1, e2, ⟨⟨u, hv, hp, hb⟩, hF⟩, st⟩ | ⟨q, st₀, t, T', L, E, ce, h0, X', hL, e1, e2, ⟨u, hp, hb, hF⟩, hce, hcv, hcl, st⟩
  · cases hv
    obtain ⟨k1, k2, k3⟩ := vx_keep h0 e1 hS hA hf hL hF
    obtain ⟨t2, a1, b1⟩ := kk u t T'.heap (locs ++ L) e1.symm (by rw [← e2]; exact X'.warmed.alike) hp hb k1 k2 k3 T' rfl X'
    exact ⟨t2, st t2 a1, b1⟩
  · obtain ⟨k1, k2, k3⟩ := vx_keep h0 e1 hS hAX hf hL hF
    obtain ⟨t2, a1, b1⟩ := kx E ce q u t T'.heap (locs ++ L) e1.symm (by rw [← e2]; exact X'.warmed.alike) hp hb k1 k2 k3 (by rw [e1]; exact hce) hcv hcl T' rfl X'
    exact ⟨t2, st.trans a1, b1⟩
/-- caught by the row x of this method's table; the rows ahead don't take it -/
theorem vx_catch {own name : String} {E : String} {ce : Cell} {q : Addr} (hown : s.vm.findClass own = some m.cls) (pre : List ExceptionTableEntry) (x : ExceptionTableEntry) (suf : List ExceptionTableEntry) (hsplit : c.exceptionTable.toList = pre ++ x :: suf)
    (hpass : ∀ z ∈ pre, covers z pc = false ∨ (z.catchType ≠ 0 ∧ ∃ nm : String, (Cond.classLink own z.catchType nm).before args s = true ∧ va_Nc E nm s)) (hx : covers x pc = true) (h0 : x.catchType ≠ 0)
    (hlink : (Cond.classLink own x.catchType name).before args s = true) (hcast : (Cond.castable E name).before args s = true) (hcell : H[q]? = some ce) (hv : ce.vm = .none) (hcl : s.vm.findClass E = some ce.cls)
    (kk : W p l e R s m args below meth c H locs cells slots Q (F0 m x.handlerPc ls [.ref q])) : vx_W p l e R s m args below meth c H locs cells slots Q (F0 m pc ls rest) q := by
  intro T hT X
  have hpl : e.platform.magicAccessors = ({} : Platform).magicAccessors := by rw [X.admits.platform]
  obtain ⟨c3, c4, hc3, hc4, hasg⟩ := Cond.castable_spec hcast
  cases Option.some.inj (hc3.symm.trans hcl)
  obtain ⟨c5, hc5, hcl5⟩ := Cond.classLink_spec hown hlink e.platform hpl
  cases Option.some.inj (hc4.symm.trans hc5)
  obtain ⟨vm', X', st⟩ := X.thenCaughtThrough q (g := F0 m pc ls rest) rfl (Steps.refl _) (by rw [hT]; exact hcell) (by rw [hv]; rfl) (by obtain ⟨k9, h9, -⟩ := Vm.findClass_spec hcl; exact ⟨k9, h9⟩) pre x suf hsplit
    (fun z hz => by
      rcases hpass z hz with h | ⟨hz0, nm, hl1, hn1⟩
      · exact Or.inl h
      · obtain ⟨c6, hc6, hcl6⟩ := Cond.classLink_spec hown hl1 e.platform hpl
        obtain ⟨a8, b8, h1, h2, h3⟩ := hn1
        cases Option.some.inj (h1.symm.trans hcl)
        cases Option.some.inj (h2.symm.trans hc6)
        exact Or.inr ⟨hz0, _, hcl6, h3⟩) hx (Or.inr ⟨h0, c4, hcl5, hasg⟩)
  obtain ⟨t, a1, b1⟩ := kk (T.setVm vm') hT X'
  exact ⟨t, st.trans a1, b1⟩
end Rows
section Ends
variable {p : Program} {l : Launch} {e : Env} {R : Room} {s : State} {m : MethodId} {args : Array Value} {below : List Frame} {meth : Method} {c : Code} {H : Heap} {locs : List Loc} {cells slots : Nat} {Q : State → Prop}
variable {mc ms : Nat} {free : Addr → Prop} {A0 A1 : Nat → Prop} {H0 : Heap} {a : Array Value} {ls : Array Slot} {st0 rest : List Value}
variable {Qc : Array Value → State → Outcome → State → Prop} {XC : String → State → State → Prop}
/-- what a body that may throw owes at its end -/
def vx_MQ (below : List Frame) (Qc : Array Value → State → Outcome → State → Prop) (XC : String → State → State → Prop) (a : Array Value) (s : State) (mc ms : Nat) (free : Addr → Prop) : State → Prop := fun t =>
  ∃ o, t.status = .running ∧ Ended t below o ∧ vx_Q Qc XC mc ms free a s o t
theorem vx_ret {g : JFrame} {mc ms : Nat} (k : W p l e R s m args below meth c H locs cells slots (MQ below Qc args s mc ms free) g) : W p l e R s m args below meth c H locs cells slots (vx_MQ below Qc XC args s mc ms free) g := by
  intro T hT X
  obtain ⟨t, a1, o, b1, b2, b3, b4⟩ := k T hT X
  exact ⟨t, a1, o, b1, b2, Or.inl ⟨b3, b4⟩⟩
/-- not caught here: it goes on to the caller -/
theorem vx_widen {g : JFrame} {q : Addr} {k n : Nat} (h1 : cells ≤ k) (h2 : slots ≤ n) (kk : vx_W p l e R s m args below meth c H locs k n Q g q) : vx_W p l e R s m args below meth c H locs cells slots Q g q := fun T hT X => kk T hT (stand_widen X h1 h2)
theorem vx_out {pc : Nat} {E : String} {ce : Cell} {q : Addr} {mc ms : Nat} (hout : ∀ x ∈ c.exceptionTable.toList, covers x pc = false) (hlocks : meth.locks = false) (hcell : H[q]? = some ce) (hv : ce.vm = .none) (hcl : s.vm.findClass E = some ce.cls)
    (hx : ∀ t : State, t.heap = H → s.vm.Alike t.vm → XC E s t) (hf : ∀ z ∈ locs, free z.base) (hc : cells ≤ mc) (hs : slots ≤ ms) :
    vx_W p l e R s m args below meth c H locs cells slots (vx_MQ below Qc XC args s mc ms free) (F0 m pc ls rest) q := by
  intro T hT X
  obtain ⟨st1, hrun, hend, hW, hsm⟩ := X.leaveThrown q (g := F0 m pc ls rest) rfl rfl rfl hout hlocks
  have hcell9 : (T.setFrames (.throwing q :: below)).heap[q]? = some ce := by
    show T.heap[q]? = some ce
    rw [hT]; exact hcell
  exact ⟨_, st1, .threw q, hrun, hend, Or.inr ⟨q, rfl, E, ce, locs, hx _ hT hW.alike, hcell9, hv, hcl, hW, hsm.mono hc hs, hf⟩⟩
theorem vx_frame {U : State} {k n : Nat} (h : s.sameButNew ({ U with vm := s.vm } : State) locs k n) : s.heap.size ≤ U.heap.size ∧ ∀ q : Nat, q < s.heap.size → (∀ z ∈ locs, z.base ≠ q) → U.heap[q]? = s.heap[q]? := by
  obtain ⟨-, h2, -, -, -, h6⟩ := h
  refine ⟨h2, fun q hq hz => ?_⟩
  obtain ⟨c9, e1, e2, e3, e4⟩ := h6 q _ (Array.getElem?_eq_getElem hq)
  have hs : c9.slots = (s.heap[q]).slots := Array.ext_getElem? fun i => e4 i fun hm => hz _ hm rfl
  have h9 : c9 = s.heap[q] := by
    rw [hs] at e2
    exact e2
  have e5 : U.heap[q]? = some c9 := e1
  rw [e5, h9, Array.getElem?_eq_getElem hq]
/-- the words of a throw but the four that speak of the heap -/
def vx_no (w : Cond) : Bool := decide (w ≠ .isRef (.static Bundle.tN "UNASSIGNED_STACK" Bundle.steD)) && decide (w ≠ .isRef (.static Bundle.tN "SUPPRESSED_SENTINEL" Bundle.listD)) && decide (w ≠ .laysStatic Bundle.tN "UNASSIGNED_STACK" Bundle.steD) && decide (w ≠ .laysStatic Bundle.tN "SUPPRESSED_SENTINEL" Bundle.listD)
def vx_at0 (own : String) (ic : Nat) (X : String) (names : List String) : List Cond := (Bundle.ownAtoms0 own ic X names).filter vx_no
def vx_atS (own : String) (ic : Nat) (X : String) (names : List String) : List Cond := (Bundle.ownAtoms own ic X names).filter vx_no
/-- a word that the tables alone decide, or a good one -/
def vx_ot (w : Cond) : Bool := w.onTables || goodWord w
theorem vx_ot_at {args a' : Array Value} {s U : State} {w : Cond} (hW : s.WarmedH U.vm) (hvm : s.vm = U.vm) (hg : vx_ot w = true) (h : w.before args s = true) : w.before a' U = true := by
  simp only [vx_ot, Bool.or_eq_true] at hg
  rcases hg with hg | hg
  · exact va_tabs hg hvm h
  · exact word_at hW (good_of_word hg) h
/-- a list's words: the good ones out of the method's own list, the others by premises of their own -/
theorem vx_hat {args : Array Value} {s : State} {L B : List Cond} (h1 : ∀ w ∈ L.filter goodWord, w.before args s = true) (h2 : ∀ w ∈ L.filter (fun w => !goodWord w), w ∈ B) (h3 : ∀ w ∈ B, w.before args s = true) : ∀ w ∈ L, w.before args s = true := by
  intro w hw
  by_cases g : goodWord w = true
  · exact h1 w (List.mem_filter.mpr ⟨hw, g⟩)
  · refine h3 w (h2 w (List.mem_filter.mpr ⟨hw, ?_⟩))
    show (!goodWord w) = true
    cases hgw : goodWord w
    · rfl
    · exact absurd hgw g
theorem vx_c {args : Array Value} {s : State} {w : Cond} {B : List Cond} (h : w.before args s = true) (t : ∀ w ∈ B, w.before args s = true) : ∀ w' ∈ w :: B, w'.before args s = true := fun w' h' => (List.mem_cons.mp h').elim (fun e => by rw [e]; exact h) (t w')
theorem vx_n {args : Array Value} {s : State} : ∀ w ∈ ([] : List Cond), w.before args s = true := fun _ h => nomatch h
theorem vx_own {args : Array Value} {s : State} {L : List Cond} (h1 : ∀ w ∈ L.filter vx_no, w.before args s = true)
    (hU : (Cond.isRef (.static Bundle.tN "UNASSIGNED_STACK" Bundle.steD)).before args s = true) (hN : (Cond.isRef (.static Bundle.tN "SUPPRESSED_SENTINEL" Bundle.listD)).before args s = true)
    (lU : (Cond.laysStatic Bundle.tN "UNASSIGNED_STACK" Bundle.steD).before args s = true) (lN : (Cond.laysStatic Bundle.tN "SUPPRESSED_SENTINEL" Bundle.listD).before args s = true) : ∀ w ∈ L, w.before args s = true := by
  intro w hw
  by_cases e1 : w = .isRef (.static Bundle.tN "UNASSIGNED_STACK" Bundle.steD)
  · rw [e1]; exact hU
  · by_cases e2 : w = .isRef (.static Bundle.tN "SUPPRESSED_SENTINEL" Bundle.listD)
    · rw [e2]; exact hN
    · by_cases e3 : w = .laysStatic Bundle.tN "UNASSIGNED_STACK" Bundle.steD
      · rw [e3]; exact lU
      · by_cases e4 : w = .laysStatic Bundle.tN "SUPPRESSED_SENTINEL" Bundle.listD
        · rw [e4]; exact lN
        · exact h1 w (List.mem_filter.mpr ⟨hw, by unfold vx_no; rw [decide_eq_true e1, decide_eq_true e2, decide_eq_true e3, decide_eq_true e4]; rfl⟩)
/-- where a static field lies, its class's statics cell in H -/
def vx_L (C n d : String) (A : Nat → Prop) (U : State) (H : Heap) : Prop := ∃ (c : ClassId) (k : Class) (i : Nat) (f : Field) (a : Nat) (cell : Cell), U.vm.findClass C = some c ∧ U.fieldFound? C n d = some (c, k, i, f) ∧ f.isStatic = true ∧ k.statics = some a ∧ H[a]? = some cell ∧ cell.vm.isStatics = true ∧ cell.cls = c ∧ f.slot < cell.slots.size ∧ k.staticTypes[f.slot]? = some f.type ∧ ¬ A a
theorem vx_L.moved {C n d : String} {A : Nat → Prop} {u U : State} {H : Heap} (hvm : u.vm.Alike U.vm) (h : vx_L C n d A u H) : vx_L C n d A U H := by
  obtain ⟨c, k, i, f, a, cell, h1, h2, h3, h4, h5, h6, h7, h8, h9, h10⟩ := h
  obtain ⟨k', hi', he⟩ := State.fieldFound?_setVm hvm h2
  exact ⟨c, k', i, f, a, cell, by rw [hvm.findClass]; exact h1, hi', h3, by rw [he]; exact h4, h5, h6, h7, h8, by rw [he]; exact h9, h10⟩
theorem vx_L.kept {C n d : String} {A : Nat → Prop} {U : State} {H H1 : Heap} (h : vx_L C n d A U H) (hq : ∀ a : Nat, a < H.size → ¬ A a → H1[a]? = H[a]?) : vx_L C n d A U H1 := by
  obtain ⟨c, k, i, f, a, cell, h1, h2, h3, h4, h5, h6, h7, h8, h9, h10⟩ := h
  exact ⟨c, k, i, f, a, cell, h1, h2, h3, h4, by rw [hq a (Array.getElem?_eq_some_iff.mp h5).1 h10]; exact h5, h6, h7, h8, h9, h10⟩
theorem vx_L.narrow {C n d : String} {A B : Nat → Prop} {U : State} {H : Heap} (h : vx_L C n d A U H) (hAB : ∀ q, B q → A q) : vx_L C n d B U H := by
  obtain ⟨c, k, i, f, a, cell, h1, h2, h3, h4, h5, h6, h7, h8, h9, h10⟩ := h
  exact ⟨c, k, i, f, a, cell, h1, h2, h3, h4, h5, h6, h7, h8, h9, fun z => h10 (hAB _ z)⟩
theorem vx_L.word {C n d : String} {A : Nat → Prop} {s : State} {args : Array Value} (h : vx_L C n d A s s.heap) : (Cond.laysStatic C n d).before args s = true := by
  obtain ⟨c, k, i, f, a, cell, h1, h2, h3, h4, h5, h6, h7, h8, h9, -⟩ := h
  show (Cond.laysStatic C n d).holds args s none s [] = true
  exact Cond.laysStatic_of h1 h2 h3 h4 h5 h6 h7 h8 h9
/-- .. and what it holds: null or some reference -/
def vx_Zq (C n d : String) (A : Nat → Prop) (U : State) (H : Heap) : Prop := va_Zq C n d A U H ∧ vx_L C n d A U H
theorem vx_Zq.moved {C n d : String} {A : Nat → Prop} {u U : State} {H : Heap} (hvm : u.vm.Alike U.vm) (h : vx_Zq C n d A u H) : vx_Zq C n d A U H := ⟨va_Zq.moved hvm h.1, vx_L.moved hvm h.2⟩
theorem vx_Zq.kept {C n d : String} {A : Nat → Prop} {U : State} {H H1 : Heap} (h : vx_Zq C n d A U H) (hq : ∀ a : Nat, a < H.size → ¬ A a → H1[a]? = H[a]?) : vx_Zq C n d A U H1 := ⟨va_Zq.kept h.1 hq, vx_L.kept h.2 hq⟩
theorem vx_Zq.narrow {C n d : String} {A B : Nat → Prop} {U : State} {H : Heap} (h : vx_Zq C n d A U H) (hAB : ∀ q, B q → A q) : vx_Zq C n d B U H := ⟨va_Zq.narrow h.1 hAB, vx_L.narrow h.2 hAB⟩
theorem vx_Zqof {args : Array Value} {s : State} {C n d : String} {A : Nat → Prop} (hl : (Cond.laysStatic C n d).before args s = true) (hini : (Cond.initialized C).before args s = true) (h : (Cond.isRef (.static C n d)).before args s = true) (hA : ∀ a : Nat, a < s.heap.size → ¬ A a) : vx_Zq C n d A s s.heap := by
  refine ⟨va_Zqof hl hini h hA, ?_⟩
  obtain ⟨c, k, i, f, a, cell, h1, h2, h3, h4, h5, h6, h7, h8, h9⟩ := Cond.laysStatic_spec hl
  exact ⟨c, k, i, f, a, cell, h1, h2, h3, h4, h5, h6, h7, h8, h9, hA a (Array.getElem?_eq_some_iff.mp h5).1⟩
theorem vx_isRef {C n d : String} {v : Value} {A : Nat → Prop} {s : State} {args : Array Value} (h : va_Z C n d v A s s.heap) (hv : v.isRef = true) : (Cond.isRef (.static C n d)).before args s = true := by
  obtain ⟨cf, kf, fi, f, a, cell, h1, h2, h3, h4, h5, h6, h7, -⟩ := h
  have he : (Term.static C n d).eval args s none [] s = some v := by
    simp [Term.eval, State.fieldNamed?, h1, h2, h4, h5, h6, h7]
  simp only [Cond.before, Cond.holds, Cond.value, he]
  cases v <;> simp_all [Value.isRef]
theorem vx_isRefq {C n d : String} {A : Nat → Prop} {s : State} {args : Array Value} (h : va_Zq C n d A s s.heap) : (Cond.isRef (.static C n d)).before args s = true := by
  rcases h with h | ⟨t, h⟩
  · exact vx_isRef h rfl
  · exact vx_isRef h rfl
/-- the same frame, seen from here: as if the method were called anew in this heap -/
theorem vx_rebase {T : State} (X : Stand p l e R s m args below meth c T locs cells slots) {R' : Room} (hf : R'.frames ≤ R.frames) (hl : R'.locals ≤ R.locals) (hc : cells + R'.cells ≤ R.cells) (hs : slots + R'.slots ≤ R.slots) :
    Stand p l e R' ((T.setVm s.vm).setFrames (.invoking m args :: below)) m args below meth c T [] 0 0 := by
  have htop : (T.setVm s.vm).topJava?.isSome := X.here.top
  have hF : ((T.setVm s.vm).setFrames (.invoking m args :: below)).frames = .invoking m args :: below := State.frames_setFrames _ (State.cur_lt_of_top htop)
  obtain ⟨g₀, hg0⟩ := Option.isSome_iff_exists.mp htop
  obtain ⟨r, hr⟩ := State.topJava?_eq_some.mp hg0
  have hl9 : e.platform.stackLimits (T.setVm s.vm).me = e.platform.stackLimits s.me := X.limits
  have hb9 : (T.setVm s.vm).me.stackBytes = s.me.stackBytes := X.bytes
  refine ⟨X.admits, X.cas, X.clock, hF, ?_, X.hears, X.method, X.code, X.here, X.tail, X.warmed, ?_, ?_, ?_⟩
  · have h := X.room
    have hU : ((T.setVm s.vm).setFrames (.invoking m args :: below)).localsInUse = s.localsInUse := by
      rw [State.localsInUse_invoking hF (meth := meth) (c := c) X.method X.code, State.localsInUse_invoking X.frames X.method X.code]
    simp only [State.hasRoom, Bool.and_eq_true, decide_eq_true_eq] at h ⊢
    obtain ⟨⟨⟨⟨h1, h2, h3, h4, h5, h6⟩, h7⟩, h8⟩, h9⟩ := h
    rw [X.frames, List.length_cons] at h2 h3
    have q1 := X.heapSize
    have q2 := X.used
    simp only [hF, hU, List.length_cons, State.stackLimits_setFrames, State.stackBytes_setFrames, hl9, hb9]
    refine ⟨⟨⟨⟨by omega, by omega, by omega, by omega, by omega, h6⟩, ?_⟩, ?_⟩, X.book⟩
    · show T.heap.size + R'.cells ≤ e.platform.maxCells
      omega
    · show T.slotsUsed + R'.slots ≤ e.platform.maxSlots
      omega
  · rw [State.stackLimits_setFrames]; rfl
  · rw [State.stackBytes_setFrames]; rfl
  · refine ⟨?_, Nat.le_refl _, Nat.le_refl _, ?_, ?_, fun a c9 h9 => ⟨c9, h9, rfl, rfl, fun _ _ => rfl⟩⟩
    · obtain ⟨t, ht, -⟩ := State.frames_cons hr
      show T.setVm s.vm = { ((T.setVm s.vm).setFrames (.invoking m args :: below)).setFrames (T.setVm s.vm).frames with heap := T.heap, slotsUsed := T.slotsUsed }
      rw [State.setFrames_setFrames, State.setFrames_self ht]
      rfl
    · show T.slotsUsed = T.slotsUsed + ((T.heap.toList.drop T.heap.size).map (·.slots.size)).sum
      rw [List.drop_eq_nil_of_le (Nat.le_of_eq Array.length_toList)]
      rfl
    · show ((T.heap.toList.drop T.heap.size).map (·.slots.size)).sum ≤ 0
      rw [List.drop_eq_nil_of_le (Nat.le_of_eq Array.length_toList)]
      exact Nat.le_refl _
/-- 'throw new E()': new; dup; invokespecial; athrow -/
theorem vx_throw0 {cc : ByteArray} {pc : Nat} (hexec : p.tables.exec = Jvm.exec) (hb : c.code = cc) (hl : l.stackTraces = false) {own cls : String} {names : List String} {ik ic mc ms : Nat} {A : Nat → Prop}
    (hown : s.vm.findClass own = some m.cls) (hcls : Bundle.fit cls = true) (hnames : ∀ n ∈ names, Bundle.fit n = true)
    (hk : (Cond.classLink own ik cls).before args s = true) (hini : (Cond.initialized cls).before args s = true) (hat : ∀ w ∈ vx_at0 own ic cls names, w.before args s = true)
    (hgood : ∀ w ∈ Cond.classLink own ik cls :: Cond.initialized cls :: vx_at0 own ic cls names, vx_ot w = true)
    (hU : vx_Zq Bundle.tN "UNASSIGNED_STACK" Bundle.steD A s s.heap) (hN : vx_Zq Bundle.tN "SUPPRESSED_SENTINEL" Bundle.listD A s s.heap) (hS : va_S A s.heap H locs) (hsize : ls.size = c.maxLocals)
    (d0 : decode cc pc = .ok (.new ik, 3)) (d3 : decode cc (pc + 3) = .ok (.dup, 1)) (d4 : decode cc (pc + 4) = .ok (.invokespecial ic, 3)) (d7 : decode cc (pc + 7) = .ok (.athrow, 1))
    (hout : ∀ x ∈ c.exceptionTable.toList, covers x (pc + 7) = false)
    (hRframes : names.length + 3 < R.frames) (hRlocals : (rest.map fun v => v.category).sum + (13 * (names.length + 1) + 42) ≤ R.locals) (hRcells : cells + 1 ≤ R.cells) (hRslots : slots + 6 ≤ R.slots) (hlocks : meth.locks = false)
    (hx : ∀ t : State, s.vm.Alike t.vm → H.size ≤ t.heap.size → (∀ q : Nat, q < H.size → t.heap[q]? = H[q]?) → XC cls s t)
    (hf : ∀ z ∈ locs, free z.base) (hc : cells + 1 ≤ mc) (hs : slots + 6 ≤ ms) :
    W p l e R s m args below meth c H locs cells slots (vx_MQ below Qc XC args s mc ms free) (F0 m pc ls rest) := by
  intro T hT X
  have htr : e.platform.stackTraces = false := (show e.platform.stackTraces = l.stackTraces by rw [X.admits.platform]).trans hl
  have Y := vx_rebase X (R' := { frames := R.frames, locals := R.locals, cells := 1, slots := 6 }) (Nat.le_refl _) (Nat.le_refl _) hRcells hRslots
  obtain ⟨s', hA⟩ : ∃ z, z = (T.setVm s.vm).setFrames (.invoking m args :: below) := ⟨_, rfl⟩
  rw [← hA] at Y
  have hvm : s'.vm = s.vm := by rw [hA]; rfl
  have hhp : s'.heap = H := by rw [hA]; exact hT
  have hW0 : s.WarmedH s'.vm := by rw [hvm]; exact State.WarmedH.refl s
  have hat' : ∀ w ∈ vx_at0 own ic cls names, w.before args s' = true := fun w hw => vx_ot_at hW0 hvm.symm (hgood w (List.mem_cons_of_mem _ (List.mem_cons_of_mem _ hw))) (hat w hw)
  have hk' : (Cond.classLink own ik cls).before args s' = true := vx_ot_at hW0 hvm.symm (hgood _ List.mem_cons_self) hk
  have hini' : (Cond.initialized cls).before args s' = true := vx_ot_at hW0 hvm.symm (hgood _ (List.mem_cons_of_mem _ List.mem_cons_self)) hini
  have hU' : vx_Zq Bundle.tN "UNASSIGNED_STACK" Bundle.steD A s' s'.heap := by rw [hhp]; exact vx_Zq.moved hW0.alike (hU.kept hS.2.1)
  have hN' : vx_Zq Bundle.tN "SUPPRESSED_SENTINEL" Bundle.listD A s' s'.heap := by rw [hhp]; exact vx_Zq.moved hW0.alike (hN.kept hS.2.1)
  have h : ∀ w ∈ Bundle.ownAtoms0 own ic cls names, w.before args s' = true := vx_own hat' (vx_isRefq hU'.1) (vx_isRefq hN'.1) hU'.2.word hN'.2.word
  have hown' : s'.vm.findClass own = some m.cls := by rw [hvm]; exact hown
  have hins : (Cond.instantiable cls 6).before args s' = true := h _ (by simp [Bundle.ownAtoms0])
  obtain ⟨vm₁, cX, kX, hfX, hkX, -, -, X₁, st1⟩ := Y.newCold hexec (own := own) (C := cls) (index := ik) (n := 6) hown' hk' hins hini'
    (g := F0 m pc ls rest) rfl (by rw [hb]; exact d0) (Nat.le_refl _) (Nat.le_refl _)
  generalize hT1 : (T.setVm vm₁).pushCell { cls := cX, slots := kX.instanceTypes.map defaultValue, vm := .none } = T1 at X₁ st1
  have hcat : (Value.ref T.heap.size).category = 1 := rfl
  have hcellA : T1.heap[T.heap.size]? = some (freshCell cX kX) := by rw [← hT1]; exact State.heap_pushCell_size _ _
  have d3' : decode c.code (pc + 3) = .ok (.dup, 1) := by rw [hb]; exact d3
  obtain ⟨U, hsteps, hrun, hend, hW, hsame, ce, hce, hO⟩ := X₁.ctorThrow0 hexec htr (own := own) (cls := cls) (names := names) (ic := ic) hown' hcls hnames h (fun x hx => nomatch hx) hfX hkX hcellA (by rw [hhp, hT]; exact Nat.le_refl _)
    (g := { method := m, pc := pc + 4, locals := ls, stack := .ref T.heap.size :: .ref T.heap.size :: rest, locked := none }) rfl hsize rfl rfl (rest := rest) rfl
    (by rw [hb]; exact d4) (by rw [hb]; exact d7) hout hRframes (by simp only [List.map_cons, List.sum_cons, hcat]; omega) hlocks
  obtain ⟨f1, f2⟩ := vx_frame hsame
  rw [hhp] at f1 f2
  have hWs : s.WarmedH U.vm := State.WarmedH.trans hW0 hW
  have hcl : s.vm.findClass cls = some ce.cls := by
    have h9 := hO.cls
    rw [hvm] at h9
    exact h9
  have hall : s.sameButNew ({ U with vm := s.vm } : State) locs mc ms := by
    subst hA
    obtain ⟨e1, e2⟩ := hsame
    rw [State.setFrames_setFrames] at e1
    have h2 : (T.setVm s.vm).sameButNew ({ U with vm := s.vm } : State) [] (0 + 1) (0 + 6) := ⟨e1, e2⟩
    have h3 := X.same.trans h2
    rw [List.append_nil] at h3
    exact h3.mono hc hs
  refine ⟨U, ?_, .threw T.heap.size, hrun, hend, Or.inr ⟨T.heap.size, rfl, cls, ce, locs, hx U hWs.alike f1 (fun q hq => f2 q hq (fun z hz => nomatch hz)), hce, hO.vm, hcl, hWs, hall, hf⟩⟩
  refine st1 _ ?_
  show Steps p.tables e below (T1.setTop { method := m, pc := pc + 3, locals := ls, stack := .ref T.heap.size :: rest, locked := none }) _
  jvm_step X₁.here [X₁.here.top, hexec, d3', Value.category]
  exact hsteps
/-- 'throw new E("text")': new; dup; ldc; invokespecial; athrow -/
theorem vx_throwS {cc : ByteArray} {pc : Nat} (hexec : p.tables.exec = Jvm.exec) (hb : c.code = cc) (hl : l.stackTraces = false) {own cls text : String} {names : List String} {ik is ic mc ms sa : Nat} {A : Nat → Prop}
    (hown : s.vm.findClass own = some m.cls) (hcls : Bundle.fit cls = true) (hnames : ∀ n ∈ names, Bundle.fit n = true)
    (hk : (Cond.classLink own ik cls).before args s = true) (hini : (Cond.initialized cls).before args s = true) (hstr : vk_R own is text sa s) (hat : ∀ w ∈ vx_atS own ic cls names, w.before args s = true)
    (hgood : ∀ w ∈ Cond.classLink own ik cls :: Cond.initialized cls :: vx_atS own ic cls names, vx_ot w = true)
    (hU : vx_Zq Bundle.tN "UNASSIGNED_STACK" Bundle.steD A s s.heap) (hN : vx_Zq Bundle.tN "SUPPRESSED_SENTINEL" Bundle.listD A s s.heap) (hS : va_S A s.heap H locs) (hsize : ls.size = c.maxLocals)
    (d0 : decode cc pc = .ok (.new ik, 3)) (d3 : decode cc (pc + 3) = .ok (.dup, 1)) (d4 : decode cc (pc + 4) = .ok (.ldc is, 2)) (d6 : decode cc (pc + 6) = .ok (.invokespecial ic, 3)) (d9 : decode cc (pc + 9) = .ok (.athrow, 1))
    (hout : ∀ x ∈ c.exceptionTable.toList, covers x (pc + 9) = false)
    (hRframes : names.length + 3 < R.frames) (hRlocals : (rest.map fun v => v.category).sum + (13 * (names.length + 1) + 43) ≤ R.locals) (hRcells : cells + 1 ≤ R.cells) (hRslots : slots + 6 ≤ R.slots) (hlocks : meth.locks = false)
    (hx : ∀ t : State, s.vm.Alike t.vm → H.size ≤ t.heap.size → (∀ q : Nat, q < H.size → t.heap[q]? = H[q]?) → XC cls s t)
    (hf : ∀ z ∈ locs, free z.base) (hc : cells + 1 ≤ mc) (hs : slots + 6 ≤ ms) :
    W p l e R s m args below meth c H locs cells slots (vx_MQ below Qc XC args s mc ms free) (F0 m pc ls rest) := by
  intro T hT X
  have htr : e.platform.stackTraces = false := (show e.platform.stackTraces = l.stackTraces by rw [X.admits.platform]).trans hl
  have Y := vx_rebase X (R' := { frames := R.frames, locals := R.locals, cells := 1, slots := 6 }) (Nat.le_refl _) (Nat.le_refl _) hRcells hRslots
  obtain ⟨s', hA⟩ : ∃ z, z = (T.setVm s.vm).setFrames (.invoking m args :: below) := ⟨_, rfl⟩
  rw [← hA] at Y
  have hvm : s'.vm = s.vm := by rw [hA]; rfl
  have hhp : s'.heap = H := by rw [hA]; exact hT
  have hW0 : s.WarmedH s'.vm := by rw [hvm]; exact State.WarmedH.refl s
  have hat' : ∀ w ∈ vx_atS own ic cls names, w.before args s' = true := fun w hw => vx_ot_at hW0 hvm.symm (hgood w (List.mem_cons_of_mem _ (List.mem_cons_of_mem _ hw))) (hat w hw)
  have hk' : (Cond.classLink own ik cls).before args s' = true := vx_ot_at hW0 hvm.symm (hgood _ List.mem_cons_self) hk
  have hini' : (Cond.initialized cls).before args s' = true := vx_ot_at hW0 hvm.symm (hgood _ (List.mem_cons_of_mem _ List.mem_cons_self)) hini
  have hU' : vx_Zq Bundle.tN "UNASSIGNED_STACK" Bundle.steD A s' s'.heap := by rw [hhp]; exact vx_Zq.moved hW0.alike (hU.kept hS.2.1)
  have hN' : vx_Zq Bundle.tN "SUPPRESSED_SENTINEL" Bundle.listD A s' s'.heap := by rw [hhp]; exact vx_Zq.moved hW0.alike (hN.kept hS.2.1)
  have h : ∀ w ∈ Bundle.ownAtoms own ic cls names, w.before args s' = true := vx_own hat' (vx_isRefq hU'.1) (vx_isRefq hN'.1) hU'.2.word hN'.2.word
  have hown' : s'.vm.findClass own = some m.cls := by rw [hvm]; exact hown
  have hins : (Cond.instantiable cls 6).before args s' = true := h _ (by simp [Bundle.ownAtoms])
  obtain ⟨vm₁, cX, kX, hfX, hkX, -, -, X₁, st1⟩ := Y.newCold hexec (own := own) (C := cls) (index := ik) (n := 6) hown' hk' hins hini'
    (g := F0 m pc ls rest) rfl (by rw [hb]; exact d0) (Nat.le_refl _) (Nat.le_refl _)
  generalize hT1 : (T.setVm vm₁).pushCell { cls := cX, slots := kX.instanceTypes.map defaultValue, vm := .none } = T1 at X₁ st1
  have hcat : (Value.ref T.heap.size).category = 1 := rfl
  have hcellA : T1.heap[T.heap.size]? = some (freshCell cX kX) := by rw [← hT1]; exact State.heap_pushCell_size _ _
  have d3' : decode c.code (pc + 3) = .ok (.dup, 1) := by rw [hb]; exact d3
  have d4' : decode c.code (pc + 4) = .ok (.ldc is, 2) := by rw [hb]; exact d4
  have hstr' : vk_R own is text sa s' := vk_R.warm hW0 hstr
  obtain ⟨U, hsteps, hrun, hend, hW, hsame, ce, hce, hO⟩ := X₁.ctorThrowS hexec htr (own := own) (cls := cls) (names := names) (ic := ic) hown' hcls hnames h (fun x hx => nomatch hx) hfX hkX hcellA (by rw [hhp, hT]; exact Nat.le_refl _) (msg := .ref sa) rfl
    (g := { method := m, pc := pc + 6, locals := ls, stack := .ref sa :: .ref T.heap.size :: .ref T.heap.size :: rest, locked := none }) rfl hsize rfl rfl (rest := rest) rfl
    (by rw [hb]; exact d6) (by rw [hb]; exact d9) hout hRframes (by simp only [List.map_cons, List.sum_cons, hcat]; omega) hlocks
  obtain ⟨f1, f2⟩ := vx_frame hsame
  rw [hhp] at f1 f2
  have hWs : s.WarmedH U.vm := State.WarmedH.trans hW0 hW
  have hcl : s.vm.findClass cls = some ce.cls := by
    have h9 := hO.cls
    rw [hvm] at h9
    exact h9
  have hall : s.sameButNew ({ U with vm := s.vm } : State) locs mc ms := by
    subst hA
    obtain ⟨e1, e2⟩ := hsame
    rw [State.setFrames_setFrames] at e1
    have h2 : (T.setVm s.vm).sameButNew ({ U with vm := s.vm } : State) [] (0 + 1) (0 + 6) := ⟨e1, e2⟩
    have h3 := X.same.trans h2
    rw [List.append_nil] at h3
    exact h3.mono hc hs
  refine ⟨U, ?_, .threw T.heap.size, hrun, hend, Or.inr ⟨T.heap.size, rfl, cls, ce, locs, hx U hWs.alike f1 (fun q hq => f2 q hq (fun z hz => nomatch hz)), hce, hO.vm, hcl, hWs, hall, hf⟩⟩
  refine st1 _ ?_
  show Steps p.tables e below (T1.setTop { method := m, pc := pc + 3, locals := ls, stack := .ref T.heap.size :: rest, locked := none }) _
  jvm_step X₁.here [X₁.here.top, hexec, d3', Value.category]
  exact X₁.ldcString hexec (own := own) (text := text) (index := is) (a := sa) hown' hstr'.1 hstr'.2
    (g := { method := m, pc := pc + 4, locals := ls, stack := .ref T.heap.size :: .ref T.heap.size :: rest, locked := none }) rfl d4' _ hsteps
/-- 'throw new E("text")', the text by a wide index -/
theorem vx_throwSW {cc : ByteArray} {pc : Nat} (hexec : p.tables.exec = Jvm.exec) (hb : c.code = cc) (hl : l.stackTraces = false) {own cls text : String} {names : List String} {ik is ic mc ms sa : Nat} {A : Nat → Prop}
    (hown : s.vm.findClass own = some m.cls) (hcls : Bundle.fit cls = true) (hnames : ∀ n ∈ names, Bundle.fit n = true)
    (hk : (Cond.classLink own ik cls).before args s = true) (hini : (Cond.initialized cls).before args s = true) (hstr : vk_R own is text sa s) (hat : ∀ w ∈ vx_atS own ic cls names, w.before args s = true)
    (hgood : ∀ w ∈ Cond.classLink own ik cls :: Cond.initialized cls :: vx_atS own ic cls names, vx_ot w = true)
    (hU : vx_Zq Bundle.tN "UNASSIGNED_STACK" Bundle.steD A s s.heap) (hN : vx_Zq Bundle.tN "SUPPRESSED_SENTINEL" Bundle.listD A s s.heap) (hS : va_S A s.heap H locs) (hsize : ls.size = c.maxLocals)
    (d0 : decode cc pc = .ok (.new ik, 3)) (d3 : decode cc (pc + 3) = .ok (.dup, 1)) (d4 : decode cc (pc + 4) = .ok (.ldc_w is, 3)) (d7 : decode cc (pc + 7) = .ok (.invokespecial ic, 3)) (d10 : decode cc (pc + 10) = .ok (.athrow, 1))
    (hout : ∀ x ∈ c.exceptionTable.toList, covers x (pc + 10) = false)
    (hRframes : names.length + 3 < R.frames) (hRlocals : (rest.map fun v => v.category).sum + (13 * (names.length + 1) + 43) ≤ R.locals) (hRcells : cells + 1 ≤ R.cells) (hRslots : slots + 6 ≤ R.slots) (hlocks : meth.locks = false)
    (hx : ∀ t : State, s.vm.Alike t.vm → H.size ≤ t.heap.size → (∀ q : Nat, q < H.size → t.heap[q]? = H[q]?) → XC cls s t)
    (hf : ∀ z ∈ locs, free z.base) (hc : cells + 1 ≤ mc) (hs : slots + 6 ≤ ms) :
    W p l e R s m args below meth c H locs cells slots (vx_MQ below Qc XC args s mc ms free) (F0 m pc ls rest) := by
  intro T hT X
  have htr : e.platform.stackTraces = false := (show e.platform.stackTraces = l.stackTraces by rw [X.admits.platform]).trans hl
  have Y := vx_rebase X (R' := { frames := R.frames, locals := R.locals, cells := 1, slots := 6 }) (Nat.le_refl _) (Nat.le_refl _) hRcells hRslots
  obtain ⟨s', hA⟩ : ∃ z, z = (T.setVm s.vm).setFrames (.invoking m args :: below) := ⟨_, rfl⟩
  rw [← hA] at Y
  have hvm : s'.vm = s.vm := by rw [hA]; rfl
  have hhp : s'.heap = H := by rw [hA]; exact hT
  have hW0 : s.WarmedH s'.vm := by rw [hvm]; exact State.WarmedH.refl s
  have hat' : ∀ w ∈ vx_atS own ic cls names, w.before args s' = true := fun w hw => vx_ot_at hW0 hvm.symm (hgood w (List.mem_cons_of_mem _ (List.mem_cons_of_mem _ hw))) (hat w hw)
  have hk' : (Cond.classLink own ik cls).before args s' = true := vx_ot_at hW0 hvm.symm (hgood _ List.mem_cons_self) hk
  have hini' : (Cond.initialized cls).before args s' = true := vx_ot_at hW0 hvm.symm (hgood _ (List.mem_cons_of_mem _ List.mem_cons_self)) hini
  have hU' : vx_Zq Bundle.tN "UNASSIGNED_STACK" Bundle.steD A s' s'.heap := by rw [hhp]; exact vx_Zq.moved hW0.alike (hU.kept hS.2.1)
  have hN' : vx_Zq Bundle.tN "SUPPRESSED_SENTINEL" Bundle.listD A s' s'.heap := by rw [hhp]; exact vx_Zq.moved hW0.alike (hN.kept hS.2.1)
  have h : ∀ w ∈ Bundle.ownAtoms own ic cls names, w.before args s' = true := vx_own hat' (vx_isRefq hU'.1) (vx_isRefq hN'.1) hU'.2.word hN'.2.word
  have hown' : s'.vm.findClass own = some m.cls := by rw [hvm]; exact hown
  have hins : (Cond.instantiable cls 6).before args s' = true := h _ (by simp [Bundle.ownAtoms])
  obtain ⟨vm₁, cX, kX, hfX, hkX, -, -, X₁, st1⟩ := Y.newCold hexec (own := own) (C := cls) (index := ik) (n := 6) hown' hk' hins hini'
    (g := F0 m pc ls rest) rfl (by rw [hb]; exact d0) (Nat.le_refl _) (Nat.le_refl _)
  generalize hT1 : (T.setVm vm₁).pushCell { cls := cX, slots := kX.instanceTypes.map defaultValue, vm := .none } = T1 at X₁ st1
  have hcat : (Value.ref T.heap.size).category = 1 := rfl
  have hcellA : T1.heap[T.heap.size]? = some (freshCell cX kX) := by rw [← hT1]; exact State.heap_pushCell_size _ _
  have d3' : decode c.code (pc + 3) = .ok (.dup, 1) := by rw [hb]; exact d3
  have d4' : decode c.code (pc + 4) = .ok (.ldc_w is, 3) := by rw [hb]; exact d4
  have hstr' : vk_R own is text sa s' := vk_R.warm hW0 hstr
  obtain ⟨U, hsteps, hrun, hend, hW, hsame, ce, hce, hO⟩ := X₁.ctorThrowS hexec htr (own := own) (cls := cls) (names := names) (ic := ic) hown' hcls hnames h (fun x hx => nomatch hx) hfX hkX hcellA (by rw [hhp, hT]; exact Nat.le_refl _) (msg := .ref sa) rfl
    (g := { method := m, pc := pc + 7, locals := ls, stack := .ref sa :: .ref T.heap.size :: .ref T.heap.size :: rest, locked := none }) rfl hsize rfl rfl (rest := rest) rfl
    (by rw [hb]; exact d7) (by rw [hb]; exact d10) hout hRframes (by simp only [List.map_cons, List.sum_cons, hcat]; omega) hlocks
  obtain ⟨f1, f2⟩ := vx_frame hsame
  rw [hhp] at f1 f2
  have hWs : s.WarmedH U.vm := State.WarmedH.trans hW0 hW
  have hcl : s.vm.findClass cls = some ce.cls := by
    have h9 := hO.cls
    rw [hvm] at h9
    exact h9
  have hall : s.sameButNew ({ U with vm := s.vm } : State) locs mc ms := by
    subst hA
    obtain ⟨e1, e2⟩ := hsame
    rw [State.setFrames_setFrames] at e1
    have h2 : (T.setVm s.vm).sameButNew ({ U with vm := s.vm } : State) [] (0 + 1) (0 + 6) := ⟨e1, e2⟩
    have h3 := X.same.trans h2
    rw [List.append_nil] at h3
    exact h3.mono hc hs
  refine ⟨U, ?_, .threw T.heap.size, hrun, hend, Or.inr ⟨T.heap.size, rfl, cls, ce, locs, hx U hWs.alike f1 (fun q hq => f2 q hq (fun z hz => nomatch hz)), hce, hO.vm, hcl, hWs, hall, hf⟩⟩
  refine st1 _ ?_
  show Steps p.tables e below (T1.setTop { method := m, pc := pc + 3, locals := ls, stack := .ref T.heap.size :: rest, locked := none }) _
  jvm_step X₁.here [X₁.here.top, hexec, d3', Value.category]
  exact X₁.ldcStringW hexec (own := own) (text := text) (index := is) (a := sa) hown' hstr'.1 hstr'.2
    (g := { method := m, pc := pc + 4, locals := ls, stack := .ref T.heap.size :: .ref T.heap.size :: rest, locked := none }) rfl d4' _ hsteps
end Ends
section Bodies
variable {l : Launch}
theorem vx_ofW {y : MethodName} {ws ws' : List Cond} {rm : Room} {Pc : Array Value → State → Prop} {Qc : Array Value → State → Outcome → State → Prop} {XC : String → State → State → Prop} {mc ms : Nat} {free : Addr → Prop} {cc : ByteArray} {maxL : Nat} {ret : Option FieldType}
    (hy : plainName y.cls = true) (hw : ws = Cond.code y cc maxL ret :: ws')
    (body : ∀ p e s m args below meth c s₁, BodyLoose p l y (headSpec ws rm) cc maxL ret e s m args below meth c s₁ → c.maxLocals = maxL → (∀ x ∈ c.exceptionTable.toList, False) → Pc args s →
      W p l e (headSpec ws rm).room s m args below meth c s.heap [] 0 0 (vx_MQ below Qc XC args s mc ms free) (entryFrame m args maxL)) : vx_Met l y ws rm Pc Qc XC mc ms free := by
  refine MetFree.of_bodyS (code := cc) (maxLocals := maxL) (ret := ret) hy ?_ ?_
  · intro args s m h hn
    obtain ⟨meth, c, h1, h2, h3, h4, h5, h6, -, -⟩ := Cond.code_spec hn (atoms_spec (ws := ws) h _ (by rw [hw]; exact List.mem_cons_self))
    exact ⟨meth, c, h1, h2, h3, h4, h5, h6⟩
  · intro p e s m args below meth c s₁ B hml hP _
    have hh0 : s₁.heap = s.heap := by rw [B.state]; rfl
    have ht : ∀ x ∈ c.exceptionTable.toList, False := by
      obtain ⟨meth9, c9, h1, h2, -, -, -, -, h7, -⟩ := Cond.code_spec B.named (atoms_spec (ws := ws) B.pre _ (by rw [hw]; exact List.mem_cons_self))
      cases Option.some.inj (h1.symm.trans B.method)
      cases Option.some.inj (h2.symm.trans (Stand.of_body B).code)
      intro x hx
      rw [Array.isEmpty_iff.mp h7] at hx
      cases hx
    obtain ⟨t, a1, o, b1, b2, b3⟩ := body p e s m args below meth c s₁ B hml ht hP s₁ hh0 (Stand.of_body B)
    exact ⟨t, o, a1, b1, b2, b3⟩
/-- the table of a body with handlers -/
theorem vx_table {p : Program} {x y : MethodName} {S : Spec} {cc bytes : ByteArray} {maxL maxL' : Nat} {ret ret' : Option FieldType} {e : Env} {s s₁ : State} {m : MethodId} {args : Array Value} {below : List Frame} {meth : Method} {c : Code} {hh : List (Nat × Nat × Nat × Nat)}
    (B : BodyLoose p l y S cc maxL ret e s m args below meth c s₁) (h : (Cond.codeWith y bytes maxL' ret' hh).before args s = true) : c.exceptionTable.toList = tableOf hh := by
  obtain ⟨m9, meth9, c9, hn9, h1, h2, -, -, h6, -⟩ := Cond.codeWith_spec h
  cases Option.some.inj (hn9.symm.trans B.named)
  cases Option.some.inj (h1.symm.trans B.method)
  cases Option.some.inj (h2.symm.trans (Stand.of_body B).code)
  rw [← h6, table_eq]
end Bodies
end VXA
/-! ===== END ===== -/
/-! ===== BEGIN a static call of a method with an exception table ===== -/
section VXS
variable {p : Program} {l : Launch} {e : Env} {R : Room} {s : State} {m : MethodId} {args : Array Value} {below : List Frame} {meth : Method} {c : Code} {T : State} {H : Heap} {locs : List Loc} {cells slots : Nat}
abbrev vx_CSW (R : Room) (s : State) (args : Array Value) (own : String) (index : Nat) (y : MethodName) (bytes : ByteArray) (maxL : Nat) (ret : Option FieldType) (hh : List (Nat × Nat × Nat × Nat)) (ws : List Cond) (rm : Room) (mc ms n : Nat) : Prop :=
  (rm.cells = mc ∧ rm.slots = ms ∧ rm.frames + 1 ≤ R.frames ∧ 8 + (maxL + 11) + rm.locals ≤ R.locals ∧ (∀ w ∈ ws, ∀ (a' : Array Value) (U : State), s.WarmedH U.vm → w.before a' U = true) ∧ Cond.codeWith y bytes maxL ret hh ∈ ws) ∧
  (Cond.codeWith y bytes maxL ret hh).before args s = true ∧ (Cond.initialized y.cls).before args s = true ∧ (y.cls ≠ "java/lang/invoke/MethodHandle" ∧ y.cls ≠ "java/lang/invoke/VarHandle") ∧
  (∀ sig, parseMethodDescriptor y.desc = some sig → n = sig.parameters.length) ∧ (Cond.methodLink own index y).before args s = true ∧ (Cond.static y).before args s = true
theorem vx_cwSW {own : String} {index maxL mc ms : Nat} {y : MethodName} {bytes : ByteArray} {ret : Option FieldType} {hh : List (Nat × Nat × Nat × Nat)} {Ts ws ws' : List Cond} {rm : Room} (n : Nat) (ht : ∀ w ∈ Ts, w.before args s = true) (hT : GoodIn Ts (va_wsS own index y ws)) (hw : ws = Cond.codeWith y bytes maxL ret hh :: ws') (hrc : rm.cells = mc) (hrs : rm.slots = ms)
    (hd : y.cls ≠ "java/lang/invoke/MethodHandle" ∧ y.cls ≠ "java/lang/invoke/VarHandle" ∧ (parseMethodDescriptor y.desc).map (fun d => d.parameters.length) = some n) (hR : rm.frames + 1 ≤ R.frames ∧ 8 + (maxL + 11) + rm.locals ≤ R.locals) :
    vx_CSW R s args own index y bytes maxL ret hh ws rm mc ms n := by
  have ok : ∀ w ∈ va_wsS own index y ws, w.before args s = true := fun w h => ht w (hT w h).1
  have hG : GoodIn Ts ws := fun w h => hT w (by unfold va_wsS; exact List.mem_append_right _ h)
  have hc : Cond.codeWith y bytes maxL ret hh ∈ ws := by rw [hw]; exact List.mem_cons_self
  refine ⟨⟨hrc, hrs, hR.1, hR.2, pay_in ht hG, hc⟩, ht _ (hG _ hc).1, ok _ (by simp [va_wsS]), ⟨hd.1, hd.2.1⟩, fun sig h => ?_, ok _ (by simp [va_wsS]), ok _ (by simp [va_wsS])⟩
  have h2 := hd.2.2
  rw [h] at h2
  exact (Option.some.inj h2).symm
theorem vx_callSW (X : Stand p l e R s m args below meth c T locs cells slots) (hexec : p.tables.exec = Jvm.exec) {own : String} {index : Nat} {y : MethodName} {bytes : ByteArray} {maxL : Nat} {ret : Option FieldType} {hh : List (Nat × Nat × Nat × Nat)}
    (hown : s.vm.findClass own = some m.cls) (hlink : (Cond.methodLink own index y).before args s = true) (hstat : (Cond.static y).before args s = true) (hinit : (Cond.initialized y.cls).before args s = true)
    (hcode : (Cond.codeWith y bytes maxL ret hh).before args s = true) (hy : y.cls ≠ "java/lang/invoke/MethodHandle" ∧ y.cls ≠ "java/lang/invoke/VarHandle")
    {W9 : Nat} {Pre : Pt → Array Value → Prop} {Post : Pt → Array Value → Option Value → Pt → Prop} (hK : Back l R p e below s args y 3 W9 Pre Post)
    {g : JFrame} (hg : g.method = m) (hsize : g.locals.size = c.maxLocals) {argsL rest : List Value} (hlen : ∀ sig, parseMethodDescriptor y.desc = some sig → argsL.length = sig.parameters.length)
    (hstack : g.stack = argsL.reverse ++ rest) (hW : 2 * g.monitorRoom + (rest.map fun v => v.category).sum ≤ W9) (hdg : decode c.code g.pc = .ok (.invokestatic index, 3))
    (hpre : ∀ vm₁, s.WarmedH vm₁ → Pre ⟨T.setVm vm₁, locs, cells, slots⟩ argsL.toArray) :
    ∃ (v : Option Value) (vm₁ : Vm) (B : Pt), s.WarmedH vm₁ ∧ Stand p l e R s m args below meth c B.U B.locs B.cells B.slots ∧ Post ⟨T.setVm vm₁, locs, cells, slots⟩ argsL.toArray v B ∧
      ∀ target, Steps p.tables e below (B.U.setTop { g with pc := g.pc + 3, stack := v.toList ++ rest }) target → Steps p.tables e below (T.setTop g) target := by
  obtain ⟨mk, methM, cM, hnamed, hmethM, -, -, -, -, -, -, hsigM⟩ := Cond.codeWith_spec hcode
  have hstatic : methM.isStatic = true := Cond.static_spec hnamed hmethM hstat
  obtain ⟨kP, hkP, -⟩ := className_of_methodNamed hnamed
  have hinitP : kP.init = .initialized := Cond.initialized_spec (findClass_of_methodNamed hnamed) hkP hinit
  obtain ⟨vm₁, X₁, hstep₁⟩ := X.invokestatic hexec hown hlink hnamed hmethM hstatic hkP hinitP hy (g := g) hg (argsL := argsL) (rest := rest) (hlen _ hsigM) hstack hdg
  obtain ⟨v, B, X', hpost, hsteps⟩ := hK m meth c ⟨T.setVm vm₁, locs, cells, slots⟩ { g with stack := rest } (.invokestatic index) mk argsL.toArray X₁ hg hsize hdg hW (X₁.named hnamed) (hpre vm₁ X₁.warmed)
  exact ⟨v, vm₁, B, X₁.warmed, X', hpost, fun target h => hstep₁ _ fun acts => by rw [doInvoke_state]; exact hsteps.trans h⟩
theorem vx_runSW {y : MethodName} {bytes cc : ByteArray} {maxL nL mc ms n index : Nat} {ret : Option FieldType} {hh : List (Nat × Nat × Nat × Nat)} {ws : List Cond} {rm : Room} {Pc : Array Value → State → Prop} {Qc : Array Value → State → Outcome → State → Prop} {free : Addr → Prop} {Ts : List Cond} {own : String} {As rest : List Value} {g : JFrame}
    (S : CallFix p m c cc nL s args Ts own) (hM : Met l y ws rm Pc Qc mc ms free) (cw : vx_CSW R s args own index y bytes maxL ret hh ws rm mc ms n) (hp : PreS s H Pc As)
    (hg : g.method = m) (hn : As.length = n) (hsize : g.locals.size = nL) (hstack : g.stack = As.reverse ++ rest) (hW : 2 * g.monitorRoom + (rest.map fun v => v.category).sum ≤ 8) (hdg : decode cc g.pc = .ok (.invokestatic index, 3)) (hf : cells + mc ≤ R.cells ∧ slots + ms ≤ R.slots) :
    va_Run p l e R s m args below meth c H locs cells slots mc ms g rest (Qc As.toArray) (free) := by
  obtain ⟨⟨hrc, hrs, hfr, hlo, hws, hcw⟩, hcode, hini, hy, hlen, hl, hstt⟩ := cw
  have hK : Back l R p e below s args y 3 8 (PreOf R mc ms Pc) (PostOf Qc mc ms free) := va_backW (hh := hh) (bytes := bytes) (maxL := maxL) (ret := ret) hM hp.1 hrc hrs hfr hlo hws hcw (fun a' U hW => word_at hW (Or.inl (by first | rfl | simp [Cond.onTables, Cond.keeps, Cond.steady])) hini)
  obtain ⟨hx, hb, hml, ho, -⟩ := S
  intro T hT X
  obtain ⟨v, vm₁, ⟨U', l2, c2, s2⟩, hW₁, X', ⟨g', mk, t, L, e1, e2, hq, h1, hL, h2, h3⟩, st⟩ := vx_callSW X hx (hh := hh) (bytes := bytes) (maxL := maxL) (ret := ret) ho hl hstt hini hcode hy hK hg (hsize.trans hml.symm) (argsL := As) (rest := rest) (fun sig h => hn.trans (hlen sig h)) hstack hW (by rw [hb]; exact hdg)
    (fun vm₁ hW₁ => ⟨hf.1, hf.2, hp.2 (T.setVm vm₁) hT hW₁⟩)
  dsimp only [Pt.U, Pt.locs, Pt.cells, Pt.slots] at X' e1 e2 h1 h2 h3 st
  subst h1; subst h2; subst h3
  exact ⟨v, (T.setVm vm₁).calling g' mk As.toArray, t, U', L, hT, X', hL, e1, e2, hq, st⟩
/-- not caught here, past rows that name other classes: it goes on to the caller -/
theorem vx_outP {p : Program} {l : Launch} {e : Env} {R : Room} {s : State} {m : MethodId} {args : Array Value} {below : List Frame} {meth : Method} {c : Code} {H : Heap} {locs : List Loc} {cells slots : Nat} {free : Addr → Prop} {ls : Array Slot} {rest : List Value} {Qc : Array Value → State → Outcome → State → Prop} {XC : String → State → State → Prop}
    {pc : Nat} {own E : String} {ce : Cell} {q : Addr} {mc ms : Nat} (hown : s.vm.findClass own = some m.cls) (hlocks : meth.locks = false)
    (hpass : ∀ z ∈ c.exceptionTable.toList, covers z pc = false ∨ (z.catchType ≠ 0 ∧ ∃ nm : String, (Cond.classLink own z.catchType nm).before args s = true ∧ va_Nc E nm s)) (hcell : H[q]? = some ce) (hv : ce.vm = .none) (hcl : s.vm.findClass E = some ce.cls)
    (hx : ∀ t : State, t.heap = H → s.vm.Alike t.vm → XC E s t) (hf : ∀ z ∈ locs, free z.base) (hc : cells ≤ mc) (hs : slots ≤ ms) :
    vx_W p l e R s m args below meth c H locs cells slots (vx_MQ below Qc XC args s mc ms free) (F0 m pc ls rest) q := by
  intro T hT X
  have hpl : e.platform.magicAccessors = ({} : Platform).magicAccessors := by rw [X.admits.platform]
  obtain ⟨vm', hW', X', st⟩ := X.outThrough hlocks q (g := F0 m pc ls rest) rfl rfl rfl (cell := ce) (by rw [hT]; exact hcell) (by rw [hv]; rfl)
    (by obtain ⟨k9, h9, -⟩ := Vm.findClass_spec hcl; exact ⟨k9, h9⟩) (fun z hz => by
      rcases hpass z hz with h | ⟨hz0, nm, hl1, hn1⟩
      · exact Or.inl h
      · obtain ⟨c6, hc6, hcl6⟩ := Cond.classLink_spec hown hl1 e.platform hpl
        obtain ⟨a8, b8, h1, h2, h3⟩ := hn1
        cases Option.some.inj (h1.symm.trans hcl)
        cases Option.some.inj (h2.symm.trans hc6)
        exact Or.inr ⟨hz0, _, hcl6, h3⟩)
  obtain ⟨g₀, hfr⟩ := X'.frames_eq
  have hcell9 : ((T.setVm vm').setFrames (.throwing q :: below)).heap[q]? = some ce := by
    show T.heap[q]? = some ce
    rw [hT]; exact hcell
  have hend : Ended ((T.setVm vm').setFrames (.throwing q :: below)) below (.threw q) := State.frames_setFrames _ (State.cur_lt_of_frames hfr)
  refine ⟨(T.setVm vm').setFrames (.throwing q :: below), ?_, .threw q, X'.here.running, hend, Or.inr ⟨q, rfl, E, ce, locs, hx _ hT (X'.ends _).1.alike, hcell9, hv, hcl, (X'.ends _).1, (X'.ends _).2.mono hc hs, hf⟩⟩
  rw [X.pushThrowing_eq]
  exact st
/-- a thing of a world lies in the heap -/
theorem vx_lt {D : va_G} {cl : List vw_C} {ws : va_W} {H1 : Heap} (h : va_P D cl ws H1) {k : Nat} {q : Nat × va_E} (hk : ws[k]? = some q) : q.1 < H1.size := (h k q hk).lt
end VXS
/-! ===== END ===== -/
/-! ===== BEGIN methods with a table of their own: called by a name, returning or throwing ===== -/
section VXH
/-! vx_backW, vx_callVX, vx_callSX, vx_callVW, vx_runVW, vx_runVX, vx_runSX, vx_ofWH follow the same proofs as their sisters above (Free/Laws.lean, Shelf42/LK1.lean); vx_outP calls Shelf42/NT130.lean (outThrough). -/
section
variable {l : Launch} {R : Room} {p : Program} {e : Env} {below : List Frame} {s : State} {sargs : Array Value} {y : MethodName} {len W9 : Nat}
theorem vx_backW {ws : List Cond} {rm : Room} {Pc : Array Value → State → Prop} {Qc : Array Value → State → Outcome → State → Prop} {XC : String → State → State → Prop} {mc ms : Nat} {free : Addr → Prop} {bytes : ByteArray} {maxL : Nat} {ret : Option FieldType} {hh : List (Nat × Nat × Nat × Nat)}
    (hM : vx_Met l y ws rm Pc Qc XC mc ms free) (hblind : FrameBlind Pc) (hrc : rm.cells = mc) (hrs : rm.slots = ms)
    (hframes : rm.frames + 1 ≤ R.frames) (hlocals : W9 + (maxL + 11) + rm.locals ≤ R.locals)
    (hws : ∀ w ∈ ws, ∀ a' U, s.WarmedH U.vm → w.before a' U = true) (hcode : Cond.codeWith y bytes maxL ret hh ∈ ws) (hinit : ∀ a' U, s.WarmedH U.vm → (Cond.initialized y.cls).before a' U = true) :
    vx_Back l R p e below s sargs y len W9 (PreOf R mc ms Pc) (PostOf Qc mc ms free) (vx_Post XC mc ms free) := by
  intro m meth c A g ig mk a X hg hsize hdg hW hn hp
  have h1 : (headSpec ws rm).pre.before a A.U = true := atoms_intro fun w hw => hws w hw _ _ X.warmed
  have h2 : (Cond.codeWith y bytes maxL ret hh).before a A.U = true := hws _ hcode _ _ X.warmed
  have h3 : (Cond.initialized y.cls).before a A.U = true := hinit _ _ X.warmed
  have h4 : A.cells + (headSpec ws rm).room.cells ≤ R.cells := by rw [show (headSpec ws rm).room.cells = mc from hrc]; exact hp.1
  have h5 : A.slots + (headSpec ws rm).room.slots ≤ R.slots := by rw [show (headSpec ws rm).room.slots = ms from hrs]; exact hp.2.1
  have hPc : Pc a (A.U.calling g mk a) := hblind _ _ _ _ hp.2.2
  obtain ⟨U, Ls, c0, s0⟩ := A
  dsimp only [Pt.U, Pt.locs, Pt.cells, Pt.slots] at h1 h2 h3 h4 h5 X hn hPc ⊢
  obtain ⟨m9, methY, cY, hn9, hmY, hcY, -, hlY, -⟩ := Cond.codeWith_spec h2
  cases Option.some.inj (hn9.symm.trans hn)
  obtain ⟨kY, hkY, -⟩ := className_of_methodNamed hn
  have hinitY : kY.init = .initialized := Cond.initialized_spec (findClass_of_methodNamed hn) hkY h3
  have h : At U g.method c below := by rw [hg]; exact X.here
  have hlocals9 : W9 + (maxL + 11) + (headSpec ws rm).room.locals ≤ R.locals := hlocals
  have happ : (headSpec ws rm).appliesLoose y e.platform (U.calling g mk a) = true :=
    Spec.appliesLoose_calling (g := g) h hdg hn hkY hinitY
      (X.room_calling (g := g) (R' := (headSpec ws rm).room) hsize hmY hcY hframes (by rw [hlY]; omega) h4 h5) h1
  obtain ⟨mid, hmid⟩ := h.above
  have hfr : (U.setTop g).frames = (.java g :: mid) ++ below := by rw [State.frames_setTop' g h.top, hmid]; rfl
  obtain ⟨o, s₂, hsteps, -, hend, hq⟩ := Steps.callFree hM p X.admits X.cas X.clock (acts := []) hfr happ hPc trivial
  have hq' : vx_Q Qc XC mc ms free a (U.calling g mk a) o s₂ := hq
  rw [State.frames_setTop' g h.top] at hend
  obtain ⟨g₀, hg0⟩ := Option.isSome_iff_exists.mp h.top
  obtain ⟨r, hr⟩ := State.topJava?_eq_some.mp hg0
  have hr' : (({ U with heap := s₂.heap, slotsUsed := s₂.slotsUsed } : State).setVm s₂.vm).frames = .java g₀ :: r := hr
  rcases hq' with ⟨hqc, L, hfe, hL⟩ | ⟨q, rfl, E, ce, L, hx, hce, hcv, hcl, hW₂, hsm, hL⟩
  · obtain ⟨⟨v, rfl⟩, hW₂, e2, q2, q3, q4, q5, q6⟩ := id hfe
    have e3 : s₂ = ({ (U.calling g mk a).setFrames s₂.frames with heap := s₂.heap, slotsUsed := s₂.slotsUsed } : State).setVm s₂.vm := by
      have : s₂ = ({ s₂ with vm := (U.calling g mk a).vm } : State).setVm s₂.vm := rfl
      rw [e2] at this
      exact this
    obtain ⟨c₂, i₂, len₂, hc₂, hd₂, hf₂⟩ := hend
    have hW' : U.WarmedH s₂.vm := hW₂
    have hcc : c₂ = c := by
      have h1 : s₂.code? g.method = U.code? g.method := by
        rw [State.code?_eq, State.code?_eq, hW'.alike.method?]
      exact Option.some.inj (hc₂.symm.trans (h1.trans h.code))
    subst hcc
    have hlen : len₂ = len := by rw [hdg] at hd₂; cases hd₂; rfl
    subst hlen
    have hs₂ : s₂ = (({ U with heap := s₂.heap, slotsUsed := s₂.slotsUsed } : State).setVm s₂.vm).setTop { g with pc := g.pc + len₂, stack := v.toList ++ g.stack } := by
      refine e3.trans ?_
      rw [hf₂, State.calling_eq h.top, State.setFrames_setFrames, State.setTop_of_frames _ hr', hr]
      rfl
    have hsame : U.sameButNew ({ U with heap := s₂.heap, slotsUsed := s₂.slotsUsed } : State) L mc ms := by
      refine ⟨?_, q2, q3, q4, q5, q6⟩
      obtain ⟨t, ht, -⟩ := State.frames_cons hr
      show ({ U with heap := s₂.heap, slotsUsed := s₂.slotsUsed } : State) = { U.setFrames U.frames with heap := s₂.heap, slotsUsed := s₂.slotsUsed }
      rw [State.setFrames_self ht]
    subst hg
    refine Or.inl ⟨v, ⟨(({ U with heap := s₂.heap, slotsUsed := s₂.slotsUsed } : State).setVm s₂.vm), Ls ++ L, c0 + mc, s0 + ms⟩,
      ⟨X.admits, X.cas, X.clock, X.frames, X.room, X.hears, X.method, X.code, (X.here.setHeapUsed s₂.heap s₂.slotsUsed).setVm hW'.alike, X.tail, State.WarmedH.trans X.warmed hW', X.limits, X.bytes, X.same.trans (hsame.setVm s.vm)⟩,
      ⟨g, mk, s₂, L, rfl, rfl, hqc, rfl, hL, rfl, rfl⟩, ?_⟩
    show Steps p.tables e below _ ((({ U with heap := s₂.heap, slotsUsed := s₂.slotsUsed } : State).setVm s₂.vm).setTop { g with pc := g.pc + len₂, stack := v.toList ++ g.stack })
    rw [← hs₂]
    exact hsteps
  · obtain ⟨e2, q2, q3, q4, q5, q6⟩ := id hsm
    have e3 : s₂ = ({ (U.calling g mk a).setFrames s₂.frames with heap := s₂.heap, slotsUsed := s₂.slotsUsed } : State).setVm s₂.vm := by
      have : s₂ = ({ s₂ with vm := (U.calling g mk a).vm } : State).setVm s₂.vm := rfl
      rw [e2] at this
      exact this
    have hf₂ : s₂.frames = .throwing q :: .java g :: U.frames.tail := hend
    have hW' : U.WarmedH s₂.vm := hW₂
    have hs₂ : s₂ = ((({ U with heap := s₂.heap, slotsUsed := s₂.slotsUsed } : State).setVm s₂.vm).setTop g).pushFrame (.throwing q) := by
      refine e3.trans ?_
      rw [hf₂, State.calling_eq h.top, State.setFrames_setFrames, State.pushFrame, State.frames_setTop _ hr', State.setTop_of_frames _ hr', State.setFrames_setFrames, hr]
      rfl
    have hsame : U.sameButNew ({ U with heap := s₂.heap, slotsUsed := s₂.slotsUsed } : State) L mc ms := by
      refine ⟨?_, q2, q3, q4, q5, q6⟩
      obtain ⟨t, ht, -⟩ := State.frames_cons hr
      show ({ U with heap := s₂.heap, slotsUsed := s₂.slotsUsed } : State) = { U.setFrames U.frames with heap := s₂.heap, slotsUsed := s₂.slotsUsed }
      rw [State.setFrames_self ht]
    subst hg
    refine Or.inr ⟨q, ⟨(({ U with heap := s₂.heap, slotsUsed := s₂.slotsUsed } : State).setVm s₂.vm), Ls ++ L, c0 + mc, s0 + ms⟩,
      ⟨X.admits, X.cas, X.clock, X.frames, X.room, X.hears, X.method, X.code, (X.here.setHeapUsed s₂.heap s₂.slotsUsed).setVm hW'.alike, X.tail, State.WarmedH.trans X.warmed hW', X.limits, X.bytes, X.same.trans (hsame.setVm s.vm)⟩,
      ⟨g, mk, s₂, L, E, ce, rfl, rfl, hx, hce, hcv, hcl, rfl, hL, rfl, rfl⟩, ?_⟩
    show Steps p.tables e below _ (((({ U with heap := s₂.heap, slotsUsed := s₂.slotsUsed } : State).setVm s₂.vm).setTop g).pushFrame (.throwing q))
    rw [← hs₂]
    exact hsteps
end
variable {p : Program} {l : Launch} {e : Env} {R : Room} {s : State} {m : MethodId} {args : Array Value} {below : List Frame} {meth : Method} {c : Code} {T : State} {H : Heap} {locs : List Loc} {cells slots : Nat}
theorem vx_callVX (X : Stand p l e R s m args below meth c T locs cells slots) (hexec : p.tables.exec = Jvm.exec) {own C : String} {index : Nat} {y : MethodName} {bytes : ByteArray} {maxL : Nat} {ret : Option FieldType} {hh : List (Nat × Nat × Nat × Nat)}
    (hown : s.vm.findClass own = some m.cls) (hlink : (Cond.methodLink own index y).before args s = true) (hinst : (Cond.instanceMethod y).before args s = true) (hsel : (Cond.selects C y y).before args s = true)
    (hcode : (Cond.codeWith y bytes maxL ret hh).before args s = true) (hy : y.cls ≠ "java/lang/invoke/MethodHandle" ∧ y.cls ≠ "java/lang/invoke/VarHandle")
    {W9 : Nat} {Pre : Pt → Array Value → Prop} {Post : Pt → Array Value → Option Value → Pt → Prop} {PostX : Pt → Array Value → Addr → Pt → Prop} (hK : vx_Back l R p e below s args y 3 W9 Pre Post PostX)
    {b : Addr} {cellB : Cell} (hcell : T.heap[b]? = some cellB) (hobj : cellB.vm.isStatics = false) (hcls : s.vm.findClass C = some cellB.cls)
    {g : JFrame} (hg : g.method = m) (hsize : g.locals.size = c.maxLocals) {argsL rest : List Value} (hlen : ∀ sig, parseMethodDescriptor y.desc = some sig → argsL.length = sig.parameters.length)
    (hstack : g.stack = argsL.reverse ++ .ref b :: rest) (hW : 2 * g.monitorRoom + (rest.map fun v => v.category).sum ≤ W9) (hdg : decode c.code g.pc = .ok (.invokevirtual index, 3))
    (hpre : ∀ vm₁, s.WarmedH vm₁ → Pre ⟨T.setVm vm₁, locs, cells, slots⟩ (Value.ref b :: argsL).toArray) :
    (∃ (v : Option Value) (vm₁ : Vm) (B : Pt), s.WarmedH vm₁ ∧ Stand p l e R s m args below meth c B.U B.locs B.cells B.slots ∧ Post ⟨T.setVm vm₁, locs, cells, slots⟩ (Value.ref b :: argsL).toArray v B ∧
      ∀ target, Steps p.tables e below (B.U.setTop { g with pc := g.pc + 3, stack := v.toList ++ rest }) target → Steps p.tables e below (T.setTop g) target) ∨
    (∃ (q : Addr) (vm₁ : Vm) (B : Pt), s.WarmedH vm₁ ∧ Stand p l e R s m args below meth c B.U B.locs B.cells B.slots ∧ PostX ⟨T.setVm vm₁, locs, cells, slots⟩ (Value.ref b :: argsL).toArray q B ∧
      Steps p.tables e below (T.setTop g) ((B.U.setTop { g with stack := rest }).pushFrame (.throwing q))) := by
  obtain ⟨mk, methM, hnamed, hmethM, hstM, habM⟩ := Cond.instanceMethod_spec hinst
  obtain ⟨m8, methM', cM, hn8, hmethM', -, -, -, -, -, -, hsigM⟩ := Cond.codeWith_spec hcode
  cases Option.some.inj (hn8.symm.trans hnamed)
  cases hmethM.symm.trans hmethM'
  obtain ⟨c2, r2, m2, q1, q2, q3, q4, kP, hkP, hkPi⟩ := Cond.selects_spec hsel
  cases hcls.symm.trans q1
  cases (State.methodFound?_of_named hnamed hy).symm.trans q2
  cases hnamed.symm.trans q3
  have hselP : selectMethod e.platform s.vm cellB.cls mk = .method mk := by rw [Launch.admits_selectMethod X.admits]; exact q4
  obtain ⟨vm₁, X₁, hstep₁⟩ := X.invokevirtual hexec hown hlink hnamed hmethM hstM hkP hkPi hy (a := b) (cell := cellB) hcell
    (fun z h => by rw [h] at hobj; cases hobj) hselP hmethM habM hkP hkPi (g := g) hg (argsL := argsL) (rest := rest) (hlen _ hsigM) hstack hdg
  rcases hK m meth c ⟨T.setVm vm₁, locs, cells, slots⟩ { g with stack := rest } (.invokevirtual index) mk (Value.ref b :: argsL).toArray X₁ hg hsize hdg hW (X₁.named hnamed) (hpre vm₁ X₁.warmed) with ⟨v, B, X', hpost, hsteps⟩ | ⟨q, B, X', hpost, hsteps⟩
  · exact Or.inl ⟨v, vm₁, B, X₁.warmed, X', hpost, fun target h => hstep₁ _ fun acts => by rw [doInvoke_state]; exact hsteps.trans h⟩
  · exact Or.inr ⟨q, vm₁, B, X₁.warmed, X', hpost, hstep₁ _ fun acts => by rw [doInvoke_state]; exact hsteps⟩
theorem vx_callSX (X : Stand p l e R s m args below meth c T locs cells slots) (hexec : p.tables.exec = Jvm.exec) {own : String} {index : Nat} {y : MethodName} {bytes : ByteArray} {maxL : Nat} {ret : Option FieldType} {hh : List (Nat × Nat × Nat × Nat)}
    (hown : s.vm.findClass own = some m.cls) (hlink : (Cond.methodLink own index y).before args s = true) (hstat : (Cond.static y).before args s = true) (hinit : (Cond.initialized y.cls).before args s = true)
    (hcode : (Cond.codeWith y bytes maxL ret hh).before args s = true) (hy : y.cls ≠ "java/lang/invoke/MethodHandle" ∧ y.cls ≠ "java/lang/invoke/VarHandle")
    {W9 : Nat} {Pre : Pt → Array Value → Prop} {Post : Pt → Array Value → Option Value → Pt → Prop} {PostX : Pt → Array Value → Addr → Pt → Prop} (hK : vx_Back l R p e below s args y 3 W9 Pre Post PostX)
    {g : JFrame} (hg : g.method = m) (hsize : g.locals.size = c.maxLocals) {argsL rest : List Value} (hlen : ∀ sig, parseMethodDescriptor y.desc = some sig → argsL.length = sig.parameters.length)
    (hstack : g.stack = argsL.reverse ++ rest) (hW : 2 * g.monitorRoom + (rest.map fun v => v.category).sum ≤ W9) (hdg : decode c.code g.pc = .ok (.invokestatic index, 3))
    (hpre : ∀ vm₁, s.WarmedH vm₁ → Pre ⟨T.setVm vm₁, locs, cells, slots⟩ argsL.toArray) :
    (∃ (v : Option Value) (vm₁ : Vm) (B : Pt), s.WarmedH vm₁ ∧ Stand p l e R s m args below meth c B.U B.locs B.cells B.slots ∧ Post ⟨T.setVm vm₁, locs, cells, slots⟩ argsL.toArray v B ∧
      ∀ target, Steps p.tables e below (B.U.setTop { g with pc := g.pc + 3, stack := v.toList ++ rest }) target → Steps p.tables e below (T.setTop g) target) ∨
    (∃ (q : Addr) (vm₁ : Vm) (B : Pt), s.WarmedH vm₁ ∧ Stand p l e R s m args below meth c B.U B.locs B.cells B.slots ∧ PostX ⟨T.setVm vm₁, locs, cells, slots⟩ argsL.toArray q B ∧
      Steps p.tables e below (T.setTop g) ((B.U.setTop { g with stack := rest }).pushFrame (.throwing q))) := by
  obtain ⟨mk, methM, cM, hnamed, hmethM, -, -, -, -, -, -, hsigM⟩ := Cond.codeWith_spec hcode
  have hstatic : methM.isStatic = true := Cond.static_spec hnamed hmethM hstat
  obtain ⟨kP, hkP, -⟩ := className_of_methodNamed hnamed
  have hinitP : kP.init = .initialized := Cond.initialized_spec (findClass_of_methodNamed hnamed) hkP hinit
  obtain ⟨vm₁, X₁, hstep₁⟩ := X.invokestatic hexec hown hlink hnamed hmethM hstatic hkP hinitP hy (g := g) hg (argsL := argsL) (rest := rest) (hlen _ hsigM) hstack hdg
  rcases hK m meth c ⟨T.setVm vm₁, locs, cells, slots⟩ { g with stack := rest } (.invokestatic index) mk argsL.toArray X₁ hg hsize hdg hW (X₁.named hnamed) (hpre vm₁ X₁.warmed) with ⟨v, B, X', hpost, hsteps⟩ | ⟨q, B, X', hpost, hsteps⟩
  · exact Or.inl ⟨v, vm₁, B, X₁.warmed, X', hpost, fun target h => hstep₁ _ fun acts => by rw [doInvoke_state]; exact hsteps.trans h⟩
  · exact Or.inr ⟨q, vm₁, B, X₁.warmed, X', hpost, hstep₁ _ fun acts => by rw [doInvoke_state]; exact hsteps⟩
theorem vx_callVW (X : Stand p l e R s m args below meth c T locs cells slots) (hexec : p.tables.exec = Jvm.exec) {own C : String} {index : Nat} {y : MethodName} {bytes : ByteArray} {maxL : Nat} {ret : Option FieldType} {hh : List (Nat × Nat × Nat × Nat)}
    (hown : s.vm.findClass own = some m.cls) (hlink : (Cond.methodLink own index y).before args s = true) (hinst : (Cond.instanceMethod y).before args s = true) (hsel : (Cond.selects C y y).before args s = true)
    (hcode : (Cond.codeWith y bytes maxL ret hh).before args s = true) (hy : y.cls ≠ "java/lang/invoke/MethodHandle" ∧ y.cls ≠ "java/lang/invoke/VarHandle")
    {W9 : Nat} {Pre : Pt → Array Value → Prop} {Post : Pt → Array Value → Option Value → Pt → Prop} (hK : Back l R p e below s args y 3 W9 Pre Post)
    {b : Addr} {cellB : Cell} (hcell : T.heap[b]? = some cellB) (hobj : cellB.vm.isStatics = false) (hcls : s.vm.findClass C = some cellB.cls)
    {g : JFrame} (hg : g.method = m) (hsize : g.locals.size = c.maxLocals) {argsL rest : List Value} (hlen : ∀ sig, parseMethodDescriptor y.desc = some sig → argsL.length = sig.parameters.length)
    (hstack : g.stack = argsL.reverse ++ .ref b :: rest) (hW : 2 * g.monitorRoom + (rest.map fun v => v.category).sum ≤ W9) (hdg : decode c.code g.pc = .ok (.invokevirtual index, 3))
    (hpre : ∀ vm₁, s.WarmedH vm₁ → Pre ⟨T.setVm vm₁, locs, cells, slots⟩ (Value.ref b :: argsL).toArray) :
    ∃ (v : Option Value) (vm₁ : Vm) (B : Pt), s.WarmedH vm₁ ∧ Stand p l e R s m args below meth c B.U B.locs B.cells B.slots ∧ Post ⟨T.setVm vm₁, locs, cells, slots⟩ (Value.ref b :: argsL).toArray v B ∧
      ∀ target, Steps p.tables e below (B.U.setTop { g with pc := g.pc + 3, stack := v.toList ++ rest }) target → Steps p.tables e below (T.setTop g) target := by
  obtain ⟨mk, methM, hnamed, hmethM, hstM, habM⟩ := Cond.instanceMethod_spec hinst
  obtain ⟨m8, methM', cM, hn8, hmethM', -, -, -, -, -, -, hsigM⟩ := Cond.codeWith_spec hcode
  cases Option.some.inj (hn8.symm.trans hnamed)
  cases hmethM.symm.trans hmethM'
  obtain ⟨c2, r2, m2, q1, q2, q3, q4, kP, hkP, hkPi⟩ := Cond.selects_spec hsel
  cases hcls.symm.trans q1
  cases (State.methodFound?_of_named hnamed hy).symm.trans q2
  cases hnamed.symm.trans q3
  have hselP : selectMethod e.platform s.vm cellB.cls mk = .method mk := by rw [Launch.admits_selectMethod X.admits]; exact q4
  obtain ⟨vm₁, X₁, hstep₁⟩ := X.invokevirtual hexec hown hlink hnamed hmethM hstM hkP hkPi hy (a := b) (cell := cellB) hcell
    (fun z h => by rw [h] at hobj; cases hobj) hselP hmethM habM hkP hkPi (g := g) hg (argsL := argsL) (rest := rest) (hlen _ hsigM) hstack hdg
  obtain ⟨v, B, X', hpost, hsteps⟩ := hK m meth c ⟨T.setVm vm₁, locs, cells, slots⟩ { g with stack := rest } (.invokevirtual index) mk (Value.ref b :: argsL).toArray X₁ hg hsize hdg hW (X₁.named hnamed) (hpre vm₁ X₁.warmed)
  exact ⟨v, vm₁, B, X₁.warmed, X', hpost, fun target h => hstep₁ _ fun acts => by rw [doInvoke_state]; exact hsteps.trans h⟩
abbrev vx_CVW (R : Room) (s : State) (args : Array Value) (own C : String) (index : Nat) (y : MethodName) (bytes : ByteArray) (maxL : Nat) (ret : Option FieldType) (hh : List (Nat × Nat × Nat × Nat)) (ws : List Cond) (rm : Room) (mc ms n : Nat) : Prop :=
  (rm.cells = mc ∧ rm.slots = ms ∧ rm.frames + 1 ≤ R.frames ∧ 8 + (maxL + 11) + rm.locals ≤ R.locals ∧ (∀ w ∈ ws, ∀ (a' : Array Value) (U : State), s.WarmedH U.vm → w.before a' U = true) ∧ Cond.codeWith y bytes maxL ret hh ∈ ws) ∧
  (Cond.codeWith y bytes maxL ret hh).before args s = true ∧ (Cond.initialized y.cls).before args s = true ∧ (y.cls ≠ "java/lang/invoke/MethodHandle" ∧ y.cls ≠ "java/lang/invoke/VarHandle") ∧
  (∀ sig, parseMethodDescriptor y.desc = some sig → n = sig.parameters.length) ∧ (Cond.methodLink own index y).before args s = true ∧ (Cond.instanceMethod y).before args s = true ∧ (Cond.selects C y y).before args s = true
theorem vx_cwVW {own C : String} {index maxL mc ms : Nat} {y : MethodName} {bytes : ByteArray} {ret : Option FieldType} {hh : List (Nat × Nat × Nat × Nat)} {Ts ws ws' : List Cond} {rm : Room} (n : Nat) (ht : ∀ w ∈ Ts, w.before args s = true) (hT : GoodIn Ts (wsV own index C y ws)) (hw : ws = Cond.codeWith y bytes maxL ret hh :: ws') (hrc : rm.cells = mc) (hrs : rm.slots = ms)
    (hd : y.cls = C ∧ y.cls ≠ "java/lang/invoke/MethodHandle" ∧ y.cls ≠ "java/lang/invoke/VarHandle" ∧ (parseMethodDescriptor y.desc).map (fun d => d.parameters.length) = some n) (hR : rm.frames + 1 ≤ R.frames ∧ 8 + (maxL + 11) + rm.locals ≤ R.locals) :
    vx_CVW R s args own C index y bytes maxL ret hh ws rm mc ms n := by
  obtain ⟨hC, hd⟩ := hd
  subst hC
  have ok : ∀ w ∈ wsV own index y.cls y ws, w.before args s = true := fun w h => ht w (hT w h).1
  have hG : GoodIn Ts ws := fun w h => hT w (by unfold wsV; exact List.mem_append_right _ h)
  have hc : Cond.codeWith y bytes maxL ret hh ∈ ws := by rw [hw]; exact List.mem_cons_self
  refine ⟨⟨hrc, hrs, hR.1, hR.2, pay_in ht hG, hc⟩, ht _ (hG _ hc).1, ok _ (by simp [wsV]), ⟨hd.1, hd.2.1⟩, fun sig h => ?_, ok _ (by simp [wsV]), ok _ (by simp [wsV]), ok _ (by simp [wsV])⟩
  have h2 := hd.2.2
  rw [h] at h2
  exact (Option.some.inj h2).symm
theorem vx_runVW {y : MethodName} {bytes cc : ByteArray} {maxL nL mc ms n index : Nat} {ret : Option FieldType} {hh : List (Nat × Nat × Nat × Nat)} {ws : List Cond} {rm : Room} {Pc : Array Value → State → Prop} {Qc : Array Value → State → Outcome → State → Prop} {free : Addr → Prop} {Ts : List Cond} {own C : String} {b : Addr} {As rest : List Value} {g : JFrame}
    (S : CallFix p m c cc nL s args Ts own) (hM : Met l y ws rm Pc Qc mc ms free) (cw : vx_CVW R s args own C index y bytes maxL ret hh ws rm mc ms n) (hp : PreV s H C b Pc As)
    (hg : g.method = m) (hn : As.length = n) (hsize : g.locals.size = nL) (hstack : g.stack = As.reverse ++ .ref b :: rest) (hW : 2 * g.monitorRoom + (rest.map fun v => v.category).sum ≤ 8) (hdg : decode cc g.pc = .ok (.invokevirtual index, 3)) (hf : cells + mc ≤ R.cells ∧ slots + ms ≤ R.slots) :
    va_Run p l e R s m args below meth c H locs cells slots mc ms g rest (Qc (Value.ref b :: As).toArray) free := by
  obtain ⟨⟨hrc, hrs, hfr, hlo, hws, hcw⟩, hcode, hini, hy, hlen, hl, hin, hse⟩ := cw
  have hK : Back l R p e below s args y 3 8 (PreOf R mc ms Pc) (PostOf Qc mc ms free) := va_backW (hh := hh) (bytes := bytes) (maxL := maxL) (ret := ret) hM hp.1 hrc hrs hfr hlo hws hcw (fun a' U hW => word_at hW (Or.inl (by first | rfl | simp [Cond.onTables, Cond.keeps, Cond.steady])) hini)
  obtain ⟨hx, hb, hml, ho, -⟩ := S
  obtain ⟨-, ⟨cellB, hcB, hoB, hclB⟩, hPc⟩ := hp
  intro T hT X
  obtain ⟨v, vm₁, ⟨U', l2, c2, s2⟩, hW₁, X', ⟨g', mk, t, L, e1, e2, hq, h1, hL, h2, h3⟩, st⟩ := vx_callVW X hx (C := C) (hh := hh) (bytes := bytes) (maxL := maxL) (ret := ret) ho hl hin hse hcode hy hK (by rw [hT]; exact hcB) hoB hclB hg (hsize.trans hml.symm) (argsL := As) (rest := rest) (fun sig h => hn.trans (hlen sig h)) hstack hW (by rw [hb]; exact hdg)
    (fun vm₁ hW₁ => ⟨hf.1, hf.2, hPc (T.setVm vm₁) hT hW₁⟩)
  dsimp only [Pt.U, Pt.locs, Pt.cells, Pt.slots] at X' e1 e2 h1 h2 h3 st
  subst h1; subst h2; subst h3
  exact ⟨v, (T.setVm vm₁).calling g' mk (Value.ref b :: As).toArray, t, U', L, hT, X', hL, e1, e2, hq, st⟩
section
variable {y : MethodName} {bytes cc : ByteArray} {maxL nL mc ms n index : Nat} {ret : Option FieldType} {ws : List Cond} {rm : Room} {Pc : Array Value → State → Prop} {Qc : Array Value → State → Outcome → State → Prop} {XC : String → State → State → Prop} {free : Addr → Prop} {Ts : List Cond} {own C : String} {b : Addr} {As rest : List Value} {g : JFrame}
theorem vx_runVX {hh : List (Nat × Nat × Nat × Nat)} (S : CallFix p m c cc nL s args Ts own) (hM : vx_Met l y ws rm Pc Qc XC mc ms free) (cw : vx_CVW R s args own C index y bytes maxL ret hh ws rm mc ms n) (hp : PreV s H C b Pc As)
    (hg : g.method = m) (hn : As.length = n) (hsize : g.locals.size = nL) (hstack : g.stack = As.reverse ++ .ref b :: rest) (hW : 2 * g.monitorRoom + (rest.map fun v => v.category).sum ≤ 8) (hdg : decode cc g.pc = .ok (.invokevirtual index, 3)) (hf : cells + mc ≤ R.cells ∧ slots + ms ≤ R.slots) :
    vx_Run p l e R s m args below meth c H locs cells slots mc ms g rest (Qc (Value.ref b :: As).toArray) XC free := by
  obtain ⟨⟨hrc, hrs, hfr, hlo, hws, hcw⟩, hcode, hini, hy, hlen, hl, hin, hse⟩ := cw
  have hK : vx_Back l R p e below s args y 3 8 (PreOf R mc ms Pc) (PostOf Qc mc ms free) (vx_Post XC mc ms free) := vx_backW (hh := hh) (bytes := bytes) (maxL := maxL) (ret := ret) hM hp.1 hrc hrs hfr hlo hws hcw (fun a' U hW => word_at hW (Or.inl (by first | rfl | simp [Cond.onTables, Cond.keeps, Cond.steady])) hini)
  obtain ⟨hx, hb, hml, ho, -⟩ := S
  obtain ⟨-, ⟨cellB, hcB, hoB, hclB⟩, hPc⟩ := hp
  intro T hT X
  rcases vx_callVX X hx (C := C) (hh := hh) (bytes := bytes) (maxL := maxL) (ret := ret) ho hl hin hse hcode hy hK (by rw [hT]; exact hcB) hoB hclB hg (hsize.trans hml.symm) (argsL := As) (rest := rest) (fun sig h => hn.trans (hlen sig h)) hstack hW (by rw [hb]; exact hdg)
    (fun vm₁ hW₁ => ⟨hf.1, hf.2, hPc (T.setVm vm₁) hT hW₁⟩) with ⟨v, vm₁, ⟨U', l2, c2, s2⟩, hW₁, X', ⟨g', mk, t, L, e1, e2, hq, h1, hL, h2, h3⟩, st⟩ | ⟨q, vm₁, ⟨U', l2, c2, s2⟩, hW₁, X', ⟨g', mk, t, L, E, ce, e1, e2, hq, hce, hcv, hcl, h1, hL, h2, h3⟩, st⟩
  · dsimp only [Pt.U, Pt.locs, Pt.cells, Pt.slots] at X' e1 e2 h1 h2 h3 st
    subst h1; subst h2; subst h3
    exact Or.inl ⟨v, (T.setVm vm₁).calling g' mk (Value.ref b :: As).toArray, t, U', L, hT, X', hL, e1, e2, hq, st⟩
  · dsimp only [Pt.U, Pt.locs, Pt.cells, Pt.slots] at X' e1 e2 h1 h2 h3 st hcl
    subst h1; subst h2; subst h3
    exact Or.inr ⟨q, (T.setVm vm₁).calling g' mk (Value.ref b :: As).toArray, t, U', L, E, ce, hT, X', hL, e1, e2, hq, hce, hcv, vx_cls hW₁ hcl, st⟩
theorem vx_runSX {hh : List (Nat × Nat × Nat × Nat)} (S : CallFix p m c cc nL s args Ts own) (hM : vx_Met l y ws rm Pc Qc XC mc ms free) (cw : vx_CSW R s args own index y bytes maxL ret hh ws rm mc ms n) (hp : PreS s H Pc As)
    (hg : g.method = m) (hn : As.length = n) (hsize : g.locals.size = nL) (hstack : g.stack = As.reverse ++ rest) (hW : 2 * g.monitorRoom + (rest.map fun v => v.category).sum ≤ 8) (hdg : decode cc g.pc = .ok (.invokestatic index, 3)) (hf : cells + mc ≤ R.cells ∧ slots + ms ≤ R.slots) :
    vx_Run p l e R s m args below meth c H locs cells slots mc ms g rest (Qc As.toArray) XC free := by
  obtain ⟨⟨hrc, hrs, hfr, hlo, hws, hcw⟩, hcode, hini, hy, hlen, hl, hstt⟩ := cw
  have hK : vx_Back l R p e below s args y 3 8 (PreOf R mc ms Pc) (PostOf Qc mc ms free) (vx_Post XC mc ms free) := vx_backW (hh := hh) (bytes := bytes) (maxL := maxL) (ret := ret) hM hp.1 hrc hrs hfr hlo hws hcw (fun a' U hW => word_at hW (Or.inl (by first | rfl | simp [Cond.onTables, Cond.keeps, Cond.steady])) hini)
  obtain ⟨hx, hb, hml, ho, -⟩ := S
  intro T hT X
  rcases vx_callSX X hx (hh := hh) (bytes := bytes) (maxL := maxL) (ret := ret) ho hl hstt hini hcode hy hK hg (hsize.trans hml.symm) (argsL := As) (rest := rest) (fun sig h => hn.trans (hlen sig h)) hstack hW (by rw [hb]; exact hdg)
    (fun vm₁ hW₁ => ⟨hf.1, hf.2, hp.2 (T.setVm vm₁) hT hW₁⟩) with ⟨v, vm₁, ⟨U', l2, c2, s2⟩, hW₁, X', ⟨g', mk, t, L, e1, e2, hq, h1, hL, h2, h3⟩, st⟩ | ⟨q, vm₁, ⟨U', l2, c2, s2⟩, hW₁, X', ⟨g', mk, t, L, E, ce, e1, e2, hq, hce, hcv, hcl, h1, hL, h2, h3⟩, st⟩
  · dsimp only [Pt.U, Pt.locs, Pt.cells, Pt.slots] at X' e1 e2 h1 h2 h3 st
    subst h1; subst h2; subst h3
    exact Or.inl ⟨v, (T.setVm vm₁).calling g' mk As.toArray, t, U', L, hT, X', hL, e1, e2, hq, st⟩
  · dsimp only [Pt.U, Pt.locs, Pt.cells, Pt.slots] at X' e1 e2 h1 h2 h3 st hcl
    subst h1; subst h2; subst h3
    exact Or.inr ⟨q, (T.setVm vm₁).calling g' mk As.toArray, t, U', L, E, ce, hT, X', hL, e1, e2, hq, hce, hcv, vx_cls hW₁ hcl, st⟩
end
end VXH
theorem vx_ofWH {l : Launch} {y : MethodName} {ws ws' : List Cond} {rm : Room} {Pc : Array Value → State → Prop} {Qc : Array Value → State → Outcome → State → Prop} {XC : String → State → State → Prop} {mc ms : Nat} {free : Addr → Prop} {cc : ByteArray} {maxL : Nat} {ret : Option FieldType} {hh : List (Nat × Nat × Nat × Nat)}
    (hy : plainName y.cls = true) (hw : ws = Cond.codeWith y cc maxL ret hh :: ws')
    (body : ∀ p e s m args below meth c s₁, BodyLoose p l y (headSpec ws rm) cc maxL ret e s m args below meth c s₁ → c.maxLocals = maxL → Pc args s →
      W p l e (headSpec ws rm).room s m args below meth c s.heap [] 0 0 (vx_MQ below Qc XC args s mc ms free) (entryFrame m args maxL)) : vx_Met l y ws rm Pc Qc XC mc ms free := by
  refine MetFree.of_bodyS (code := cc) (maxLocals := maxL) (ret := ret) hy ?_ ?_
  · intro args s m h hn
    obtain ⟨m9, meth, c, hn9, h1, h2, h3, h4, -, h5, h6, -⟩ := Cond.codeWith_spec (atoms_spec (ws := ws) h _ (by rw [hw]; exact List.mem_cons_self))
    cases hn.symm.trans hn9
    exact ⟨meth, c, h1, h2, h3, h4, h5, h6⟩
  · intro p e s m args below meth c s₁ B hml hP _
    have hh0 : s₁.heap = s.heap := by rw [B.state]; rfl
    obtain ⟨t, a1, o, b1, b2, b3⟩ := body p e s m args below meth c s₁ B hml hP s₁ hh0 (Stand.of_body B)
    exact ⟨t, o, a1, b1, b2, b3⟩
/-! ===== END ===== -/
end
section
def RX0 : String := "FloatSolver$ClaimStack"
def RX1 : String := "FloatSolver$Numbers"
def RX2 : String := "FloatSolver$Shapes"
def RX3 : String := "FloatSolver$TermTable"
def RX4 : String := "FloatSolver"
def RX5 : String := "FloatSolverModel"
def RL : String := "FloatSolverLaw"
def TX0 : u_T := fun k => match k with
  | 0 => ("FloatSolver$ClaimStack", "claimed", "[I", true)
  | 1 => ("FloatSolver$ClaimStack", "starts", "[I", true)
  | 2 => ("FloatSolver$ClaimStack", "size", "I", false)
  | _ => ("FloatSolver$ClaimStack", "highest", "I", false)
def tyX0 : Nat → FieldType := fun k => match k with
  | 0 => .array .int
  | 1 => .array .int
  | 2 => .int
  | _ => .int
theorem nmX0 : ∀ a, a < 4 → ∀ b, b < 4 → a ≠ b → (TX0 a).2.1 ≠ (TX0 b).2.1 := by decide +kernel
theorem tyX0_ok : ∀ k, k < 4 → parseFieldDescriptor (TX0 k).2.2.1 = some (tyX0 k) := by decide +kernel
def TX3 : u_T := fun k => match k with
  | 0 => ("FloatSolver$TermTable", "kinds", "[I", true)
  | 1 => ("FloatSolver$TermTable", "firsts", "[I", true)
  | 2 => ("FloatSolver$TermTable", "seconds", "[I", true)
  | 3 => ("FloatSolver$TermTable", "thirds", "[I", true)
  | 4 => ("FloatSolver$TermTable", "parts", "[I", true)
  | 5 => ("FloatSolver$TermTable", "varying", "[I", true)
  | 6 => ("FloatSolver$TermTable", "answers", "[I", true)
  | _ => ("FloatSolver$TermTable", "size", "I", false)
def tyX3 : Nat → FieldType := fun k => match k with
  | 0 => .array .int
  | 1 => .array .int
  | 2 => .array .int
  | 3 => .array .int
  | 4 => .array .int
  | 5 => .array .int
  | 6 => .array .int
  | _ => .int
theorem nmX3 : ∀ a, a < 8 → ∀ b, b < 8 → a ≠ b → (TX3 a).2.1 ≠ (TX3 b).2.1 := by decide +kernel
theorem tyX3_ok : ∀ k, k < 8 → parseFieldDescriptor (TX3 k).2.2.1 = some (tyX3 k) := by decide +kernel
def TX4 : u_T := fun k => match k with
  | 0 => ("FloatSolver", "table", "LFloatSolver$TermTable;", true)
  | 1 => ("FloatSolver", "stack", "LFloatSolver$ClaimStack;", true)
  | 2 => ("FloatSolver", "found", "[I", true)
  | 3 => ("FloatSolver", "modelStands", "Z", false)
  | _ => ("FloatSolver", "checkCount", "I", false)
def tyX4 : Nat → FieldType := fun k => match k with
  | 0 => .object "FloatSolver$TermTable"
  | 1 => .object "FloatSolver$ClaimStack"
  | 2 => .array .int
  | 3 => .boolean
  | _ => .int
theorem nmX4 : ∀ a, a < 5 → ∀ b, b < 5 → a ≠ b → (TX4 a).2.1 ≠ (TX4 b).2.1 := by decide +kernel
theorem tyX4_ok : ∀ k, k < 5 → parseFieldDescriptor (TX4 k).2.2.1 = some (tyX4 k) := by decide +kernel
def TX5 : u_T := fun k => match k with
  | 0 => ("FloatSolverModel", "thrown", "I", false)
  | 1 => ("FloatSolverModel", "terms", "I", false)
  | 2 => ("FloatSolverModel", "kindOf", "[I", true)
  | 3 => ("FloatSolverModel", "first", "[I", true)
  | 4 => ("FloatSolverModel", "second", "[I", true)
  | 5 => ("FloatSolverModel", "third", "[I", true)
  | 6 => ("FloatSolverModel", "claims", "I", false)
  | 7 => ("FloatSolverModel", "claimed", "[I", true)
  | 8 => ("FloatSolverModel", "level", "I", false)
  | 9 => ("FloatSolverModel", "under", "[I", true)
  | 10 => ("FloatSolverModel", "checks", "I", false)
  | 11 => ("FloatSolverModel", "found", "Z", false)
  | 12 => ("FloatSolverModel", "numbers", "[I", true)
  | _ => ("FloatSolverModel", "worth", "[I", true)
def tyX5 : Nat → FieldType := fun k => match k with
  | 0 => .int
  | 1 => .int
  | 2 => .array .int
  | 3 => .array .int
  | 4 => .array .int
  | 5 => .array .int
  | 6 => .int
  | 7 => .array .int
  | 8 => .int
  | 9 => .array .int
  | 10 => .int
  | 11 => .boolean
  | 12 => .array .int
  | _ => .array .int
theorem nmX5 : ∀ a, a < 14 → ∀ b, b < 14 → a ≠ b → (TX5 a).2.1 ≠ (TX5 b).2.1 := by decide +kernel
theorem tyX5_ok : ∀ k, k < 14 → parseFieldDescriptor (TX5 k).2.2.1 = some (tyX5 k) := by decide +kernel
abbrev vwCl : List vw_C := [(RX0, TX0, 4), (RX3, TX3, 8), (RX4, TX4, 5), (RX5, TX5, 14)]
abbrev cX4_init : ByteArray := prog_1_method_1_code
def yX4_init : MethodName := ⟨RX4, "<init>", "()V"⟩
abbrev cX3_init : ByteArray := prog_5_method_1_code
def yX3_init : MethodName := ⟨RX3, "<init>", "()V"⟩
abbrev cX0_init : ByteArray := prog_2_method_1_code
def yX0_init : MethodName := ⟨RX0, "<init>", "()V"⟩
abbrev cX4_check : ByteArray := prog_1_method_6_code
def yX4_check : MethodName := ⟨RX4, "check", "()Z"⟩
abbrev cX4_search : ByteArray := prog_1_method_14_code
def yX4_search : MethodName := ⟨RX4, "search", "()Z"⟩
abbrev cX0_claimedTerms : ByteArray := prog_2_method_8_code
def yX0_claimedTerms : MethodName := ⟨RX0, "claimedTerms", "()I"⟩
abbrev cX3_partsOf : ByteArray := prog_5_method_14_code
def yX3_partsOf : MethodName := ⟨RX3, "partsOf", "(I)I"⟩
abbrev cX3_varyingWith : ByteArray := prog_5_method_13_code
def yX3_varyingWith : MethodName := ⟨RX3, "varyingWith", "(I)I"⟩
abbrev cX3_allHold : ByteArray := prog_5_method_15_code
def yX3_allHold : MethodName := ⟨RX3, "allHold", "(IIII)Z"⟩
abbrev cX3_workOut : ByteArray := prog_5_method_17_code
def yX3_workOut : MethodName := ⟨RX3, "workOut", "(III)I"⟩
abbrev cX1_operate : ByteArray := prog_3_method_4_code
def yX1_operate : MethodName := ⟨RX1, "operate", "(III)I"⟩
abbrev cX1_negate : ByteArray := prog_3_method_10_code
def yX1_negate : MethodName := ⟨RX1, "negate", "(I)I"⟩
abbrev cX1_add : ByteArray := prog_3_method_11_code
def yX1_add : MethodName := ⟨RX1, "add", "(II)I"⟩
abbrev cX1_isNan : ByteArray := prog_3_method_5_code
def yX1_isNan : MethodName := ⟨RX1, "isNan", "(I)Z"⟩
abbrev cX1_isInfinite : ByteArray := prog_3_method_6_code
def yX1_isInfinite : MethodName := ⟨RX1, "isInfinite", "(I)Z"⟩
abbrev cX1_signedQuarters : ByteArray := prog_3_method_13_code
def yX1_signedQuarters : MethodName := ⟨RX1, "signedQuarters", "(I)I"⟩
abbrev cX1_rounded : ByteArray := prog_3_method_14_code
def yX1_rounded : MethodName := ⟨RX1, "rounded", "(I)I"⟩
abbrev cX1_multiply : ByteArray := prog_3_method_12_code
def yX1_multiply : MethodName := ⟨RX1, "multiply", "(II)I"⟩
abbrev cX1_isZero : ByteArray := prog_3_method_7_code
def yX1_isZero : MethodName := ⟨RX1, "isZero", "(I)Z"⟩
abbrev cX1_isLess : ByteArray := prog_3_method_9_code
def yX1_isLess : MethodName := ⟨RX1, "isLess", "(II)Z"⟩
abbrev cX1_isEqual : ByteArray := prog_3_method_8_code
def yX1_isEqual : MethodName := ⟨RX1, "isEqual", "(II)Z"⟩
abbrev cX4_terms : ByteArray := prog_1_method_10_code
def yX4_terms : MethodName := ⟨RX4, "terms", "()I"⟩
abbrev cX3_count : ByteArray := prog_5_method_2_code
def yX3_count : MethodName := ⟨RX3, "count", "()I"⟩
abbrev cX4_claims : ByteArray := prog_1_method_11_code
def yX4_claims : MethodName := ⟨RX4, "claims", "()I"⟩
abbrev cX0_count : ByteArray := prog_2_method_2_code
def yX0_count : MethodName := ⟨RX0, "count", "()I"⟩
abbrev cX4_level : ByteArray := prog_1_method_12_code
def yX4_level : MethodName := ⟨RX4, "level", "()I"⟩
abbrev cX0_top : ByteArray := prog_2_method_3_code
def yX0_top : MethodName := ⟨RX0, "top", "()I"⟩
abbrev cX4_checks : ByteArray := prog_1_method_13_code
def yX4_checks : MethodName := ⟨RX4, "checks", "()I"⟩
abbrev cL_term : ByteArray := method_3_code
def yL_term : MethodName := ⟨RL, "term", "(LFloatSolver;IIII[J)I"⟩
abbrev cX4_term : ByteArray := prog_1_method_2_code
def yX4_term : MethodName := ⟨RX4, "term", "(IIII)I"⟩
abbrev cX3_allows : ByteArray := prog_5_method_7_code
def yX3_allows : MethodName := ⟨RX3, "allows", "(IIII)Z"⟩
abbrev cX2_isKind : ByteArray := prog_4_method_2_code
def yX2_isKind : MethodName := ⟨RX2, "isKind", "(I)Z"⟩
abbrev cX2_ofFirst : ByteArray := prog_4_method_4_code
def yX2_ofFirst : MethodName := ⟨RX2, "ofFirst", "(I)I"⟩
abbrev cX3_fits : ByteArray := prog_5_method_8_code
def yX3_fits : MethodName := ⟨RX3, "fits", "(II)Z"⟩
abbrev cX1_isNumber : ByteArray := prog_3_method_2_code
def yX1_isNumber : MethodName := ⟨RX1, "isNumber", "(I)Z"⟩
abbrev cX3_isNumberTerm : ByteArray := prog_5_method_6_code
def yX3_isNumberTerm : MethodName := ⟨RX3, "isNumberTerm", "(I)Z"⟩
abbrev cX3_has : ByteArray := prog_5_method_4_code
def yX3_has : MethodName := ⟨RX3, "has", "(I)Z"⟩
abbrev cX2_givesTruth : ByteArray := prog_4_method_3_code
def yX2_givesTruth : MethodName := ⟨RX2, "givesTruth", "(I)Z"⟩
abbrev cX3_isTruth : ByteArray := prog_5_method_5_code
def yX3_isTruth : MethodName := ⟨RX3, "isTruth", "(I)Z"⟩
abbrev cX2_ofSecond : ByteArray := prog_4_method_5_code
def yX2_ofSecond : MethodName := ⟨RX2, "ofSecond", "(I)I"⟩
abbrev cX2_ofThird : ByteArray := prog_4_method_6_code
def yX2_ofThird : MethodName := ⟨RX2, "ofThird", "(I)I"⟩
abbrev cX3_find : ByteArray := prog_5_method_9_code
def yX3_find : MethodName := ⟨RX3, "find", "(IIII)I"⟩
abbrev cX3_isFull : ByteArray := prog_5_method_3_code
def yX3_isFull : MethodName := ⟨RX3, "isFull", "()Z"⟩
abbrev cX3_append : ByteArray := prog_5_method_10_code
def yX3_append : MethodName := ⟨RX3, "append", "(IIII)I"⟩
abbrev cX3_partsBelow : ByteArray := prog_5_method_11_code
def yX3_partsBelow : MethodName := ⟨RX3, "partsBelow", "(II)I"⟩
abbrev cX2_isTerm : ByteArray := prog_4_method_7_code
def yX2_isTerm : MethodName := ⟨RX2, "isTerm", "(I)Z"⟩
abbrev cX3_noteVariables : ByteArray := prog_5_method_12_code
def yX3_noteVariables : MethodName := ⟨RX3, "noteVariables", "(I)V"⟩
abbrev cL_claim : ByteArray := method_4_code
def yL_claim : MethodName := ⟨RL, "claim", "(LFloatSolver;I[J)I"⟩
abbrev cX4_claim : ByteArray := prog_1_method_3_code
def yX4_claim : MethodName := ⟨RX4, "claim", "(I)I"⟩
abbrev cX0_isFull : ByteArray := prog_2_method_4_code
def yX0_isFull : MethodName := ⟨RX0, "isFull", "()Z"⟩
abbrev cX0_push : ByteArray := prog_2_method_5_code
def yX0_push : MethodName := ⟨RX0, "push", "(I)I"⟩
abbrev cL_open : ByteArray := method_5_code
def yL_open : MethodName := ⟨RL, "open", "(LFloatSolver;[J)I"⟩
abbrev cX4_open : ByteArray := prog_1_method_4_code
def yX4_open : MethodName := ⟨RX4, "open", "()I"⟩
abbrev cX0_raise : ByteArray := prog_2_method_6_code
def yX0_raise : MethodName := ⟨RX0, "raise", "()I"⟩
abbrev cL_close : ByteArray := method_6_code
def yL_close : MethodName := ⟨RL, "close", "(LFloatSolver;[J)I"⟩
abbrev cX4_close : ByteArray := prog_1_method_5_code
def yX4_close : MethodName := ⟨RX4, "close", "()I"⟩
abbrev cX0_drop : ByteArray := prog_2_method_7_code
def yX0_drop : MethodName := ⟨RX0, "drop", "()I"⟩
abbrev cL_model : ByteArray := method_7_code
def yL_model : MethodName := ⟨RL, "model", "(LFloatSolver;I[J)I"⟩
abbrev cX4_model : ByteArray := prog_1_method_7_code
def yX4_model : MethodName := ⟨RX4, "model", "(I)I"⟩
abbrev cL_value : ByteArray := method_8_code
def yL_value : MethodName := ⟨RL, "value", "(LFloatSolver;I[J)I"⟩
abbrev cX4_value : ByteArray := prog_1_method_8_code
def yX4_value : MethodName := ⟨RX4, "value", "(I)I"⟩
abbrev cX3_answer : ByteArray := prog_5_method_16_code
def yX3_answer : MethodName := ⟨RX3, "answer", "(III)I"⟩
abbrev cL_reckon : ByteArray := method_9_code
def yL_reckon : MethodName := ⟨RL, "reckon", "(LFloatSolver;III[J)I"⟩
abbrev cX4_reckon : ByteArray := prog_1_method_9_code
def yX4_reckon : MethodName := ⟨RX4, "reckon", "(III)I"⟩
abbrev cX1_isOperation : ByteArray := prog_3_method_3_code
def yX1_isOperation : MethodName := ⟨RX1, "isOperation", "(I)Z"⟩
abbrev cX5_init : ByteArray := prog_7_method_1_code
def yX5_init : MethodName := ⟨RX5, "<init>", "()V"⟩
abbrev cX5_thrown : ByteArray := prog_7_method_2_code
def yX5_thrown : MethodName := ⟨RX5, "thrown", "()I"⟩
abbrev cX5_term : ByteArray := prog_7_method_20_code
def yX5_term : MethodName := ⟨RX5, "term", "(IIII)I"⟩
abbrev cX5_fits : ByteArray := prog_7_method_19_code
def yX5_fits : MethodName := ⟨RX5, "fits", "(IIII)Z"⟩
abbrev cX5_out : ByteArray := prog_7_method_3_code
def yX5_out : MethodName := ⟨RX5, "out", "(II)Z"⟩
abbrev cX5_isTruth : ByteArray := prog_7_method_17_code
def yX5_isTruth : MethodName := ⟨RX5, "isTruth", "(I)Z"⟩
abbrev cX5_isNumber : ByteArray := prog_7_method_16_code
def yX5_isNumber : MethodName := ⟨RX5, "isNumber", "(I)Z"⟩
abbrev cX5_names : ByteArray := prog_7_method_18_code
def yX5_names : MethodName := ⟨RX5, "names", "(I)I"⟩
abbrev cX5_claim : ByteArray := prog_7_method_23_code
def yX5_claim : MethodName := ⟨RX5, "claim", "(I)I"⟩
abbrev cX5_open : ByteArray := prog_7_method_24_code
def yX5_open : MethodName := ⟨RX5, "open", "()I"⟩
abbrev cX5_close : ByteArray := prog_7_method_25_code
def yX5_close : MethodName := ⟨RX5, "close", "()I"⟩
abbrev cX5_check : ByteArray := prog_7_method_26_code
def yX5_check : MethodName := ⟨RX5, "check", "()Z"⟩
abbrev cX5_reckonAll : ByteArray := prog_7_method_21_code
def yX5_reckonAll : MethodName := ⟨RX5, "reckonAll", "(II)V"⟩
abbrev cX5_operate : ByteArray := prog_7_method_15_code
def yX5_operate : MethodName := ⟨RX5, "operate", "(III)I"⟩
abbrev cX5_add : ByteArray := prog_7_method_10_code
def yX5_add : MethodName := ⟨RX5, "add", "(II)I"⟩
abbrev cX5_nan : ByteArray := prog_7_method_5_code
def yX5_nan : MethodName := ⟨RX5, "nan", "(I)Z"⟩
abbrev cX5_infinite : ByteArray := prog_7_method_6_code
def yX5_infinite : MethodName := ⟨RX5, "infinite", "(I)Z"⟩
abbrev cX5_worthOf : ByteArray := prog_7_method_8_code
def yX5_worthOf : MethodName := ⟨RX5, "worthOf", "(I)I"⟩
abbrev cX5_quarters : ByteArray := prog_7_method_4_code
def yX5_quarters : MethodName := ⟨RX5, "quarters", "(I)I"⟩
abbrev cX5_round : ByteArray := prog_7_method_9_code
def yX5_round : MethodName := ⟨RX5, "round", "(I)I"⟩
abbrev cX5_multiply : ByteArray := prog_7_method_11_code
def yX5_multiply : MethodName := ⟨RX5, "multiply", "(II)I"⟩
abbrev cX5_zero : ByteArray := prog_7_method_7_code
def yX5_zero : MethodName := ⟨RX5, "zero", "(I)Z"⟩
abbrev cX5_less : ByteArray := prog_7_method_13_code
def yX5_less : MethodName := ⟨RX5, "less", "(II)Z"⟩
abbrev cX5_truth : ByteArray := prog_7_method_14_code
def yX5_truth : MethodName := ⟨RX5, "truth", "(Z)I"⟩
abbrev cX5_equal : ByteArray := prog_7_method_12_code
def yX5_equal : MethodName := ⟨RX5, "equal", "(II)Z"⟩
abbrev cX5_allHold : ByteArray := prog_7_method_22_code
def yX5_allHold : MethodName := ⟨RX5, "allHold", "()Z"⟩
abbrev cX5_model : ByteArray := prog_7_method_27_code
def yX5_model : MethodName := ⟨RX5, "model", "(I)I"⟩
abbrev cX5_value : ByteArray := prog_7_method_28_code
def yX5_value : MethodName := ⟨RX5, "value", "(I)I"⟩
abbrev cX5_reckon : ByteArray := prog_7_method_29_code
def yX5_reckon : MethodName := ⟨RX5, "reckon", "(III)I"⟩
abbrev cX5_terms : ByteArray := prog_7_method_30_code
def yX5_terms : MethodName := ⟨RX5, "terms", "()I"⟩
abbrev cX5_claims : ByteArray := prog_7_method_31_code
def yX5_claims : MethodName := ⟨RX5, "claims", "()I"⟩
abbrev cX5_level : ByteArray := prog_7_method_32_code
def yX5_level : MethodName := ⟨RX5, "level", "()I"⟩
abbrev cX5_checks : ByteArray := prog_7_method_33_code
def yX5_checks : MethodName := ⟨RX5, "checks", "()I"⟩
abbrev cL_law : ByteArray := code
/-- the words of the tables that ride along: one list for all methods -/
def wA : List Cond := lw_tbl.filter goodWord
theorem wA_mem {w : Cond} (h : w ∈ lw_tbl) (g : goodWord w = true) : w ∈ wA := List.mem_filter.mpr ⟨h, g⟩
theorem wA_good : ∀ w ∈ wA, (w.onTables && w.keeps) = true ∨ ∃ ty, w = .arrayClass ty := fun w h => good_of_word (List.mem_filter.mp h).2
theorem wA_in {c d : Cond} (h : d ∈ wA) : GoodIn (c :: wA) (d :: wA) := fun w hw => (List.mem_cons.mp hw).elim (fun e => by subst e; exact ⟨List.mem_cons_of_mem _ h, wA_good _ h⟩) (fun hw => ⟨List.mem_cons_of_mem _ hw, wA_good _ hw⟩)
theorem wA_wsV {c d : Cond} {own C : String} {i : Nat} {y : MethodName} (h1 : Cond.methodLink own i y ∈ wA) (h2 : Cond.instanceMethod y ∈ wA) (h3 : Cond.selects C y y ∈ wA) (h4 : Cond.initialized C ∈ wA) (h : d ∈ wA) : GoodIn (c :: wA) (wsV own i C y (d :: wA)) := by
  intro w hw
  unfold wsV at hw
  rcases List.mem_append.mp hw with q | q
  · simp only [List.mem_cons, List.not_mem_nil, or_false] at q
    rcases q with rfl | rfl | rfl | rfl
    · exact ⟨List.mem_cons_of_mem _ h1, wA_good _ h1⟩
    · exact ⟨List.mem_cons_of_mem _ h2, wA_good _ h2⟩
    · exact ⟨List.mem_cons_of_mem _ h3, wA_good _ h3⟩
    · exact ⟨List.mem_cons_of_mem _ h4, wA_good _ h4⟩
  · exact wA_in h w q
theorem wA_wsS {c d : Cond} {own : String} {i : Nat} {y : MethodName} (h1 : Cond.methodLink own i y ∈ wA) (h2 : Cond.static y ∈ wA) (h3 : Cond.initialized y.cls ∈ wA) (h : d ∈ wA) : GoodIn (c :: wA) (va_wsS own i y (d :: wA)) := by
  intro w hw
  unfold va_wsS at hw
  rcases List.mem_append.mp hw with q | q
  · simp only [List.mem_cons, List.not_mem_nil, or_false] at q
    rcases q with rfl | rfl | rfl
    · exact ⟨List.mem_cons_of_mem _ h1, wA_good _ h1⟩
    · exact ⟨List.mem_cons_of_mem _ h2, wA_good _ h2⟩
    · exact ⟨List.mem_cons_of_mem _ h3, wA_good _ h3⟩
  · exact wA_in h w q
end
section
theorem wm_in_L : Cond.initialized RL ∈ wA := wA_mem (List.mem_of_getElem? (i := 11) (by decide +kernel)) (by decide +kernel)
theorem wm_in_X4 : Cond.initialized RX4 ∈ wA := wA_mem (List.mem_of_getElem? (i := 12) (by decide +kernel)) (by decide +kernel)
theorem wm_in_X3 : Cond.initialized RX3 ∈ wA := wA_mem (List.mem_of_getElem? (i := 13) (by decide +kernel)) (by decide +kernel)
theorem wm_in_X0 : Cond.initialized RX0 ∈ wA := wA_mem (List.mem_of_getElem? (i := 14) (by decide +kernel)) (by decide +kernel)
theorem wm_in_X5 : Cond.initialized RX5 ∈ wA := wA_mem (List.mem_of_getElem? (i := 15) (by decide +kernel)) (by decide +kernel)
theorem wm_in_X2 : Cond.initialized RX2 ∈ wA := wA_mem (List.mem_of_getElem? (i := 16) (by decide +kernel)) (by decide +kernel)
theorem wm_in_X1 : Cond.initialized RX1 ∈ wA := wA_mem (List.mem_of_getElem? (i := 17) (by decide +kernel)) (by decide +kernel)
theorem wm_in_Throwable : Cond.initialized "java/lang/Throwable" ∈ wA := wA_mem (List.mem_of_getElem? (i := 18) (by decide +kernel)) (by decide +kernel)
theorem wm_in_Exception : Cond.initialized "java/lang/Exception" ∈ wA := wA_mem (List.mem_of_getElem? (i := 19) (by decide +kernel)) (by decide +kernel)
theorem wm_in_RuntimeException : Cond.initialized "java/lang/RuntimeException" ∈ wA := wA_mem (List.mem_of_getElem? (i := 20) (by decide +kernel)) (by decide +kernel)
theorem wm_in_IllegalArgumentException : Cond.initialized "java/lang/IllegalArgumentException" ∈ wA := wA_mem (List.mem_of_getElem? (i := 21) (by decide +kernel)) (by decide +kernel)
theorem wm_in_IllegalStateException : Cond.initialized "java/lang/IllegalStateException" ∈ wA := wA_mem (List.mem_of_getElem? (i := 22) (by decide +kernel)) (by decide +kernel)
theorem wm_in_Math : Cond.initialized "java/lang/Math" ∈ wA := wA_mem (List.mem_of_getElem? (i := 23) (by decide +kernel)) (by decide +kernel)
theorem wm_in_NoSuchElementException : Cond.initialized "java/util/NoSuchElementException" ∈ wA := wA_mem (List.mem_of_getElem? (i := 24) (by decide +kernel)) (by decide +kernel)
theorem wm_cl_L_8 : Cond.classLink RL 8 RX4 ∈ wA := wA_mem (List.mem_of_getElem? (i := 25) (by decide +kernel)) (by decide +kernel)
theorem wm_it_X4 : Cond.instantiable RX4 5 ∈ wA := wA_mem (List.mem_of_getElem? (i := 26) (by decide +kernel)) (by decide +kernel)
theorem wm_ml_L_40 : Cond.methodLink RL 40 yX4_init ∈ wA := wA_mem (List.mem_of_getElem? (i := 27) (by decide +kernel)) (by decide +kernel)
theorem wm_im_X4_init : Cond.instanceMethod yX4_init ∈ wA := wA_mem (List.mem_of_getElem? (i := 28) (by decide +kernel)) (by decide +kernel)
theorem wm_cd_X4_init : Cond.code yX4_init cX4_init 1 none ∈ wA := wA_mem (List.mem_of_getElem? (i := 29) (by decide +kernel)) (by decide +kernel)
theorem wm_ml_X4_1 : Cond.methodLink RX4 1 objectInit ∈ wA := wA_mem (List.mem_of_getElem? (i := 30) (by decide +kernel)) (by decide +kernel)
theorem wm_im_obj_init : Cond.instanceMethod objectInit ∈ wA := wA_mem (List.mem_of_getElem? (i := 31) (by decide +kernel)) (by decide +kernel)
theorem wm_cd_obj_init : Cond.code objectInit ⟨#[0xb1]⟩ 1 none ∈ wA := wA_mem (List.mem_of_getElem? (i := 32) (by decide +kernel)) (by decide +kernel)
theorem wm_cl_X4_7 : Cond.classLink RX4 7 RX3 ∈ wA := wA_mem (List.mem_of_getElem? (i := 33) (by decide +kernel)) (by decide +kernel)
theorem wm_it_X3 : Cond.instantiable RX3 8 ∈ wA := wA_mem (List.mem_of_getElem? (i := 34) (by decide +kernel)) (by decide +kernel)
theorem wl_mn_X4_9 : Cond.methodLinkNest RX4 9 yX3_init RX4 ∈ lw_tbl := List.mem_of_getElem? (i := 35) (by decide +kernel)
theorem wm_im_X3_init : Cond.instanceMethod yX3_init ∈ wA := wA_mem (List.mem_of_getElem? (i := 36) (by decide +kernel)) (by decide +kernel)
theorem wm_cd_X3_init : Cond.code yX3_init cX3_init 1 none ∈ wA := wA_mem (List.mem_of_getElem? (i := 37) (by decide +kernel)) (by decide +kernel)
theorem wm_ml_X3_3 : Cond.methodLink RX3 3 objectInit ∈ wA := wA_mem (List.mem_of_getElem? (i := 38) (by decide +kernel)) (by decide +kernel)
theorem wm_fl_X3_9 : Cond.fieldLink RX3 9 "FloatSolver$TermTable" "kinds" "[I" ∈ wA := wA_mem (List.mem_of_getElem? (i := 39) (by decide +kernel)) (by decide +kernel)
theorem wm_fl_X3_15 : Cond.fieldLink RX3 15 "FloatSolver$TermTable" "firsts" "[I" ∈ wA := wA_mem (List.mem_of_getElem? (i := 40) (by decide +kernel)) (by decide +kernel)
theorem wm_fl_X3_18 : Cond.fieldLink RX3 18 "FloatSolver$TermTable" "seconds" "[I" ∈ wA := wA_mem (List.mem_of_getElem? (i := 41) (by decide +kernel)) (by decide +kernel)
theorem wm_fl_X3_21 : Cond.fieldLink RX3 21 "FloatSolver$TermTable" "thirds" "[I" ∈ wA := wA_mem (List.mem_of_getElem? (i := 42) (by decide +kernel)) (by decide +kernel)
theorem wm_fl_X3_24 : Cond.fieldLink RX3 24 "FloatSolver$TermTable" "parts" "[I" ∈ wA := wA_mem (List.mem_of_getElem? (i := 43) (by decide +kernel)) (by decide +kernel)
theorem wm_fl_X3_27 : Cond.fieldLink RX3 27 "FloatSolver$TermTable" "varying" "[I" ∈ wA := wA_mem (List.mem_of_getElem? (i := 44) (by decide +kernel)) (by decide +kernel)
theorem wm_fl_X3_30 : Cond.fieldLink RX3 30 "FloatSolver$TermTable" "answers" "[I" ∈ wA := wA_mem (List.mem_of_getElem? (i := 45) (by decide +kernel)) (by decide +kernel)
theorem wm_fl_X3_33 : Cond.fieldLink RX3 33 "FloatSolver$TermTable" "size" "I" ∈ wA := wA_mem (List.mem_of_getElem? (i := 46) (by decide +kernel)) (by decide +kernel)
theorem wm_ac_int : Cond.arrayClass .int ∈ wA := wA_mem (List.mem_of_getElem? (i := 64) (by decide +kernel)) (by decide +kernel)
theorem wm_cl_X4_16 : Cond.classLink RX4 16 RX0 ∈ wA := wA_mem (List.mem_of_getElem? (i := 65) (by decide +kernel)) (by decide +kernel)
theorem wm_it_X0 : Cond.instantiable RX0 4 ∈ wA := wA_mem (List.mem_of_getElem? (i := 66) (by decide +kernel)) (by decide +kernel)
theorem wl_mn_X4_18 : Cond.methodLinkNest RX4 18 yX0_init RX4 ∈ lw_tbl := List.mem_of_getElem? (i := 67) (by decide +kernel)
theorem wm_im_X0_init : Cond.instanceMethod yX0_init ∈ wA := wA_mem (List.mem_of_getElem? (i := 68) (by decide +kernel)) (by decide +kernel)
theorem wm_cd_X0_init : Cond.code yX0_init cX0_init 1 none ∈ wA := wA_mem (List.mem_of_getElem? (i := 69) (by decide +kernel)) (by decide +kernel)
theorem wm_ml_X0_3 : Cond.methodLink RX0 3 objectInit ∈ wA := wA_mem (List.mem_of_getElem? (i := 70) (by decide +kernel)) (by decide +kernel)
theorem wm_fl_X0_9 : Cond.fieldLink RX0 9 "FloatSolver$ClaimStack" "claimed" "[I" ∈ wA := wA_mem (List.mem_of_getElem? (i := 71) (by decide +kernel)) (by decide +kernel)
theorem wm_fl_X0_15 : Cond.fieldLink RX0 15 "FloatSolver$ClaimStack" "starts" "[I" ∈ wA := wA_mem (List.mem_of_getElem? (i := 72) (by decide +kernel)) (by decide +kernel)
theorem wm_fl_X0_18 : Cond.fieldLink RX0 18 "FloatSolver$ClaimStack" "size" "I" ∈ wA := wA_mem (List.mem_of_getElem? (i := 73) (by decide +kernel)) (by decide +kernel)
theorem wm_fl_X0_22 : Cond.fieldLink RX0 22 "FloatSolver$ClaimStack" "highest" "I" ∈ wA := wA_mem (List.mem_of_getElem? (i := 74) (by decide +kernel)) (by decide +kernel)
theorem wm_fl_X4_10 : Cond.fieldLink RX4 10 "FloatSolver" "table" "LFloatSolver$TermTable;" ∈ wA := wA_mem (List.mem_of_getElem? (i := 84) (by decide +kernel)) (by decide +kernel)
theorem wm_fl_X4_19 : Cond.fieldLink RX4 19 "FloatSolver" "stack" "LFloatSolver$ClaimStack;" ∈ wA := wA_mem (List.mem_of_getElem? (i := 85) (by decide +kernel)) (by decide +kernel)
theorem wm_fl_X4_23 : Cond.fieldLink RX4 23 "FloatSolver" "found" "[I" ∈ wA := wA_mem (List.mem_of_getElem? (i := 86) (by decide +kernel)) (by decide +kernel)
theorem wm_fl_X4_27 : Cond.fieldLink RX4 27 "FloatSolver" "modelStands" "Z" ∈ wA := wA_mem (List.mem_of_getElem? (i := 87) (by decide +kernel)) (by decide +kernel)
theorem wm_fl_X4_31 : Cond.fieldLink RX4 31 "FloatSolver" "checkCount" "I" ∈ wA := wA_mem (List.mem_of_getElem? (i := 88) (by decide +kernel)) (by decide +kernel)
theorem wm_ml_L_64 : Cond.methodLink RL 64 yX4_check ∈ wA := wA_mem (List.mem_of_getElem? (i := 100) (by decide +kernel)) (by decide +kernel)
theorem wm_im_X4_check : Cond.instanceMethod yX4_check ∈ wA := wA_mem (List.mem_of_getElem? (i := 101) (by decide +kernel)) (by decide +kernel)
theorem wm_se_X4_check : Cond.selects RX4 yX4_check yX4_check ∈ wA := wA_mem (List.mem_of_getElem? (i := 102) (by decide +kernel)) (by decide +kernel)
theorem wm_cd_X4_check : Cond.code yX4_check cX4_check 1 (some .boolean) ∈ wA := wA_mem (List.mem_of_getElem? (i := 103) (by decide +kernel)) (by decide +kernel)
theorem wm_ml_X4_97 : Cond.methodLink RX4 97 yX4_search ∈ wA := wA_mem (List.mem_of_getElem? (i := 104) (by decide +kernel)) (by decide +kernel)
theorem wm_im_X4_search : Cond.instanceMethod yX4_search ∈ wA := wA_mem (List.mem_of_getElem? (i := 106) (by decide +kernel)) (by decide +kernel)
theorem wm_cd_X4_search : Cond.code yX4_search cX4_search 9 (some .boolean) ∈ wA := wA_mem (List.mem_of_getElem? (i := 107) (by decide +kernel)) (by decide +kernel)
theorem wm_ml_X4_133 : Cond.methodLink RX4 133 yX0_claimedTerms ∈ wA := wA_mem (List.mem_of_getElem? (i := 108) (by decide +kernel)) (by decide +kernel)
theorem wm_im_X0_claimedTerms : Cond.instanceMethod yX0_claimedTerms ∈ wA := wA_mem (List.mem_of_getElem? (i := 109) (by decide +kernel)) (by decide +kernel)
theorem wm_se_X0_claimedTerms : Cond.selects RX0 yX0_claimedTerms yX0_claimedTerms ∈ wA := wA_mem (List.mem_of_getElem? (i := 110) (by decide +kernel)) (by decide +kernel)
theorem wm_cd_X0_claimedTerms : Cond.code yX0_claimedTerms cX0_claimedTerms 3 (some .int) ∈ wA := wA_mem (List.mem_of_getElem? (i := 111) (by decide +kernel)) (by decide +kernel)
theorem wm_ml_X4_136 : Cond.methodLink RX4 136 yX3_partsOf ∈ wA := wA_mem (List.mem_of_getElem? (i := 112) (by decide +kernel)) (by decide +kernel)
theorem wm_im_X3_partsOf : Cond.instanceMethod yX3_partsOf ∈ wA := wA_mem (List.mem_of_getElem? (i := 113) (by decide +kernel)) (by decide +kernel)
theorem wm_se_X3_partsOf : Cond.selects RX3 yX3_partsOf yX3_partsOf ∈ wA := wA_mem (List.mem_of_getElem? (i := 114) (by decide +kernel)) (by decide +kernel)
theorem wm_cd_X3_partsOf : Cond.code yX3_partsOf cX3_partsOf 4 (some .int) ∈ wA := wA_mem (List.mem_of_getElem? (i := 115) (by decide +kernel)) (by decide +kernel)
theorem wm_ml_X4_139 : Cond.methodLink RX4 139 yX3_varyingWith ∈ wA := wA_mem (List.mem_of_getElem? (i := 116) (by decide +kernel)) (by decide +kernel)
theorem wm_im_X3_varyingWith : Cond.instanceMethod yX3_varyingWith ∈ wA := wA_mem (List.mem_of_getElem? (i := 117) (by decide +kernel)) (by decide +kernel)
theorem wm_se_X3_varyingWith : Cond.selects RX3 yX3_varyingWith yX3_varyingWith ∈ wA := wA_mem (List.mem_of_getElem? (i := 118) (by decide +kernel)) (by decide +kernel)
theorem wm_cd_X3_varyingWith : Cond.code yX3_varyingWith cX3_varyingWith 2 (some .int) ∈ wA := wA_mem (List.mem_of_getElem? (i := 119) (by decide +kernel)) (by decide +kernel)
theorem wm_ml_X4_142 : Cond.methodLink RX4 142 yX3_allHold ∈ wA := wA_mem (List.mem_of_getElem? (i := 120) (by decide +kernel)) (by decide +kernel)
theorem wm_im_X3_allHold : Cond.instanceMethod yX3_allHold ∈ wA := wA_mem (List.mem_of_getElem? (i := 121) (by decide +kernel)) (by decide +kernel)
theorem wm_se_X3_allHold : Cond.selects RX3 yX3_allHold yX3_allHold ∈ wA := wA_mem (List.mem_of_getElem? (i := 122) (by decide +kernel)) (by decide +kernel)
theorem wm_cd_X3_allHold : Cond.code yX3_allHold cX3_allHold 7 (some .boolean) ∈ wA := wA_mem (List.mem_of_getElem? (i := 123) (by decide +kernel)) (by decide +kernel)
theorem wm_ml_X3_85 : Cond.methodLink RX3 85 yX3_workOut ∈ wA := wA_mem (List.mem_of_getElem? (i := 124) (by decide +kernel)) (by decide +kernel)
theorem wm_im_X3_workOut : Cond.instanceMethod yX3_workOut ∈ wA := wA_mem (List.mem_of_getElem? (i := 126) (by decide +kernel)) (by decide +kernel)
theorem wm_cd_X3_workOut : Cond.code yX3_workOut cX3_workOut 8 (some .int) ∈ wA := wA_mem (List.mem_of_getElem? (i := 127) (by decide +kernel)) (by decide +kernel)
theorem wm_ml_X3_93 : Cond.methodLink RX3 93 yX1_operate ∈ wA := wA_mem (List.mem_of_getElem? (i := 128) (by decide +kernel)) (by decide +kernel)
theorem wm_st_X1_operate : Cond.static yX1_operate ∈ wA := wA_mem (List.mem_of_getElem? (i := 129) (by decide +kernel)) (by decide +kernel)
theorem wm_cd_X1_operate : Cond.code yX1_operate cX1_operate 3 (some .int) ∈ wA := wA_mem (List.mem_of_getElem? (i := 130) (by decide +kernel)) (by decide +kernel)
theorem wm_ml_X1_9 : Cond.methodLink RX1 9 yX1_negate ∈ wA := wA_mem (List.mem_of_getElem? (i := 131) (by decide +kernel)) (by decide +kernel)
theorem wm_st_X1_negate : Cond.static yX1_negate ∈ wA := wA_mem (List.mem_of_getElem? (i := 132) (by decide +kernel)) (by decide +kernel)
theorem wm_cd_X1_negate : Cond.code yX1_negate cX1_negate 1 (some .int) ∈ wA := wA_mem (List.mem_of_getElem? (i := 133) (by decide +kernel)) (by decide +kernel)
theorem wm_ml_X1_15 : Cond.methodLink RX1 15 yX1_add ∈ wA := wA_mem (List.mem_of_getElem? (i := 134) (by decide +kernel)) (by decide +kernel)
theorem wm_st_X1_add : Cond.static yX1_add ∈ wA := wA_mem (List.mem_of_getElem? (i := 135) (by decide +kernel)) (by decide +kernel)
theorem wm_cd_X1_add : Cond.code yX1_add cX1_add 3 (some .int) ∈ wA := wA_mem (List.mem_of_getElem? (i := 136) (by decide +kernel)) (by decide +kernel)
theorem wm_ml_X1_22 : Cond.methodLink RX1 22 yX1_isNan ∈ wA := wA_mem (List.mem_of_getElem? (i := 137) (by decide +kernel)) (by decide +kernel)
theorem wm_st_X1_isNan : Cond.static yX1_isNan ∈ wA := wA_mem (List.mem_of_getElem? (i := 138) (by decide +kernel)) (by decide +kernel)
theorem wm_cd_X1_isNan : Cond.code yX1_isNan cX1_isNan 1 (some .boolean) ∈ wA := wA_mem (List.mem_of_getElem? (i := 139) (by decide +kernel)) (by decide +kernel)
theorem wm_ml_X1_33 : Cond.methodLink RX1 33 yX1_isInfinite ∈ wA := wA_mem (List.mem_of_getElem? (i := 140) (by decide +kernel)) (by decide +kernel)
theorem wm_st_X1_isInfinite : Cond.static yX1_isInfinite ∈ wA := wA_mem (List.mem_of_getElem? (i := 141) (by decide +kernel)) (by decide +kernel)
theorem wm_cd_X1_isInfinite : Cond.code yX1_isInfinite cX1_isInfinite 1 (some .boolean) ∈ wA := wA_mem (List.mem_of_getElem? (i := 142) (by decide +kernel)) (by decide +kernel)
theorem wm_ml_X1_39 : Cond.methodLink RX1 39 yX1_signedQuarters ∈ wA := wA_mem (List.mem_of_getElem? (i := 143) (by decide +kernel)) (by decide +kernel)
theorem wm_st_X1_signedQuarters : Cond.static yX1_signedQuarters ∈ wA := wA_mem (List.mem_of_getElem? (i := 144) (by decide +kernel)) (by decide +kernel)
theorem wm_cd_X1_signedQuarters : Cond.code yX1_signedQuarters cX1_signedQuarters 3 (some .int) ∈ wA := wA_mem (List.mem_of_getElem? (i := 145) (by decide +kernel)) (by decide +kernel)
theorem wm_ml_X1_42 : Cond.methodLink RX1 42 ⟨"java/lang/Math", "abs", "(I)I"⟩ ∈ wA := wA_mem (List.mem_of_getElem? (i := 146) (by decide +kernel)) (by decide +kernel)
theorem wm_st_abs : Cond.static Lib.Math.abs.name ∈ wA := wA_mem (List.mem_of_getElem? (i := 147) (by decide +kernel)) (by decide +kernel)
theorem wm_cd_abs : Cond.code Lib.Math.abs.name Lib.Math.abs.code 1 (some .int) ∈ wA := wA_mem (List.mem_of_getElem? (i := 148) (by decide +kernel)) (by decide +kernel)
theorem wm_ml_X1_47 : Cond.methodLink RX1 47 yX1_rounded ∈ wA := wA_mem (List.mem_of_getElem? (i := 149) (by decide +kernel)) (by decide +kernel)
theorem wm_st_X1_rounded : Cond.static yX1_rounded ∈ wA := wA_mem (List.mem_of_getElem? (i := 150) (by decide +kernel)) (by decide +kernel)
theorem wm_cd_X1_rounded : Cond.code yX1_rounded cX1_rounded 5 (some .int) ∈ wA := wA_mem (List.mem_of_getElem? (i := 151) (by decide +kernel)) (by decide +kernel)
theorem wm_ml_X1_19 : Cond.methodLink RX1 19 yX1_multiply ∈ wA := wA_mem (List.mem_of_getElem? (i := 152) (by decide +kernel)) (by decide +kernel)
theorem wm_st_X1_multiply : Cond.static yX1_multiply ∈ wA := wA_mem (List.mem_of_getElem? (i := 153) (by decide +kernel)) (by decide +kernel)
theorem wm_cd_X1_multiply : Cond.code yX1_multiply cX1_multiply 3 (some .int) ∈ wA := wA_mem (List.mem_of_getElem? (i := 154) (by decide +kernel)) (by decide +kernel)
theorem wm_ml_X1_36 : Cond.methodLink RX1 36 yX1_isZero ∈ wA := wA_mem (List.mem_of_getElem? (i := 155) (by decide +kernel)) (by decide +kernel)
theorem wm_st_X1_isZero : Cond.static yX1_isZero ∈ wA := wA_mem (List.mem_of_getElem? (i := 156) (by decide +kernel)) (by decide +kernel)
theorem wm_cd_X1_isZero : Cond.code yX1_isZero cX1_isZero 1 (some .boolean) ∈ wA := wA_mem (List.mem_of_getElem? (i := 157) (by decide +kernel)) (by decide +kernel)
theorem wm_ml_X1_26 : Cond.methodLink RX1 26 yX1_isLess ∈ wA := wA_mem (List.mem_of_getElem? (i := 158) (by decide +kernel)) (by decide +kernel)
theorem wm_st_X1_isLess : Cond.static yX1_isLess ∈ wA := wA_mem (List.mem_of_getElem? (i := 159) (by decide +kernel)) (by decide +kernel)
theorem wm_cd_X1_isLess : Cond.code yX1_isLess cX1_isLess 2 (some .boolean) ∈ wA := wA_mem (List.mem_of_getElem? (i := 160) (by decide +kernel)) (by decide +kernel)
theorem wm_ml_X1_30 : Cond.methodLink RX1 30 yX1_isEqual ∈ wA := wA_mem (List.mem_of_getElem? (i := 161) (by decide +kernel)) (by decide +kernel)
theorem wm_st_X1_isEqual : Cond.static yX1_isEqual ∈ wA := wA_mem (List.mem_of_getElem? (i := 162) (by decide +kernel)) (by decide +kernel)
theorem wm_cd_X1_isEqual : Cond.code yX1_isEqual cX1_isEqual 2 (some .boolean) ∈ wA := wA_mem (List.mem_of_getElem? (i := 163) (by decide +kernel)) (by decide +kernel)
theorem wm_ml_L_79 : Cond.methodLink RL 79 yX4_terms ∈ wA := wA_mem (List.mem_of_getElem? (i := 164) (by decide +kernel)) (by decide +kernel)
theorem wm_im_X4_terms : Cond.instanceMethod yX4_terms ∈ wA := wA_mem (List.mem_of_getElem? (i := 165) (by decide +kernel)) (by decide +kernel)
theorem wm_se_X4_terms : Cond.selects RX4 yX4_terms yX4_terms ∈ wA := wA_mem (List.mem_of_getElem? (i := 166) (by decide +kernel)) (by decide +kernel)
theorem wm_cd_X4_terms : Cond.code yX4_terms cX4_terms 1 (some .int) ∈ wA := wA_mem (List.mem_of_getElem? (i := 167) (by decide +kernel)) (by decide +kernel)
theorem wm_ml_X4_129 : Cond.methodLink RX4 129 yX3_count ∈ wA := wA_mem (List.mem_of_getElem? (i := 168) (by decide +kernel)) (by decide +kernel)
theorem wm_im_X3_count : Cond.instanceMethod yX3_count ∈ wA := wA_mem (List.mem_of_getElem? (i := 169) (by decide +kernel)) (by decide +kernel)
theorem wm_se_X3_count : Cond.selects RX3 yX3_count yX3_count ∈ wA := wA_mem (List.mem_of_getElem? (i := 170) (by decide +kernel)) (by decide +kernel)
theorem wm_cd_X3_count : Cond.code yX3_count cX3_count 1 (some .int) ∈ wA := wA_mem (List.mem_of_getElem? (i := 171) (by decide +kernel)) (by decide +kernel)
theorem wm_ml_L_83 : Cond.methodLink RL 83 yX4_claims ∈ wA := wA_mem (List.mem_of_getElem? (i := 172) (by decide +kernel)) (by decide +kernel)
theorem wm_im_X4_claims : Cond.instanceMethod yX4_claims ∈ wA := wA_mem (List.mem_of_getElem? (i := 173) (by decide +kernel)) (by decide +kernel)
theorem wm_se_X4_claims : Cond.selects RX4 yX4_claims yX4_claims ∈ wA := wA_mem (List.mem_of_getElem? (i := 174) (by decide +kernel)) (by decide +kernel)
theorem wm_cd_X4_claims : Cond.code yX4_claims cX4_claims 1 (some .int) ∈ wA := wA_mem (List.mem_of_getElem? (i := 175) (by decide +kernel)) (by decide +kernel)
theorem wm_ml_X4_132 : Cond.methodLink RX4 132 yX0_count ∈ wA := wA_mem (List.mem_of_getElem? (i := 176) (by decide +kernel)) (by decide +kernel)
theorem wm_im_X0_count : Cond.instanceMethod yX0_count ∈ wA := wA_mem (List.mem_of_getElem? (i := 177) (by decide +kernel)) (by decide +kernel)
theorem wm_se_X0_count : Cond.selects RX0 yX0_count yX0_count ∈ wA := wA_mem (List.mem_of_getElem? (i := 178) (by decide +kernel)) (by decide +kernel)
theorem wm_cd_X0_count : Cond.code yX0_count cX0_count 1 (some .int) ∈ wA := wA_mem (List.mem_of_getElem? (i := 179) (by decide +kernel)) (by decide +kernel)
theorem wm_ml_L_87 : Cond.methodLink RL 87 yX4_level ∈ wA := wA_mem (List.mem_of_getElem? (i := 180) (by decide +kernel)) (by decide +kernel)
theorem wm_im_X4_level : Cond.instanceMethod yX4_level ∈ wA := wA_mem (List.mem_of_getElem? (i := 181) (by decide +kernel)) (by decide +kernel)
theorem wm_se_X4_level : Cond.selects RX4 yX4_level yX4_level ∈ wA := wA_mem (List.mem_of_getElem? (i := 182) (by decide +kernel)) (by decide +kernel)
theorem wm_cd_X4_level : Cond.code yX4_level cX4_level 1 (some .int) ∈ wA := wA_mem (List.mem_of_getElem? (i := 183) (by decide +kernel)) (by decide +kernel)
theorem wm_ml_X4_83 : Cond.methodLink RX4 83 yX0_top ∈ wA := wA_mem (List.mem_of_getElem? (i := 184) (by decide +kernel)) (by decide +kernel)
theorem wm_im_X0_top : Cond.instanceMethod yX0_top ∈ wA := wA_mem (List.mem_of_getElem? (i := 185) (by decide +kernel)) (by decide +kernel)
theorem wm_se_X0_top : Cond.selects RX0 yX0_top yX0_top ∈ wA := wA_mem (List.mem_of_getElem? (i := 186) (by decide +kernel)) (by decide +kernel)
theorem wm_cd_X0_top : Cond.code yX0_top cX0_top 1 (some .int) ∈ wA := wA_mem (List.mem_of_getElem? (i := 187) (by decide +kernel)) (by decide +kernel)
theorem wm_ml_L_91 : Cond.methodLink RL 91 yX4_checks ∈ wA := wA_mem (List.mem_of_getElem? (i := 188) (by decide +kernel)) (by decide +kernel)
theorem wm_im_X4_checks : Cond.instanceMethod yX4_checks ∈ wA := wA_mem (List.mem_of_getElem? (i := 189) (by decide +kernel)) (by decide +kernel)
theorem wm_se_X4_checks : Cond.selects RX4 yX4_checks yX4_checks ∈ wA := wA_mem (List.mem_of_getElem? (i := 190) (by decide +kernel)) (by decide +kernel)
theorem wm_cd_X4_checks : Cond.code yX4_checks cX4_checks 1 (some .int) ∈ wA := wA_mem (List.mem_of_getElem? (i := 191) (by decide +kernel)) (by decide +kernel)
theorem wm_ml_L_44 : Cond.methodLink RL 44 yL_term ∈ wA := wA_mem (List.mem_of_getElem? (i := 192) (by decide +kernel)) (by decide +kernel)
theorem wm_st_L_term : Cond.static yL_term ∈ wA := wA_mem (List.mem_of_getElem? (i := 193) (by decide +kernel)) (by decide +kernel)
theorem wm_cl_L_13 : Cond.classLink RL 13 "java/lang/IllegalArgumentException" ∈ wA := wA_mem (List.mem_of_getElem? (i := 195) (by decide +kernel)) (by decide +kernel)
theorem wm_cl_L_15 : Cond.classLink RL 15 "java/lang/IllegalStateException" ∈ wA := wA_mem (List.mem_of_getElem? (i := 196) (by decide +kernel)) (by decide +kernel)
theorem wm_ml_L_7 : Cond.methodLink RL 7 yX4_term ∈ wA := wA_mem (List.mem_of_getElem? (i := 197) (by decide +kernel)) (by decide +kernel)
theorem wm_im_X4_term : Cond.instanceMethod yX4_term ∈ wA := wA_mem (List.mem_of_getElem? (i := 198) (by decide +kernel)) (by decide +kernel)
theorem wm_se_X4_term : Cond.selects RX4 yX4_term yX4_term ∈ wA := wA_mem (List.mem_of_getElem? (i := 199) (by decide +kernel)) (by decide +kernel)
theorem wm_cd_X4_term : Cond.code yX4_term cX4_term 8 (some .int) ∈ wA := wA_mem (List.mem_of_getElem? (i := 200) (by decide +kernel)) (by decide +kernel)
theorem wm_ml_X4_35 : Cond.methodLink RX4 35 yX3_allows ∈ wA := wA_mem (List.mem_of_getElem? (i := 201) (by decide +kernel)) (by decide +kernel)
theorem wm_im_X3_allows : Cond.instanceMethod yX3_allows ∈ wA := wA_mem (List.mem_of_getElem? (i := 202) (by decide +kernel)) (by decide +kernel)
theorem wm_se_X3_allows : Cond.selects RX3 yX3_allows yX3_allows ∈ wA := wA_mem (List.mem_of_getElem? (i := 203) (by decide +kernel)) (by decide +kernel)
theorem wm_cd_X3_allows : Cond.code yX3_allows cX3_allows 5 (some .boolean) ∈ wA := wA_mem (List.mem_of_getElem? (i := 204) (by decide +kernel)) (by decide +kernel)
theorem wm_ml_X3_46 : Cond.methodLink RX3 46 yX2_isKind ∈ wA := wA_mem (List.mem_of_getElem? (i := 205) (by decide +kernel)) (by decide +kernel)
theorem wm_st_X2_isKind : Cond.static yX2_isKind ∈ wA := wA_mem (List.mem_of_getElem? (i := 206) (by decide +kernel)) (by decide +kernel)
theorem wm_cd_X2_isKind : Cond.code yX2_isKind cX2_isKind 1 (some .boolean) ∈ wA := wA_mem (List.mem_of_getElem? (i := 207) (by decide +kernel)) (by decide +kernel)
theorem wm_ml_X3_49 : Cond.methodLink RX3 49 yX2_ofFirst ∈ wA := wA_mem (List.mem_of_getElem? (i := 208) (by decide +kernel)) (by decide +kernel)
theorem wm_st_X2_ofFirst : Cond.static yX2_ofFirst ∈ wA := wA_mem (List.mem_of_getElem? (i := 209) (by decide +kernel)) (by decide +kernel)
theorem wm_cd_X2_ofFirst : Cond.code yX2_ofFirst cX2_ofFirst 1 (some .int) ∈ wA := wA_mem (List.mem_of_getElem? (i := 210) (by decide +kernel)) (by decide +kernel)
theorem wm_ml_X3_53 : Cond.methodLink RX3 53 yX3_fits ∈ wA := wA_mem (List.mem_of_getElem? (i := 211) (by decide +kernel)) (by decide +kernel)
theorem wm_im_X3_fits : Cond.instanceMethod yX3_fits ∈ wA := wA_mem (List.mem_of_getElem? (i := 213) (by decide +kernel)) (by decide +kernel)
theorem wm_cd_X3_fits : Cond.code yX3_fits cX3_fits 3 (some .boolean) ∈ wA := wA_mem (List.mem_of_getElem? (i := 214) (by decide +kernel)) (by decide +kernel)
theorem wm_ml_X3_63 : Cond.methodLink RX3 63 yX1_isNumber ∈ wA := wA_mem (List.mem_of_getElem? (i := 215) (by decide +kernel)) (by decide +kernel)
theorem wm_st_X1_isNumber : Cond.static yX1_isNumber ∈ wA := wA_mem (List.mem_of_getElem? (i := 216) (by decide +kernel)) (by decide +kernel)
theorem wm_cd_X1_isNumber : Cond.code yX1_isNumber cX1_isNumber 1 (some .boolean) ∈ wA := wA_mem (List.mem_of_getElem? (i := 217) (by decide +kernel)) (by decide +kernel)
theorem wm_ml_X3_68 : Cond.methodLink RX3 68 yX3_isNumberTerm ∈ wA := wA_mem (List.mem_of_getElem? (i := 218) (by decide +kernel)) (by decide +kernel)
theorem wm_im_X3_isNumberTerm : Cond.instanceMethod yX3_isNumberTerm ∈ wA := wA_mem (List.mem_of_getElem? (i := 219) (by decide +kernel)) (by decide +kernel)
theorem wm_se_X3_isNumberTerm : Cond.selects RX3 yX3_isNumberTerm yX3_isNumberTerm ∈ wA := wA_mem (List.mem_of_getElem? (i := 220) (by decide +kernel)) (by decide +kernel)
theorem wm_cd_X3_isNumberTerm : Cond.code yX3_isNumberTerm cX3_isNumberTerm 2 (some .boolean) ∈ wA := wA_mem (List.mem_of_getElem? (i := 221) (by decide +kernel)) (by decide +kernel)
theorem wm_ml_X3_37 : Cond.methodLink RX3 37 yX3_has ∈ wA := wA_mem (List.mem_of_getElem? (i := 222) (by decide +kernel)) (by decide +kernel)
theorem wm_im_X3_has : Cond.instanceMethod yX3_has ∈ wA := wA_mem (List.mem_of_getElem? (i := 223) (by decide +kernel)) (by decide +kernel)
theorem wm_se_X3_has : Cond.selects RX3 yX3_has yX3_has ∈ wA := wA_mem (List.mem_of_getElem? (i := 224) (by decide +kernel)) (by decide +kernel)
theorem wm_cd_X3_has : Cond.code yX3_has cX3_has 2 (some .boolean) ∈ wA := wA_mem (List.mem_of_getElem? (i := 225) (by decide +kernel)) (by decide +kernel)
theorem wm_ml_X3_41 : Cond.methodLink RX3 41 yX2_givesTruth ∈ wA := wA_mem (List.mem_of_getElem? (i := 226) (by decide +kernel)) (by decide +kernel)
theorem wm_st_X2_givesTruth : Cond.static yX2_givesTruth ∈ wA := wA_mem (List.mem_of_getElem? (i := 227) (by decide +kernel)) (by decide +kernel)
theorem wm_cd_X2_givesTruth : Cond.code yX2_givesTruth cX2_givesTruth 1 (some .boolean) ∈ wA := wA_mem (List.mem_of_getElem? (i := 228) (by decide +kernel)) (by decide +kernel)
theorem wm_ml_X3_71 : Cond.methodLink RX3 71 yX3_isTruth ∈ wA := wA_mem (List.mem_of_getElem? (i := 229) (by decide +kernel)) (by decide +kernel)
theorem wm_im_X3_isTruth : Cond.instanceMethod yX3_isTruth ∈ wA := wA_mem (List.mem_of_getElem? (i := 230) (by decide +kernel)) (by decide +kernel)
theorem wm_se_X3_isTruth : Cond.selects RX3 yX3_isTruth yX3_isTruth ∈ wA := wA_mem (List.mem_of_getElem? (i := 231) (by decide +kernel)) (by decide +kernel)
theorem wm_cd_X3_isTruth : Cond.code yX3_isTruth cX3_isTruth 2 (some .boolean) ∈ wA := wA_mem (List.mem_of_getElem? (i := 232) (by decide +kernel)) (by decide +kernel)
theorem wm_ml_X3_57 : Cond.methodLink RX3 57 yX2_ofSecond ∈ wA := wA_mem (List.mem_of_getElem? (i := 233) (by decide +kernel)) (by decide +kernel)
theorem wm_st_X2_ofSecond : Cond.static yX2_ofSecond ∈ wA := wA_mem (List.mem_of_getElem? (i := 234) (by decide +kernel)) (by decide +kernel)
theorem wm_cd_X2_ofSecond : Cond.code yX2_ofSecond cX2_ofSecond 1 (some .int) ∈ wA := wA_mem (List.mem_of_getElem? (i := 235) (by decide +kernel)) (by decide +kernel)
theorem wm_ml_X3_60 : Cond.methodLink RX3 60 yX2_ofThird ∈ wA := wA_mem (List.mem_of_getElem? (i := 236) (by decide +kernel)) (by decide +kernel)
theorem wm_st_X2_ofThird : Cond.static yX2_ofThird ∈ wA := wA_mem (List.mem_of_getElem? (i := 237) (by decide +kernel)) (by decide +kernel)
theorem wm_cd_X2_ofThird : Cond.code yX2_ofThird cX2_ofThird 1 (some .int) ∈ wA := wA_mem (List.mem_of_getElem? (i := 238) (by decide +kernel)) (by decide +kernel)
theorem wm_cl_X4_39 : Cond.classLink RX4 39 "java/lang/IllegalArgumentException" ∈ wA := wA_mem (List.mem_of_getElem? (i := 239) (by decide +kernel)) (by decide +kernel)
theorem wm_it_IllegalArgumentException : Cond.instantiable "java/lang/IllegalArgumentException" 6 ∈ wA := wA_mem (List.mem_of_getElem? (i := 240) (by decide +kernel)) (by decide +kernel)
theorem wm_it_Throwable : Cond.instantiable "java/lang/Throwable" 6 ∈ wA := wA_mem (List.mem_of_getElem? (i := 278) (by decide +kernel)) (by decide +kernel)
theorem wm_ml_X4_43 : Cond.methodLink RX4 43 ⟨"java/lang/IllegalArgumentException", "<init>", "(Ljava/lang/String;)V"⟩ ∈ wA := wA_mem (List.mem_of_getElem? (i := 281) (by decide +kernel)) (by decide +kernel)
theorem wm_ac_byte : Cond.arrayClass .byte ∈ wA := wA_mem (List.mem_of_getElem? (i := 306) (by decide +kernel)) (by decide +kernel)
theorem wm_ml_X4_46 : Cond.methodLink RX4 46 yX2_ofSecond ∈ wA := wA_mem (List.mem_of_getElem? (i := 307) (by decide +kernel)) (by decide +kernel)
theorem wm_ml_X4_52 : Cond.methodLink RX4 52 yX2_ofThird ∈ wA := wA_mem (List.mem_of_getElem? (i := 308) (by decide +kernel)) (by decide +kernel)
theorem wm_ml_X4_55 : Cond.methodLink RX4 55 yX3_find ∈ wA := wA_mem (List.mem_of_getElem? (i := 309) (by decide +kernel)) (by decide +kernel)
theorem wm_im_X3_find : Cond.instanceMethod yX3_find ∈ wA := wA_mem (List.mem_of_getElem? (i := 310) (by decide +kernel)) (by decide +kernel)
theorem wm_se_X3_find : Cond.selects RX3 yX3_find yX3_find ∈ wA := wA_mem (List.mem_of_getElem? (i := 311) (by decide +kernel)) (by decide +kernel)
theorem wm_cd_X3_find : Cond.code yX3_find cX3_find 6 (some .int) ∈ wA := wA_mem (List.mem_of_getElem? (i := 312) (by decide +kernel)) (by decide +kernel)
theorem wm_ml_X4_59 : Cond.methodLink RX4 59 yX3_isFull ∈ wA := wA_mem (List.mem_of_getElem? (i := 313) (by decide +kernel)) (by decide +kernel)
theorem wm_im_X3_isFull : Cond.instanceMethod yX3_isFull ∈ wA := wA_mem (List.mem_of_getElem? (i := 314) (by decide +kernel)) (by decide +kernel)
theorem wm_se_X3_isFull : Cond.selects RX3 yX3_isFull yX3_isFull ∈ wA := wA_mem (List.mem_of_getElem? (i := 315) (by decide +kernel)) (by decide +kernel)
theorem wm_cd_X3_isFull : Cond.code yX3_isFull cX3_isFull 1 (some .boolean) ∈ wA := wA_mem (List.mem_of_getElem? (i := 316) (by decide +kernel)) (by decide +kernel)
theorem wm_cl_X4_63 : Cond.classLink RX4 63 "java/lang/IllegalStateException" ∈ wA := wA_mem (List.mem_of_getElem? (i := 317) (by decide +kernel)) (by decide +kernel)
theorem wm_it_IllegalStateException : Cond.instantiable "java/lang/IllegalStateException" 6 ∈ wA := wA_mem (List.mem_of_getElem? (i := 318) (by decide +kernel)) (by decide +kernel)
theorem wm_ml_X4_67 : Cond.methodLink RX4 67 ⟨"java/lang/IllegalStateException", "<init>", "(Ljava/lang/String;)V"⟩ ∈ wA := wA_mem (List.mem_of_getElem? (i := 327) (by decide +kernel)) (by decide +kernel)
theorem wm_ml_X4_68 : Cond.methodLink RX4 68 yX3_append ∈ wA := wA_mem (List.mem_of_getElem? (i := 333) (by decide +kernel)) (by decide +kernel)
theorem wm_im_X3_append : Cond.instanceMethod yX3_append ∈ wA := wA_mem (List.mem_of_getElem? (i := 334) (by decide +kernel)) (by decide +kernel)
theorem wm_se_X3_append : Cond.selects RX3 yX3_append yX3_append ∈ wA := wA_mem (List.mem_of_getElem? (i := 335) (by decide +kernel)) (by decide +kernel)
theorem wm_cd_X3_append : Cond.code yX3_append cX3_append 6 (some .int) ∈ wA := wA_mem (List.mem_of_getElem? (i := 336) (by decide +kernel)) (by decide +kernel)
theorem wm_ml_X3_74 : Cond.methodLink RX3 74 yX3_partsBelow ∈ wA := wA_mem (List.mem_of_getElem? (i := 337) (by decide +kernel)) (by decide +kernel)
theorem wm_im_X3_partsBelow : Cond.instanceMethod yX3_partsBelow ∈ wA := wA_mem (List.mem_of_getElem? (i := 339) (by decide +kernel)) (by decide +kernel)
theorem wm_cd_X3_partsBelow : Cond.code yX3_partsBelow cX3_partsBelow 3 (some .int) ∈ wA := wA_mem (List.mem_of_getElem? (i := 340) (by decide +kernel)) (by decide +kernel)
theorem wm_ml_X3_82 : Cond.methodLink RX3 82 yX2_isTerm ∈ wA := wA_mem (List.mem_of_getElem? (i := 341) (by decide +kernel)) (by decide +kernel)
theorem wm_st_X2_isTerm : Cond.static yX2_isTerm ∈ wA := wA_mem (List.mem_of_getElem? (i := 342) (by decide +kernel)) (by decide +kernel)
theorem wm_cd_X2_isTerm : Cond.code yX2_isTerm cX2_isTerm 1 (some .boolean) ∈ wA := wA_mem (List.mem_of_getElem? (i := 343) (by decide +kernel)) (by decide +kernel)
theorem wm_ml_X3_78 : Cond.methodLink RX3 78 yX3_noteVariables ∈ wA := wA_mem (List.mem_of_getElem? (i := 344) (by decide +kernel)) (by decide +kernel)
theorem wm_im_X3_noteVariables : Cond.instanceMethod yX3_noteVariables ∈ wA := wA_mem (List.mem_of_getElem? (i := 346) (by decide +kernel)) (by decide +kernel)
theorem wm_cd_X3_noteVariables : Cond.code yX3_noteVariables cX3_noteVariables 4 none ∈ wA := wA_mem (List.mem_of_getElem? (i := 347) (by decide +kernel)) (by decide +kernel)
theorem wm_ml_L_53 : Cond.methodLink RL 53 yL_claim ∈ wA := wA_mem (List.mem_of_getElem? (i := 348) (by decide +kernel)) (by decide +kernel)
theorem wm_st_L_claim : Cond.static yL_claim ∈ wA := wA_mem (List.mem_of_getElem? (i := 349) (by decide +kernel)) (by decide +kernel)
theorem wm_ml_L_17 : Cond.methodLink RL 17 yX4_claim ∈ wA := wA_mem (List.mem_of_getElem? (i := 351) (by decide +kernel)) (by decide +kernel)
theorem wm_im_X4_claim : Cond.instanceMethod yX4_claim ∈ wA := wA_mem (List.mem_of_getElem? (i := 352) (by decide +kernel)) (by decide +kernel)
theorem wm_se_X4_claim : Cond.selects RX4 yX4_claim yX4_claim ∈ wA := wA_mem (List.mem_of_getElem? (i := 353) (by decide +kernel)) (by decide +kernel)
theorem wm_cd_X4_claim : Cond.code yX4_claim cX4_claim 2 (some .int) ∈ wA := wA_mem (List.mem_of_getElem? (i := 354) (by decide +kernel)) (by decide +kernel)
theorem wm_ml_X4_71 : Cond.methodLink RX4 71 yX3_isTruth ∈ wA := wA_mem (List.mem_of_getElem? (i := 355) (by decide +kernel)) (by decide +kernel)
theorem wm_ml_X4_77 : Cond.methodLink RX4 77 yX0_isFull ∈ wA := wA_mem (List.mem_of_getElem? (i := 357) (by decide +kernel)) (by decide +kernel)
theorem wm_im_X0_isFull : Cond.instanceMethod yX0_isFull ∈ wA := wA_mem (List.mem_of_getElem? (i := 358) (by decide +kernel)) (by decide +kernel)
theorem wm_se_X0_isFull : Cond.selects RX0 yX0_isFull yX0_isFull ∈ wA := wA_mem (List.mem_of_getElem? (i := 359) (by decide +kernel)) (by decide +kernel)
theorem wm_cd_X0_isFull : Cond.code yX0_isFull cX0_isFull 1 (some .boolean) ∈ wA := wA_mem (List.mem_of_getElem? (i := 360) (by decide +kernel)) (by decide +kernel)
theorem wm_ml_X4_80 : Cond.methodLink RX4 80 yX0_push ∈ wA := wA_mem (List.mem_of_getElem? (i := 362) (by decide +kernel)) (by decide +kernel)
theorem wm_im_X0_push : Cond.instanceMethod yX0_push ∈ wA := wA_mem (List.mem_of_getElem? (i := 363) (by decide +kernel)) (by decide +kernel)
theorem wm_se_X0_push : Cond.selects RX0 yX0_push yX0_push ∈ wA := wA_mem (List.mem_of_getElem? (i := 364) (by decide +kernel)) (by decide +kernel)
theorem wm_cd_X0_push : Cond.code yX0_push cX0_push 2 (some .int) ∈ wA := wA_mem (List.mem_of_getElem? (i := 365) (by decide +kernel)) (by decide +kernel)
theorem wm_ml_L_57 : Cond.methodLink RL 57 yL_open ∈ wA := wA_mem (List.mem_of_getElem? (i := 366) (by decide +kernel)) (by decide +kernel)
theorem wm_st_L_open : Cond.static yL_open ∈ wA := wA_mem (List.mem_of_getElem? (i := 367) (by decide +kernel)) (by decide +kernel)
theorem wm_ml_L_21 : Cond.methodLink RL 21 yX4_open ∈ wA := wA_mem (List.mem_of_getElem? (i := 369) (by decide +kernel)) (by decide +kernel)
theorem wm_im_X4_open : Cond.instanceMethod yX4_open ∈ wA := wA_mem (List.mem_of_getElem? (i := 370) (by decide +kernel)) (by decide +kernel)
theorem wm_se_X4_open : Cond.selects RX4 yX4_open yX4_open ∈ wA := wA_mem (List.mem_of_getElem? (i := 371) (by decide +kernel)) (by decide +kernel)
theorem wm_cd_X4_open : Cond.code yX4_open cX4_open 1 (some .int) ∈ wA := wA_mem (List.mem_of_getElem? (i := 372) (by decide +kernel)) (by decide +kernel)
theorem wm_ml_X4_89 : Cond.methodLink RX4 89 yX0_raise ∈ wA := wA_mem (List.mem_of_getElem? (i := 374) (by decide +kernel)) (by decide +kernel)
theorem wm_im_X0_raise : Cond.instanceMethod yX0_raise ∈ wA := wA_mem (List.mem_of_getElem? (i := 375) (by decide +kernel)) (by decide +kernel)
theorem wm_se_X0_raise : Cond.selects RX0 yX0_raise yX0_raise ∈ wA := wA_mem (List.mem_of_getElem? (i := 376) (by decide +kernel)) (by decide +kernel)
theorem wm_cd_X0_raise : Cond.code yX0_raise cX0_raise 1 (some .int) ∈ wA := wA_mem (List.mem_of_getElem? (i := 377) (by decide +kernel)) (by decide +kernel)
theorem wm_ml_L_61 : Cond.methodLink RL 61 yL_close ∈ wA := wA_mem (List.mem_of_getElem? (i := 378) (by decide +kernel)) (by decide +kernel)
theorem wm_st_L_close : Cond.static yL_close ∈ wA := wA_mem (List.mem_of_getElem? (i := 379) (by decide +kernel)) (by decide +kernel)
theorem wm_ml_L_25 : Cond.methodLink RL 25 yX4_close ∈ wA := wA_mem (List.mem_of_getElem? (i := 381) (by decide +kernel)) (by decide +kernel)
theorem wm_im_X4_close : Cond.instanceMethod yX4_close ∈ wA := wA_mem (List.mem_of_getElem? (i := 382) (by decide +kernel)) (by decide +kernel)
theorem wm_se_X4_close : Cond.selects RX4 yX4_close yX4_close ∈ wA := wA_mem (List.mem_of_getElem? (i := 383) (by decide +kernel)) (by decide +kernel)
theorem wm_cd_X4_close : Cond.code yX4_close cX4_close 1 (some .int) ∈ wA := wA_mem (List.mem_of_getElem? (i := 384) (by decide +kernel)) (by decide +kernel)
theorem wm_ml_X4_94 : Cond.methodLink RX4 94 yX0_drop ∈ wA := wA_mem (List.mem_of_getElem? (i := 386) (by decide +kernel)) (by decide +kernel)
theorem wm_im_X0_drop : Cond.instanceMethod yX0_drop ∈ wA := wA_mem (List.mem_of_getElem? (i := 387) (by decide +kernel)) (by decide +kernel)
theorem wm_se_X0_drop : Cond.selects RX0 yX0_drop yX0_drop ∈ wA := wA_mem (List.mem_of_getElem? (i := 388) (by decide +kernel)) (by decide +kernel)
theorem wm_cd_X0_drop : Cond.code yX0_drop cX0_drop 2 (some .int) ∈ wA := wA_mem (List.mem_of_getElem? (i := 389) (by decide +kernel)) (by decide +kernel)
theorem wm_ml_L_69 : Cond.methodLink RL 69 yL_model ∈ wA := wA_mem (List.mem_of_getElem? (i := 390) (by decide +kernel)) (by decide +kernel)
theorem wm_st_L_model : Cond.static yL_model ∈ wA := wA_mem (List.mem_of_getElem? (i := 391) (by decide +kernel)) (by decide +kernel)
theorem wm_cl_L_31 : Cond.classLink RL 31 "java/util/NoSuchElementException" ∈ wA := wA_mem (List.mem_of_getElem? (i := 393) (by decide +kernel)) (by decide +kernel)
theorem wm_ml_L_28 : Cond.methodLink RL 28 yX4_model ∈ wA := wA_mem (List.mem_of_getElem? (i := 394) (by decide +kernel)) (by decide +kernel)
theorem wm_im_X4_model : Cond.instanceMethod yX4_model ∈ wA := wA_mem (List.mem_of_getElem? (i := 395) (by decide +kernel)) (by decide +kernel)
theorem wm_se_X4_model : Cond.selects RX4 yX4_model yX4_model ∈ wA := wA_mem (List.mem_of_getElem? (i := 396) (by decide +kernel)) (by decide +kernel)
theorem wm_cd_X4_model : Cond.code yX4_model cX4_model 2 (some .int) ∈ wA := wA_mem (List.mem_of_getElem? (i := 397) (by decide +kernel)) (by decide +kernel)
theorem wm_cl_X4_102 : Cond.classLink RX4 102 "java/util/NoSuchElementException" ∈ wA := wA_mem (List.mem_of_getElem? (i := 399) (by decide +kernel)) (by decide +kernel)
theorem wm_it_NoSuchElementException : Cond.instantiable "java/util/NoSuchElementException" 6 ∈ wA := wA_mem (List.mem_of_getElem? (i := 400) (by decide +kernel)) (by decide +kernel)
theorem wm_ml_X4_106 : Cond.methodLink RX4 106 ⟨"java/util/NoSuchElementException", "<init>", "(Ljava/lang/String;)V"⟩ ∈ wA := wA_mem (List.mem_of_getElem? (i := 409) (by decide +kernel)) (by decide +kernel)
theorem wm_ml_L_72 : Cond.methodLink RL 72 yL_value ∈ wA := wA_mem (List.mem_of_getElem? (i := 415) (by decide +kernel)) (by decide +kernel)
theorem wm_st_L_value : Cond.static yL_value ∈ wA := wA_mem (List.mem_of_getElem? (i := 416) (by decide +kernel)) (by decide +kernel)
theorem wm_ml_L_33 : Cond.methodLink RL 33 yX4_value ∈ wA := wA_mem (List.mem_of_getElem? (i := 418) (by decide +kernel)) (by decide +kernel)
theorem wm_im_X4_value : Cond.instanceMethod yX4_value ∈ wA := wA_mem (List.mem_of_getElem? (i := 419) (by decide +kernel)) (by decide +kernel)
theorem wm_se_X4_value : Cond.selects RX4 yX4_value yX4_value ∈ wA := wA_mem (List.mem_of_getElem? (i := 420) (by decide +kernel)) (by decide +kernel)
theorem wm_cd_X4_value : Cond.code yX4_value cX4_value 2 (some .int) ∈ wA := wA_mem (List.mem_of_getElem? (i := 421) (by decide +kernel)) (by decide +kernel)
theorem wm_ml_X4_107 : Cond.methodLink RX4 107 yX3_has ∈ wA := wA_mem (List.mem_of_getElem? (i := 422) (by decide +kernel)) (by decide +kernel)
theorem wm_ml_X4_112 : Cond.methodLink RX4 112 yX3_answer ∈ wA := wA_mem (List.mem_of_getElem? (i := 424) (by decide +kernel)) (by decide +kernel)
theorem wm_im_X3_answer : Cond.instanceMethod yX3_answer ∈ wA := wA_mem (List.mem_of_getElem? (i := 425) (by decide +kernel)) (by decide +kernel)
theorem wm_se_X3_answer : Cond.selects RX3 yX3_answer yX3_answer ∈ wA := wA_mem (List.mem_of_getElem? (i := 426) (by decide +kernel)) (by decide +kernel)
theorem wm_cd_X3_answer : Cond.code yX3_answer cX3_answer 4 (some .int) ∈ wA := wA_mem (List.mem_of_getElem? (i := 427) (by decide +kernel)) (by decide +kernel)
theorem wm_ml_X3_89 : Cond.methodLink RX3 89 yX3_allHold ∈ wA := wA_mem (List.mem_of_getElem? (i := 428) (by decide +kernel)) (by decide +kernel)
theorem wm_ml_L_75 : Cond.methodLink RL 75 yL_reckon ∈ wA := wA_mem (List.mem_of_getElem? (i := 429) (by decide +kernel)) (by decide +kernel)
theorem wm_st_L_reckon : Cond.static yL_reckon ∈ wA := wA_mem (List.mem_of_getElem? (i := 430) (by decide +kernel)) (by decide +kernel)
theorem wm_ml_L_36 : Cond.methodLink RL 36 yX4_reckon ∈ wA := wA_mem (List.mem_of_getElem? (i := 432) (by decide +kernel)) (by decide +kernel)
theorem wm_im_X4_reckon : Cond.instanceMethod yX4_reckon ∈ wA := wA_mem (List.mem_of_getElem? (i := 433) (by decide +kernel)) (by decide +kernel)
theorem wm_se_X4_reckon : Cond.selects RX4 yX4_reckon yX4_reckon ∈ wA := wA_mem (List.mem_of_getElem? (i := 434) (by decide +kernel)) (by decide +kernel)
theorem wm_cd_X4_reckon : Cond.code yX4_reckon cX4_reckon 4 (some .int) ∈ wA := wA_mem (List.mem_of_getElem? (i := 435) (by decide +kernel)) (by decide +kernel)
theorem wm_ml_X4_116 : Cond.methodLink RX4 116 yX1_isOperation ∈ wA := wA_mem (List.mem_of_getElem? (i := 436) (by decide +kernel)) (by decide +kernel)
theorem wm_st_X1_isOperation : Cond.static yX1_isOperation ∈ wA := wA_mem (List.mem_of_getElem? (i := 437) (by decide +kernel)) (by decide +kernel)
theorem wm_cd_X1_isOperation : Cond.code yX1_isOperation cX1_isOperation 1 (some .boolean) ∈ wA := wA_mem (List.mem_of_getElem? (i := 438) (by decide +kernel)) (by decide +kernel)
theorem wm_ml_X4_121 : Cond.methodLink RX4 121 yX1_isNumber ∈ wA := wA_mem (List.mem_of_getElem? (i := 439) (by decide +kernel)) (by decide +kernel)
theorem wm_ml_X4_126 : Cond.methodLink RX4 126 yX1_operate ∈ wA := wA_mem (List.mem_of_getElem? (i := 441) (by decide +kernel)) (by decide +kernel)
theorem wm_cl_L_41 : Cond.classLink RL 41 RX5 ∈ wA := wA_mem (List.mem_of_getElem? (i := 442) (by decide +kernel)) (by decide +kernel)
theorem wm_it_X5 : Cond.instantiable RX5 14 ∈ wA := wA_mem (List.mem_of_getElem? (i := 443) (by decide +kernel)) (by decide +kernel)
theorem wm_ml_L_43 : Cond.methodLink RL 43 yX5_init ∈ wA := wA_mem (List.mem_of_getElem? (i := 444) (by decide +kernel)) (by decide +kernel)
theorem wm_im_X5_init : Cond.instanceMethod yX5_init ∈ wA := wA_mem (List.mem_of_getElem? (i := 445) (by decide +kernel)) (by decide +kernel)
theorem wm_cd_X5_init : Cond.code yX5_init cX5_init 1 none ∈ wA := wA_mem (List.mem_of_getElem? (i := 446) (by decide +kernel)) (by decide +kernel)
theorem wm_ml_X5_1 : Cond.methodLink RX5 1 objectInit ∈ wA := wA_mem (List.mem_of_getElem? (i := 447) (by decide +kernel)) (by decide +kernel)
theorem wm_fl_X5_34 : Cond.fieldLink RX5 34 "FloatSolverModel" "thrown" "I" ∈ wA := wA_mem (List.mem_of_getElem? (i := 448) (by decide +kernel)) (by decide +kernel)
theorem wm_fl_X5_76 : Cond.fieldLink RX5 76 "FloatSolverModel" "terms" "I" ∈ wA := wA_mem (List.mem_of_getElem? (i := 449) (by decide +kernel)) (by decide +kernel)
theorem wm_fl_X5_7 : Cond.fieldLink RX5 7 "FloatSolverModel" "kindOf" "[I" ∈ wA := wA_mem (List.mem_of_getElem? (i := 450) (by decide +kernel)) (by decide +kernel)
theorem wm_fl_X5_13 : Cond.fieldLink RX5 13 "FloatSolverModel" "first" "[I" ∈ wA := wA_mem (List.mem_of_getElem? (i := 451) (by decide +kernel)) (by decide +kernel)
theorem wm_fl_X5_16 : Cond.fieldLink RX5 16 "FloatSolverModel" "second" "[I" ∈ wA := wA_mem (List.mem_of_getElem? (i := 452) (by decide +kernel)) (by decide +kernel)
theorem wm_fl_X5_19 : Cond.fieldLink RX5 19 "FloatSolverModel" "third" "[I" ∈ wA := wA_mem (List.mem_of_getElem? (i := 453) (by decide +kernel)) (by decide +kernel)
theorem wm_fl_X5_99 : Cond.fieldLink RX5 99 "FloatSolverModel" "claims" "I" ∈ wA := wA_mem (List.mem_of_getElem? (i := 454) (by decide +kernel)) (by decide +kernel)
theorem wm_fl_X5_22 : Cond.fieldLink RX5 22 "FloatSolverModel" "claimed" "[I" ∈ wA := wA_mem (List.mem_of_getElem? (i := 455) (by decide +kernel)) (by decide +kernel)
theorem wm_fl_X5_102 : Cond.fieldLink RX5 102 "FloatSolverModel" "level" "I" ∈ wA := wA_mem (List.mem_of_getElem? (i := 456) (by decide +kernel)) (by decide +kernel)
theorem wm_fl_X5_25 : Cond.fieldLink RX5 25 "FloatSolverModel" "under" "[I" ∈ wA := wA_mem (List.mem_of_getElem? (i := 457) (by decide +kernel)) (by decide +kernel)
theorem wm_fl_X5_105 : Cond.fieldLink RX5 105 "FloatSolverModel" "checks" "I" ∈ wA := wA_mem (List.mem_of_getElem? (i := 458) (by decide +kernel)) (by decide +kernel)
theorem wm_fl_X5_108 : Cond.fieldLink RX5 108 "FloatSolverModel" "found" "Z" ∈ wA := wA_mem (List.mem_of_getElem? (i := 459) (by decide +kernel)) (by decide +kernel)
theorem wm_fl_X5_28 : Cond.fieldLink RX5 28 "FloatSolverModel" "numbers" "[I" ∈ wA := wA_mem (List.mem_of_getElem? (i := 460) (by decide +kernel)) (by decide +kernel)
theorem wm_fl_X5_31 : Cond.fieldLink RX5 31 "FloatSolverModel" "worth" "[I" ∈ wA := wA_mem (List.mem_of_getElem? (i := 461) (by decide +kernel)) (by decide +kernel)
theorem wm_ml_L_50 : Cond.methodLink RL 50 yX5_thrown ∈ wA := wA_mem (List.mem_of_getElem? (i := 491) (by decide +kernel)) (by decide +kernel)
theorem wm_im_X5_thrown : Cond.instanceMethod yX5_thrown ∈ wA := wA_mem (List.mem_of_getElem? (i := 492) (by decide +kernel)) (by decide +kernel)
theorem wm_se_X5_thrown : Cond.selects RX5 yX5_thrown yX5_thrown ∈ wA := wA_mem (List.mem_of_getElem? (i := 493) (by decide +kernel)) (by decide +kernel)
theorem wm_cd_X5_thrown : Cond.code yX5_thrown cX5_thrown 1 (some .int) ∈ wA := wA_mem (List.mem_of_getElem? (i := 494) (by decide +kernel)) (by decide +kernel)
theorem wm_ml_L_49 : Cond.methodLink RL 49 yX5_term ∈ wA := wA_mem (List.mem_of_getElem? (i := 495) (by decide +kernel)) (by decide +kernel)
theorem wm_im_X5_term : Cond.instanceMethod yX5_term ∈ wA := wA_mem (List.mem_of_getElem? (i := 496) (by decide +kernel)) (by decide +kernel)
theorem wm_se_X5_term : Cond.selects RX5 yX5_term yX5_term ∈ wA := wA_mem (List.mem_of_getElem? (i := 497) (by decide +kernel)) (by decide +kernel)
theorem wm_cd_X5_term : Cond.code yX5_term cX5_term 7 (some .int) ∈ wA := wA_mem (List.mem_of_getElem? (i := 498) (by decide +kernel)) (by decide +kernel)
theorem wm_ml_X5_91 : Cond.methodLink RX5 91 yX5_fits ∈ wA := wA_mem (List.mem_of_getElem? (i := 499) (by decide +kernel)) (by decide +kernel)
theorem wm_im_X5_fits : Cond.instanceMethod yX5_fits ∈ wA := wA_mem (List.mem_of_getElem? (i := 501) (by decide +kernel)) (by decide +kernel)
theorem wm_cd_X5_fits : Cond.code yX5_fits cX5_fits 5 (some .boolean) ∈ wA := wA_mem (List.mem_of_getElem? (i := 502) (by decide +kernel)) (by decide +kernel)
theorem wm_ml_X5_79 : Cond.methodLink RX5 79 yX5_out ∈ wA := wA_mem (List.mem_of_getElem? (i := 503) (by decide +kernel)) (by decide +kernel)
theorem wm_st_X5_out : Cond.static yX5_out ∈ wA := wA_mem (List.mem_of_getElem? (i := 504) (by decide +kernel)) (by decide +kernel)
theorem wm_cd_X5_out : Cond.code yX5_out cX5_out 2 (some .boolean) ∈ wA := wA_mem (List.mem_of_getElem? (i := 505) (by decide +kernel)) (by decide +kernel)
theorem wm_ml_X5_82 : Cond.methodLink RX5 82 yX5_isTruth ∈ wA := wA_mem (List.mem_of_getElem? (i := 506) (by decide +kernel)) (by decide +kernel)
theorem wm_im_X5_isTruth : Cond.instanceMethod yX5_isTruth ∈ wA := wA_mem (List.mem_of_getElem? (i := 508) (by decide +kernel)) (by decide +kernel)
theorem wm_cd_X5_isTruth : Cond.code yX5_isTruth cX5_isTruth 2 (some .boolean) ∈ wA := wA_mem (List.mem_of_getElem? (i := 509) (by decide +kernel)) (by decide +kernel)
theorem wm_ml_X5_85 : Cond.methodLink RX5 85 yX5_isNumber ∈ wA := wA_mem (List.mem_of_getElem? (i := 510) (by decide +kernel)) (by decide +kernel)
theorem wm_im_X5_isNumber : Cond.instanceMethod yX5_isNumber ∈ wA := wA_mem (List.mem_of_getElem? (i := 512) (by decide +kernel)) (by decide +kernel)
theorem wm_cd_X5_isNumber : Cond.code yX5_isNumber cX5_isNumber 2 (some .boolean) ∈ wA := wA_mem (List.mem_of_getElem? (i := 513) (by decide +kernel)) (by decide +kernel)
theorem wm_ml_X5_88 : Cond.methodLink RX5 88 yX5_names ∈ wA := wA_mem (List.mem_of_getElem? (i := 514) (by decide +kernel)) (by decide +kernel)
theorem wm_st_X5_names : Cond.static yX5_names ∈ wA := wA_mem (List.mem_of_getElem? (i := 515) (by decide +kernel)) (by decide +kernel)
theorem wm_cd_X5_names : Cond.code yX5_names cX5_names 1 (some .int) ∈ wA := wA_mem (List.mem_of_getElem? (i := 516) (by decide +kernel)) (by decide +kernel)
theorem wm_ml_L_56 : Cond.methodLink RL 56 yX5_claim ∈ wA := wA_mem (List.mem_of_getElem? (i := 517) (by decide +kernel)) (by decide +kernel)
theorem wm_im_X5_claim : Cond.instanceMethod yX5_claim ∈ wA := wA_mem (List.mem_of_getElem? (i := 518) (by decide +kernel)) (by decide +kernel)
theorem wm_se_X5_claim : Cond.selects RX5 yX5_claim yX5_claim ∈ wA := wA_mem (List.mem_of_getElem? (i := 519) (by decide +kernel)) (by decide +kernel)
theorem wm_cd_X5_claim : Cond.code yX5_claim cX5_claim 2 (some .int) ∈ wA := wA_mem (List.mem_of_getElem? (i := 520) (by decide +kernel)) (by decide +kernel)
theorem wm_ml_L_60 : Cond.methodLink RL 60 yX5_open ∈ wA := wA_mem (List.mem_of_getElem? (i := 521) (by decide +kernel)) (by decide +kernel)
theorem wm_im_X5_open : Cond.instanceMethod yX5_open ∈ wA := wA_mem (List.mem_of_getElem? (i := 522) (by decide +kernel)) (by decide +kernel)
theorem wm_se_X5_open : Cond.selects RX5 yX5_open yX5_open ∈ wA := wA_mem (List.mem_of_getElem? (i := 523) (by decide +kernel)) (by decide +kernel)
theorem wm_cd_X5_open : Cond.code yX5_open cX5_open 1 (some .int) ∈ wA := wA_mem (List.mem_of_getElem? (i := 524) (by decide +kernel)) (by decide +kernel)
theorem wm_ml_L_63 : Cond.methodLink RL 63 yX5_close ∈ wA := wA_mem (List.mem_of_getElem? (i := 525) (by decide +kernel)) (by decide +kernel)
theorem wm_im_X5_close : Cond.instanceMethod yX5_close ∈ wA := wA_mem (List.mem_of_getElem? (i := 526) (by decide +kernel)) (by decide +kernel)
theorem wm_se_X5_close : Cond.selects RX5 yX5_close yX5_close ∈ wA := wA_mem (List.mem_of_getElem? (i := 527) (by decide +kernel)) (by decide +kernel)
theorem wm_cd_X5_close : Cond.code yX5_close cX5_close 2 (some .int) ∈ wA := wA_mem (List.mem_of_getElem? (i := 528) (by decide +kernel)) (by decide +kernel)
theorem wm_ml_L_68 : Cond.methodLink RL 68 yX5_check ∈ wA := wA_mem (List.mem_of_getElem? (i := 529) (by decide +kernel)) (by decide +kernel)
theorem wm_im_X5_check : Cond.instanceMethod yX5_check ∈ wA := wA_mem (List.mem_of_getElem? (i := 530) (by decide +kernel)) (by decide +kernel)
theorem wm_se_X5_check : Cond.selects RX5 yX5_check yX5_check ∈ wA := wA_mem (List.mem_of_getElem? (i := 531) (by decide +kernel)) (by decide +kernel)
theorem wm_cd_X5_check : Cond.code yX5_check cX5_check 2 (some .boolean) ∈ wA := wA_mem (List.mem_of_getElem? (i := 532) (by decide +kernel)) (by decide +kernel)
theorem wm_ml_X5_112 : Cond.methodLink RX5 112 yX5_reckonAll ∈ wA := wA_mem (List.mem_of_getElem? (i := 533) (by decide +kernel)) (by decide +kernel)
theorem wm_im_X5_reckonAll : Cond.instanceMethod yX5_reckonAll ∈ wA := wA_mem (List.mem_of_getElem? (i := 535) (by decide +kernel)) (by decide +kernel)
theorem wm_cd_X5_reckonAll : Cond.code yX5_reckonAll cX5_reckonAll 6 none ∈ wA := wA_mem (List.mem_of_getElem? (i := 536) (by decide +kernel)) (by decide +kernel)
theorem wm_ml_X5_95 : Cond.methodLink RX5 95 yX5_operate ∈ wA := wA_mem (List.mem_of_getElem? (i := 537) (by decide +kernel)) (by decide +kernel)
theorem wm_st_X5_operate : Cond.static yX5_operate ∈ wA := wA_mem (List.mem_of_getElem? (i := 538) (by decide +kernel)) (by decide +kernel)
theorem wm_cd_X5_operate : Cond.code yX5_operate cX5_operate 3 (some .int) ∈ wA := wA_mem (List.mem_of_getElem? (i := 539) (by decide +kernel)) (by decide +kernel)
theorem wm_ml_X5_58 : Cond.methodLink RX5 58 yX5_add ∈ wA := wA_mem (List.mem_of_getElem? (i := 540) (by decide +kernel)) (by decide +kernel)
theorem wm_st_X5_add : Cond.static yX5_add ∈ wA := wA_mem (List.mem_of_getElem? (i := 541) (by decide +kernel)) (by decide +kernel)
theorem wm_cd_X5_add : Cond.code yX5_add cX5_add 3 (some .int) ∈ wA := wA_mem (List.mem_of_getElem? (i := 542) (by decide +kernel)) (by decide +kernel)
theorem wm_ml_X5_46 : Cond.methodLink RX5 46 yX5_nan ∈ wA := wA_mem (List.mem_of_getElem? (i := 543) (by decide +kernel)) (by decide +kernel)
theorem wm_st_X5_nan : Cond.static yX5_nan ∈ wA := wA_mem (List.mem_of_getElem? (i := 544) (by decide +kernel)) (by decide +kernel)
theorem wm_cd_X5_nan : Cond.code yX5_nan cX5_nan 1 (some .boolean) ∈ wA := wA_mem (List.mem_of_getElem? (i := 545) (by decide +kernel)) (by decide +kernel)
theorem wm_ml_X5_38 : Cond.methodLink RX5 38 yX5_infinite ∈ wA := wA_mem (List.mem_of_getElem? (i := 546) (by decide +kernel)) (by decide +kernel)
theorem wm_st_X5_infinite : Cond.static yX5_infinite ∈ wA := wA_mem (List.mem_of_getElem? (i := 547) (by decide +kernel)) (by decide +kernel)
theorem wm_cd_X5_infinite : Cond.code yX5_infinite cX5_infinite 1 (some .boolean) ∈ wA := wA_mem (List.mem_of_getElem? (i := 548) (by decide +kernel)) (by decide +kernel)
theorem wm_ml_X5_49 : Cond.methodLink RX5 49 yX5_worthOf ∈ wA := wA_mem (List.mem_of_getElem? (i := 549) (by decide +kernel)) (by decide +kernel)
theorem wm_st_X5_worthOf : Cond.static yX5_worthOf ∈ wA := wA_mem (List.mem_of_getElem? (i := 550) (by decide +kernel)) (by decide +kernel)
theorem wm_cd_X5_worthOf : Cond.code yX5_worthOf cX5_worthOf 2 (some .int) ∈ wA := wA_mem (List.mem_of_getElem? (i := 551) (by decide +kernel)) (by decide +kernel)
theorem wm_ml_X5_42 : Cond.methodLink RX5 42 yX5_quarters ∈ wA := wA_mem (List.mem_of_getElem? (i := 552) (by decide +kernel)) (by decide +kernel)
theorem wm_st_X5_quarters : Cond.static yX5_quarters ∈ wA := wA_mem (List.mem_of_getElem? (i := 553) (by decide +kernel)) (by decide +kernel)
theorem wm_cd_X5_quarters : Cond.code yX5_quarters cX5_quarters 1 (some .int) ∈ wA := wA_mem (List.mem_of_getElem? (i := 554) (by decide +kernel)) (by decide +kernel)
theorem wm_ml_X5_52 : Cond.methodLink RX5 52 yX5_round ∈ wA := wA_mem (List.mem_of_getElem? (i := 555) (by decide +kernel)) (by decide +kernel)
theorem wm_st_X5_round : Cond.static yX5_round ∈ wA := wA_mem (List.mem_of_getElem? (i := 556) (by decide +kernel)) (by decide +kernel)
theorem wm_cd_X5_round : Cond.code yX5_round cX5_round 7 (some .int) ∈ wA := wA_mem (List.mem_of_getElem? (i := 557) (by decide +kernel)) (by decide +kernel)
theorem wm_ml_X5_62 : Cond.methodLink RX5 62 yX5_multiply ∈ wA := wA_mem (List.mem_of_getElem? (i := 558) (by decide +kernel)) (by decide +kernel)
theorem wm_st_X5_multiply : Cond.static yX5_multiply ∈ wA := wA_mem (List.mem_of_getElem? (i := 559) (by decide +kernel)) (by decide +kernel)
theorem wm_cd_X5_multiply : Cond.code yX5_multiply cX5_multiply 3 (some .int) ∈ wA := wA_mem (List.mem_of_getElem? (i := 560) (by decide +kernel)) (by decide +kernel)
theorem wm_ml_X5_55 : Cond.methodLink RX5 55 yX5_zero ∈ wA := wA_mem (List.mem_of_getElem? (i := 561) (by decide +kernel)) (by decide +kernel)
theorem wm_st_X5_zero : Cond.static yX5_zero ∈ wA := wA_mem (List.mem_of_getElem? (i := 562) (by decide +kernel)) (by decide +kernel)
theorem wm_cd_X5_zero : Cond.code yX5_zero cX5_zero 1 (some .boolean) ∈ wA := wA_mem (List.mem_of_getElem? (i := 563) (by decide +kernel)) (by decide +kernel)
theorem wm_ml_X5_65 : Cond.methodLink RX5 65 yX5_less ∈ wA := wA_mem (List.mem_of_getElem? (i := 564) (by decide +kernel)) (by decide +kernel)
theorem wm_st_X5_less : Cond.static yX5_less ∈ wA := wA_mem (List.mem_of_getElem? (i := 565) (by decide +kernel)) (by decide +kernel)
theorem wm_cd_X5_less : Cond.code yX5_less cX5_less 2 (some .boolean) ∈ wA := wA_mem (List.mem_of_getElem? (i := 566) (by decide +kernel)) (by decide +kernel)
theorem wm_ml_X5_69 : Cond.methodLink RX5 69 yX5_truth ∈ wA := wA_mem (List.mem_of_getElem? (i := 567) (by decide +kernel)) (by decide +kernel)
theorem wm_st_X5_truth : Cond.static yX5_truth ∈ wA := wA_mem (List.mem_of_getElem? (i := 568) (by decide +kernel)) (by decide +kernel)
theorem wm_cd_X5_truth : Cond.code yX5_truth cX5_truth 1 (some .int) ∈ wA := wA_mem (List.mem_of_getElem? (i := 569) (by decide +kernel)) (by decide +kernel)
theorem wm_ml_X5_73 : Cond.methodLink RX5 73 yX5_equal ∈ wA := wA_mem (List.mem_of_getElem? (i := 570) (by decide +kernel)) (by decide +kernel)
theorem wm_st_X5_equal : Cond.static yX5_equal ∈ wA := wA_mem (List.mem_of_getElem? (i := 571) (by decide +kernel)) (by decide +kernel)
theorem wm_cd_X5_equal : Cond.code yX5_equal cX5_equal 2 (some .boolean) ∈ wA := wA_mem (List.mem_of_getElem? (i := 572) (by decide +kernel)) (by decide +kernel)
theorem wm_ml_X5_116 : Cond.methodLink RX5 116 yX5_allHold ∈ wA := wA_mem (List.mem_of_getElem? (i := 573) (by decide +kernel)) (by decide +kernel)
theorem wm_im_X5_allHold : Cond.instanceMethod yX5_allHold ∈ wA := wA_mem (List.mem_of_getElem? (i := 575) (by decide +kernel)) (by decide +kernel)
theorem wm_cd_X5_allHold : Cond.code yX5_allHold cX5_allHold 3 (some .boolean) ∈ wA := wA_mem (List.mem_of_getElem? (i := 576) (by decide +kernel)) (by decide +kernel)
theorem wm_ml_L_71 : Cond.methodLink RL 71 yX5_model ∈ wA := wA_mem (List.mem_of_getElem? (i := 577) (by decide +kernel)) (by decide +kernel)
theorem wm_im_X5_model : Cond.instanceMethod yX5_model ∈ wA := wA_mem (List.mem_of_getElem? (i := 578) (by decide +kernel)) (by decide +kernel)
theorem wm_se_X5_model : Cond.selects RX5 yX5_model yX5_model ∈ wA := wA_mem (List.mem_of_getElem? (i := 579) (by decide +kernel)) (by decide +kernel)
theorem wm_cd_X5_model : Cond.code yX5_model cX5_model 2 (some .int) ∈ wA := wA_mem (List.mem_of_getElem? (i := 580) (by decide +kernel)) (by decide +kernel)
theorem wm_ml_L_74 : Cond.methodLink RL 74 yX5_value ∈ wA := wA_mem (List.mem_of_getElem? (i := 581) (by decide +kernel)) (by decide +kernel)
theorem wm_im_X5_value : Cond.instanceMethod yX5_value ∈ wA := wA_mem (List.mem_of_getElem? (i := 582) (by decide +kernel)) (by decide +kernel)
theorem wm_se_X5_value : Cond.selects RX5 yX5_value yX5_value ∈ wA := wA_mem (List.mem_of_getElem? (i := 583) (by decide +kernel)) (by decide +kernel)
theorem wm_cd_X5_value : Cond.code yX5_value cX5_value 2 (some .int) ∈ wA := wA_mem (List.mem_of_getElem? (i := 584) (by decide +kernel)) (by decide +kernel)
theorem wm_ml_L_78 : Cond.methodLink RL 78 yX5_reckon ∈ wA := wA_mem (List.mem_of_getElem? (i := 585) (by decide +kernel)) (by decide +kernel)
theorem wm_im_X5_reckon : Cond.instanceMethod yX5_reckon ∈ wA := wA_mem (List.mem_of_getElem? (i := 586) (by decide +kernel)) (by decide +kernel)
theorem wm_se_X5_reckon : Cond.selects RX5 yX5_reckon yX5_reckon ∈ wA := wA_mem (List.mem_of_getElem? (i := 587) (by decide +kernel)) (by decide +kernel)
theorem wm_cd_X5_reckon : Cond.code yX5_reckon cX5_reckon 4 (some .int) ∈ wA := wA_mem (List.mem_of_getElem? (i := 588) (by decide +kernel)) (by decide +kernel)
theorem wm_ml_L_82 : Cond.methodLink RL 82 yX5_terms ∈ wA := wA_mem (List.mem_of_getElem? (i := 589) (by decide +kernel)) (by decide +kernel)
theorem wm_im_X5_terms : Cond.instanceMethod yX5_terms ∈ wA := wA_mem (List.mem_of_getElem? (i := 590) (by decide +kernel)) (by decide +kernel)
theorem wm_se_X5_terms : Cond.selects RX5 yX5_terms yX5_terms ∈ wA := wA_mem (List.mem_of_getElem? (i := 591) (by decide +kernel)) (by decide +kernel)
theorem wm_cd_X5_terms : Cond.code yX5_terms cX5_terms 1 (some .int) ∈ wA := wA_mem (List.mem_of_getElem? (i := 592) (by decide +kernel)) (by decide +kernel)
theorem wm_ml_L_86 : Cond.methodLink RL 86 yX5_claims ∈ wA := wA_mem (List.mem_of_getElem? (i := 593) (by decide +kernel)) (by decide +kernel)
theorem wm_im_X5_claims : Cond.instanceMethod yX5_claims ∈ wA := wA_mem (List.mem_of_getElem? (i := 594) (by decide +kernel)) (by decide +kernel)
theorem wm_se_X5_claims : Cond.selects RX5 yX5_claims yX5_claims ∈ wA := wA_mem (List.mem_of_getElem? (i := 595) (by decide +kernel)) (by decide +kernel)
theorem wm_cd_X5_claims : Cond.code yX5_claims cX5_claims 1 (some .int) ∈ wA := wA_mem (List.mem_of_getElem? (i := 596) (by decide +kernel)) (by decide +kernel)
theorem wm_ml_L_90 : Cond.methodLink RL 90 yX5_level ∈ wA := wA_mem (List.mem_of_getElem? (i := 597) (by decide +kernel)) (by decide +kernel)
theorem wm_im_X5_level : Cond.instanceMethod yX5_level ∈ wA := wA_mem (List.mem_of_getElem? (i := 598) (by decide +kernel)) (by decide +kernel)
theorem wm_se_X5_level : Cond.selects RX5 yX5_level yX5_level ∈ wA := wA_mem (List.mem_of_getElem? (i := 599) (by decide +kernel)) (by decide +kernel)
theorem wm_cd_X5_level : Cond.code yX5_level cX5_level 1 (some .int) ∈ wA := wA_mem (List.mem_of_getElem? (i := 600) (by decide +kernel)) (by decide +kernel)
theorem wm_ml_L_94 : Cond.methodLink RL 94 yX5_checks ∈ wA := wA_mem (List.mem_of_getElem? (i := 601) (by decide +kernel)) (by decide +kernel)
theorem wm_im_X5_checks : Cond.instanceMethod yX5_checks ∈ wA := wA_mem (List.mem_of_getElem? (i := 602) (by decide +kernel)) (by decide +kernel)
theorem wm_se_X5_checks : Cond.selects RX5 yX5_checks yX5_checks ∈ wA := wA_mem (List.mem_of_getElem? (i := 603) (by decide +kernel)) (by decide +kernel)
theorem wm_cd_X5_checks : Cond.code yX5_checks cX5_checks 1 (some .int) ∈ wA := wA_mem (List.mem_of_getElem? (i := 604) (by decide +kernel)) (by decide +kernel)
theorem wm_ac_long : Cond.arrayClass .long ∈ wA := wA_mem (List.mem_of_getElem? (i := 605) (by decide +kernel)) (by decide +kernel)
theorem wm_se_X4_search : Cond.selects RX4 yX4_search yX4_search ∈ wA := wA_mem (List.mem_of_getElem? (i := 0) (by decide +kernel)) (by decide +kernel)
theorem wm_se_X3_workOut : Cond.selects RX3 yX3_workOut yX3_workOut ∈ wA := wA_mem (List.mem_of_getElem? (i := 1) (by decide +kernel)) (by decide +kernel)
theorem wm_se_X3_fits : Cond.selects RX3 yX3_fits yX3_fits ∈ wA := wA_mem (List.mem_of_getElem? (i := 2) (by decide +kernel)) (by decide +kernel)
theorem wm_se_X3_partsBelow : Cond.selects RX3 yX3_partsBelow yX3_partsBelow ∈ wA := wA_mem (List.mem_of_getElem? (i := 4) (by decide +kernel)) (by decide +kernel)
theorem wm_se_X3_noteVariables : Cond.selects RX3 yX3_noteVariables yX3_noteVariables ∈ wA := wA_mem (List.mem_of_getElem? (i := 5) (by decide +kernel)) (by decide +kernel)
theorem wm_se_X5_fits : Cond.selects RX5 yX5_fits yX5_fits ∈ wA := wA_mem (List.mem_of_getElem? (i := 6) (by decide +kernel)) (by decide +kernel)
theorem wm_se_X5_isTruth : Cond.selects RX5 yX5_isTruth yX5_isTruth ∈ wA := wA_mem (List.mem_of_getElem? (i := 7) (by decide +kernel)) (by decide +kernel)
theorem wm_se_X5_isNumber : Cond.selects RX5 yX5_isNumber yX5_isNumber ∈ wA := wA_mem (List.mem_of_getElem? (i := 8) (by decide +kernel)) (by decide +kernel)
theorem wm_se_X5_reckonAll : Cond.selects RX5 yX5_reckonAll yX5_reckonAll ∈ wA := wA_mem (List.mem_of_getElem? (i := 9) (by decide +kernel)) (by decide +kernel)
theorem wm_se_X5_allHold : Cond.selects RX5 yX5_allHold yX5_allHold ∈ wA := wA_mem (List.mem_of_getElem? (i := 10) (by decide +kernel)) (by decide +kernel)
-- X0 lays at [75, 77, 79, 81]
theorem wf_X0 : ∀ w ∈ u_ws RX0 TX0 4, w ∈ wA := by decide +kernel
-- X3 lays at [47, 49, 51, 53, 55, 57, 59, 61]
theorem wf_X3 : ∀ w ∈ u_ws RX3 TX3 8, w ∈ wA := by decide +kernel
-- X4 lays at [89, 91, 93, 95, 97]
theorem wf_X4 : ∀ w ∈ u_ws RX4 TX4 5, w ∈ wA := by decide +kernel
-- X5 lays at [462, 464, 466, 468, 470, 472, 474, 476, 478, 480, 482, 484, 486, 488]
theorem wf_X5 : ∀ w ∈ u_ws RX5 TX5 14, w ∈ wA := by decide +kernel
abbrev wsX4_init : List Cond := .code yX4_init cX4_init 1 none :: wA
abbrev wsX3_init : List Cond := .code yX3_init cX3_init 1 none :: wA
abbrev wsX0_init : List Cond := .code yX0_init cX0_init 1 none :: wA
abbrev wsX4_check : List Cond := .code yX4_check cX4_check 1 (some .boolean) :: wA
abbrev wsX4_search : List Cond := .code yX4_search cX4_search 9 (some .boolean) :: wA
abbrev wsX0_claimedTerms : List Cond := .code yX0_claimedTerms cX0_claimedTerms 3 (some .int) :: wA
abbrev wsX3_partsOf : List Cond := .code yX3_partsOf cX3_partsOf 4 (some .int) :: wA
abbrev wsX3_varyingWith : List Cond := .code yX3_varyingWith cX3_varyingWith 2 (some .int) :: wA
abbrev wsX3_allHold : List Cond := .code yX3_allHold cX3_allHold 7 (some .boolean) :: wA
abbrev wsX3_workOut : List Cond := .code yX3_workOut cX3_workOut 8 (some .int) :: wA
abbrev wsX1_operate : List Cond := .code yX1_operate cX1_operate 3 (some .int) :: wA
abbrev wsX1_negate : List Cond := .code yX1_negate cX1_negate 1 (some .int) :: wA
abbrev wsX1_add : List Cond := .code yX1_add cX1_add 3 (some .int) :: wA
abbrev wsX1_isNan : List Cond := .code yX1_isNan cX1_isNan 1 (some .boolean) :: wA
abbrev wsX1_isInfinite : List Cond := .code yX1_isInfinite cX1_isInfinite 1 (some .boolean) :: wA
abbrev wsX1_signedQuarters : List Cond := .code yX1_signedQuarters cX1_signedQuarters 3 (some .int) :: wA
abbrev wsX1_rounded : List Cond := .code yX1_rounded cX1_rounded 5 (some .int) :: wA
abbrev wsX1_multiply : List Cond := .code yX1_multiply cX1_multiply 3 (some .int) :: wA
abbrev wsX1_isZero : List Cond := .code yX1_isZero cX1_isZero 1 (some .boolean) :: wA
abbrev wsX1_isLess : List Cond := .code yX1_isLess cX1_isLess 2 (some .boolean) :: wA
abbrev wsX1_isEqual : List Cond := .code yX1_isEqual cX1_isEqual 2 (some .boolean) :: wA
abbrev wsX4_terms : List Cond := .code yX4_terms cX4_terms 1 (some .int) :: wA
abbrev wsX3_count : List Cond := .code yX3_count cX3_count 1 (some .int) :: wA
abbrev wsX4_claims : List Cond := .code yX4_claims cX4_claims 1 (some .int) :: wA
abbrev wsX0_count : List Cond := .code yX0_count cX0_count 1 (some .int) :: wA
abbrev wsX4_level : List Cond := .code yX4_level cX4_level 1 (some .int) :: wA
abbrev wsX0_top : List Cond := .code yX0_top cX0_top 1 (some .int) :: wA
abbrev wsX4_checks : List Cond := .code yX4_checks cX4_checks 1 (some .int) :: wA
abbrev wsL_term : List Cond := .codeWith yL_term cL_term 7 (some .int) [(0, 14, 17, 13), (0, 14, 21, 15)] :: wA
abbrev wsX4_term : List Cond := .code yX4_term cX4_term 8 (some .int) :: wA
abbrev wsX3_allows : List Cond := .code yX3_allows cX3_allows 5 (some .boolean) :: wA
abbrev wsX2_isKind : List Cond := .code yX2_isKind cX2_isKind 1 (some .boolean) :: wA
abbrev wsX2_ofFirst : List Cond := .code yX2_ofFirst cX2_ofFirst 1 (some .int) :: wA
abbrev wsX3_fits : List Cond := .code yX3_fits cX3_fits 3 (some .boolean) :: wA
abbrev wsX1_isNumber : List Cond := .code yX1_isNumber cX1_isNumber 1 (some .boolean) :: wA
abbrev wsX3_isNumberTerm : List Cond := .code yX3_isNumberTerm cX3_isNumberTerm 2 (some .boolean) :: wA
abbrev wsX3_has : List Cond := .code yX3_has cX3_has 2 (some .boolean) :: wA
abbrev wsX2_givesTruth : List Cond := .code yX2_givesTruth cX2_givesTruth 1 (some .boolean) :: wA
abbrev wsX3_isTruth : List Cond := .code yX3_isTruth cX3_isTruth 2 (some .boolean) :: wA
abbrev wsX2_ofSecond : List Cond := .code yX2_ofSecond cX2_ofSecond 1 (some .int) :: wA
abbrev wsX2_ofThird : List Cond := .code yX2_ofThird cX2_ofThird 1 (some .int) :: wA
abbrev wsX3_find : List Cond := .code yX3_find cX3_find 6 (some .int) :: wA
abbrev wsX3_isFull : List Cond := .code yX3_isFull cX3_isFull 1 (some .boolean) :: wA
abbrev wsX3_append : List Cond := .code yX3_append cX3_append 6 (some .int) :: wA
abbrev wsX3_partsBelow : List Cond := .code yX3_partsBelow cX3_partsBelow 3 (some .int) :: wA
abbrev wsX2_isTerm : List Cond := .code yX2_isTerm cX2_isTerm 1 (some .boolean) :: wA
abbrev wsX3_noteVariables : List Cond := .code yX3_noteVariables cX3_noteVariables 4 none :: wA
abbrev wsL_claim : List Cond := .codeWith yL_claim cL_claim 4 (some .int) [(0, 9, 12, 13), (0, 9, 15, 15)] :: wA
abbrev wsX4_claim : List Cond := .code yX4_claim cX4_claim 2 (some .int) :: wA
abbrev wsX0_isFull : List Cond := .code yX0_isFull cX0_isFull 1 (some .boolean) :: wA
abbrev wsX0_push : List Cond := .code yX0_push cX0_push 2 (some .int) :: wA
abbrev wsL_open : List Cond := .codeWith yL_open cL_open 3 (some .int) [(0, 8, 11, 15)] :: wA
abbrev wsX4_open : List Cond := .code yX4_open cX4_open 1 (some .int) :: wA
abbrev wsX0_raise : List Cond := .code yX0_raise cX0_raise 1 (some .int) :: wA
abbrev wsL_close : List Cond := .codeWith yL_close cL_close 3 (some .int) [(0, 8, 11, 15)] :: wA
abbrev wsX4_close : List Cond := .code yX4_close cX4_close 1 (some .int) :: wA
abbrev wsX0_drop : List Cond := .code yX0_drop cX0_drop 2 (some .int) :: wA
abbrev wsL_model : List Cond := .codeWith yL_model cL_model 4 (some .int) [(0, 9, 12, 13), (0, 9, 15, 31)] :: wA
abbrev wsX4_model : List Cond := .code yX4_model cX4_model 2 (some .int) :: wA
abbrev wsL_value : List Cond := .codeWith yL_value cL_value 4 (some .int) [(0, 9, 12, 13), (0, 9, 15, 31)] :: wA
abbrev wsX4_value : List Cond := .code yX4_value cX4_value 2 (some .int) :: wA
abbrev wsX3_answer : List Cond := .code yX3_answer cX3_answer 4 (some .int) :: wA
abbrev wsL_reckon : List Cond := .codeWith yL_reckon cL_reckon 6 (some .int) [(0, 12, 15, 13)] :: wA
abbrev wsX4_reckon : List Cond := .code yX4_reckon cX4_reckon 4 (some .int) :: wA
abbrev wsX1_isOperation : List Cond := .code yX1_isOperation cX1_isOperation 1 (some .boolean) :: wA
abbrev wsX5_init : List Cond := .code yX5_init cX5_init 1 none :: wA
abbrev wsX5_thrown : List Cond := .code yX5_thrown cX5_thrown 1 (some .int) :: wA
abbrev wsX5_term : List Cond := .code yX5_term cX5_term 7 (some .int) :: wA
abbrev wsX5_fits : List Cond := .code yX5_fits cX5_fits 5 (some .boolean) :: wA
abbrev wsX5_out : List Cond := .code yX5_out cX5_out 2 (some .boolean) :: wA
abbrev wsX5_isTruth : List Cond := .code yX5_isTruth cX5_isTruth 2 (some .boolean) :: wA
abbrev wsX5_isNumber : List Cond := .code yX5_isNumber cX5_isNumber 2 (some .boolean) :: wA
abbrev wsX5_names : List Cond := .code yX5_names cX5_names 1 (some .int) :: wA
abbrev wsX5_claim : List Cond := .code yX5_claim cX5_claim 2 (some .int) :: wA
abbrev wsX5_open : List Cond := .code yX5_open cX5_open 1 (some .int) :: wA
abbrev wsX5_close : List Cond := .code yX5_close cX5_close 2 (some .int) :: wA
abbrev wsX5_check : List Cond := .code yX5_check cX5_check 2 (some .boolean) :: wA
abbrev wsX5_reckonAll : List Cond := .code yX5_reckonAll cX5_reckonAll 6 none :: wA
abbrev wsX5_operate : List Cond := .code yX5_operate cX5_operate 3 (some .int) :: wA
abbrev wsX5_add : List Cond := .code yX5_add cX5_add 3 (some .int) :: wA
abbrev wsX5_nan : List Cond := .code yX5_nan cX5_nan 1 (some .boolean) :: wA
abbrev wsX5_infinite : List Cond := .code yX5_infinite cX5_infinite 1 (some .boolean) :: wA
abbrev wsX5_worthOf : List Cond := .code yX5_worthOf cX5_worthOf 2 (some .int) :: wA
abbrev wsX5_quarters : List Cond := .code yX5_quarters cX5_quarters 1 (some .int) :: wA
abbrev wsX5_round : List Cond := .code yX5_round cX5_round 7 (some .int) :: wA
abbrev wsX5_multiply : List Cond := .code yX5_multiply cX5_multiply 3 (some .int) :: wA
abbrev wsX5_zero : List Cond := .code yX5_zero cX5_zero 1 (some .boolean) :: wA
abbrev wsX5_less : List Cond := .code yX5_less cX5_less 2 (some .boolean) :: wA
abbrev wsX5_truth : List Cond := .code yX5_truth cX5_truth 1 (some .int) :: wA
abbrev wsX5_equal : List Cond := .code yX5_equal cX5_equal 2 (some .boolean) :: wA
abbrev wsX5_allHold : List Cond := .code yX5_allHold cX5_allHold 3 (some .boolean) :: wA
abbrev wsX5_model : List Cond := .code yX5_model cX5_model 2 (some .int) :: wA
abbrev wsX5_value : List Cond := .code yX5_value cX5_value 2 (some .int) :: wA
abbrev wsX5_reckon : List Cond := .code yX5_reckon cX5_reckon 4 (some .int) :: wA
abbrev wsX5_terms : List Cond := .code yX5_terms cX5_terms 1 (some .int) :: wA
abbrev wsX5_claims : List Cond := .code yX5_claims cX5_claims 1 (some .int) :: wA
abbrev wsX5_level : List Cond := .code yX5_level cX5_level 1 (some .int) :: wA
abbrev wsX5_checks : List Cond := .code yX5_checks cX5_checks 1 (some .int) :: wA
end
section
theorem dX0_init_0 : decode cX0_init 0 = .ok (.aload_n 0, 1) := by decide +kernel
theorem dX0_init_1 : decode cX0_init 1 = .ok (.invokespecial 3, 3) := by decide +kernel
theorem dX0_init_4 : decode cX0_init 4 = .ok (.aload_n 0, 1) := by decide +kernel
theorem dX0_init_5 : decode cX0_init 5 = .ok (.bipush 20, 2) := by decide +kernel
theorem dX0_init_7 : decode cX0_init 7 = .ok (.newarray .int, 2) := by decide +kernel
theorem dX0_init_9 : decode cX0_init 9 = .ok (.putfield 9, 3) := by decide +kernel
theorem dX0_init_12 : decode cX0_init 12 = .ok (.aload_n 0, 1) := by decide +kernel
theorem dX0_init_13 : decode cX0_init 13 = .ok (.bipush 6, 2) := by decide +kernel
theorem dX0_init_15 : decode cX0_init 15 = .ok (.newarray .int, 2) := by decide +kernel
theorem dX0_init_17 : decode cX0_init 17 = .ok (.putfield 15, 3) := by decide +kernel
theorem dX0_init_20 : decode cX0_init 20 = .ok (.aload_n 0, 1) := by decide +kernel
theorem dX0_init_21 : decode cX0_init 21 = .ok (.iconst 0, 1) := by decide +kernel
theorem dX0_init_22 : decode cX0_init 22 = .ok (.putfield 18, 3) := by decide +kernel
theorem dX0_init_25 : decode cX0_init 25 = .ok (.aload_n 0, 1) := by decide +kernel
theorem dX0_init_26 : decode cX0_init 26 = .ok (.iconst 0, 1) := by decide +kernel
theorem dX0_init_27 : decode cX0_init 27 = .ok (.putfield 22, 3) := by decide +kernel
theorem dX0_init_30 : decode cX0_init 30 = .ok (.return_, 1) := by decide +kernel
theorem dX0_claimedTerms_0 : decode cX0_claimedTerms 0 = .ok (.iconst 0, 1) := by decide +kernel
theorem dX0_claimedTerms_1 : decode cX0_claimedTerms 1 = .ok (.istore_n 1, 1) := by decide +kernel
theorem dX0_claimedTerms_2 : decode cX0_claimedTerms 2 = .ok (.iconst 0, 1) := by decide +kernel
theorem dX0_claimedTerms_3 : decode cX0_claimedTerms 3 = .ok (.istore_n 2, 1) := by decide +kernel
theorem dX0_claimedTerms_4 : decode cX0_claimedTerms 4 = .ok (.iload_n 2, 1) := by decide +kernel
theorem dX0_claimedTerms_5 : decode cX0_claimedTerms 5 = .ok (.aload_n 0, 1) := by decide +kernel
theorem dX0_claimedTerms_6 : decode cX0_claimedTerms 6 = .ok (.getfield 18, 3) := by decide +kernel
theorem dX0_claimedTerms_9 : decode cX0_claimedTerms 9 = .ok (.if_icmp .ge 20, 3) := by decide +kernel
theorem dX0_claimedTerms_12 : decode cX0_claimedTerms 12 = .ok (.iload_n 1, 1) := by decide +kernel
theorem dX0_claimedTerms_13 : decode cX0_claimedTerms 13 = .ok (.iconst 1, 1) := by decide +kernel
theorem dX0_claimedTerms_14 : decode cX0_claimedTerms 14 = .ok (.aload_n 0, 1) := by decide +kernel
theorem dX0_claimedTerms_15 : decode cX0_claimedTerms 15 = .ok (.getfield 9, 3) := by decide +kernel
theorem dX0_claimedTerms_18 : decode cX0_claimedTerms 18 = .ok (.iload_n 2, 1) := by decide +kernel
theorem dX0_claimedTerms_19 : decode cX0_claimedTerms 19 = .ok (.iaload, 1) := by decide +kernel
theorem dX0_claimedTerms_20 : decode cX0_claimedTerms 20 = .ok (.ishl, 1) := by decide +kernel
theorem dX0_claimedTerms_21 : decode cX0_claimedTerms 21 = .ok (.ior, 1) := by decide +kernel
theorem dX0_claimedTerms_22 : decode cX0_claimedTerms 22 = .ok (.istore_n 1, 1) := by decide +kernel
theorem dX0_claimedTerms_23 : decode cX0_claimedTerms 23 = .ok (.iinc 2 1, 3) := by decide +kernel
theorem dX0_claimedTerms_26 : decode cX0_claimedTerms 26 = .ok (.goto (-22), 3) := by decide +kernel
theorem dX0_claimedTerms_29 : decode cX0_claimedTerms 29 = .ok (.iload_n 1, 1) := by decide +kernel
theorem dX0_claimedTerms_30 : decode cX0_claimedTerms 30 = .ok (.ireturn, 1) := by decide +kernel
theorem dX1_operate_0 : decode cX1_operate 0 = .ok (.iload_n 0, 1) := by decide +kernel
theorem dX1_operate_1 : decode cX1_operate 1 = .ok (.tableswitch 262 2 16 #[75, 80, 85, 91, 100, 106, 127, 262, 148, 173, 187, 201, 223, 236, 249], 75) := by decide +kernel
theorem dX1_operate_76 : decode cX1_operate 76 = .ok (.iload_n 1, 1) := by decide +kernel
theorem dX1_operate_77 : decode cX1_operate 77 = .ok (.invokestatic 9, 3) := by decide +kernel
theorem dX1_operate_80 : decode cX1_operate 80 = .ok (.ireturn, 1) := by decide +kernel
theorem dX1_operate_81 : decode cX1_operate 81 = .ok (.iload_n 1, 1) := by decide +kernel
theorem dX1_operate_82 : decode cX1_operate 82 = .ok (.bipush 15, 2) := by decide +kernel
theorem dX1_operate_84 : decode cX1_operate 84 = .ok (.iand, 1) := by decide +kernel
theorem dX1_operate_85 : decode cX1_operate 85 = .ok (.ireturn, 1) := by decide +kernel
theorem dX1_operate_86 : decode cX1_operate 86 = .ok (.iload_n 1, 1) := by decide +kernel
theorem dX1_operate_87 : decode cX1_operate 87 = .ok (.iload_n 2, 1) := by decide +kernel
theorem dX1_operate_88 : decode cX1_operate 88 = .ok (.invokestatic 15, 3) := by decide +kernel
theorem dX1_operate_91 : decode cX1_operate 91 = .ok (.ireturn, 1) := by decide +kernel
theorem dX1_operate_92 : decode cX1_operate 92 = .ok (.iload_n 1, 1) := by decide +kernel
theorem dX1_operate_93 : decode cX1_operate 93 = .ok (.iload_n 2, 1) := by decide +kernel
theorem dX1_operate_94 : decode cX1_operate 94 = .ok (.invokestatic 9, 3) := by decide +kernel
theorem dX1_operate_97 : decode cX1_operate 97 = .ok (.invokestatic 15, 3) := by decide +kernel
theorem dX1_operate_100 : decode cX1_operate 100 = .ok (.ireturn, 1) := by decide +kernel
theorem dX1_operate_101 : decode cX1_operate 101 = .ok (.iload_n 1, 1) := by decide +kernel
theorem dX1_operate_102 : decode cX1_operate 102 = .ok (.iload_n 2, 1) := by decide +kernel
theorem dX1_operate_103 : decode cX1_operate 103 = .ok (.invokestatic 19, 3) := by decide +kernel
theorem dX1_operate_106 : decode cX1_operate 106 = .ok (.ireturn, 1) := by decide +kernel
theorem dX1_operate_107 : decode cX1_operate 107 = .ok (.iload_n 1, 1) := by decide +kernel
theorem dX1_operate_108 : decode cX1_operate 108 = .ok (.invokestatic 22, 3) := by decide +kernel
theorem dX1_operate_111 : decode cX1_operate 111 = .ok (.ifCond .ne 11, 3) := by decide +kernel
theorem dX1_operate_114 : decode cX1_operate 114 = .ok (.iload_n 2, 1) := by decide +kernel
theorem dX1_operate_115 : decode cX1_operate 115 = .ok (.iload_n 1, 1) := by decide +kernel
theorem dX1_operate_116 : decode cX1_operate 116 = .ok (.invokestatic 26, 3) := by decide +kernel
theorem dX1_operate_119 : decode cX1_operate 119 = .ok (.ifCond .eq 7, 3) := by decide +kernel
theorem dX1_operate_122 : decode cX1_operate 122 = .ok (.iload_n 2, 1) := by decide +kernel
theorem dX1_operate_123 : decode cX1_operate 123 = .ok (.goto 4, 3) := by decide +kernel
theorem dX1_operate_126 : decode cX1_operate 126 = .ok (.iload_n 1, 1) := by decide +kernel
theorem dX1_operate_127 : decode cX1_operate 127 = .ok (.ireturn, 1) := by decide +kernel
theorem dX1_operate_128 : decode cX1_operate 128 = .ok (.iload_n 1, 1) := by decide +kernel
theorem dX1_operate_129 : decode cX1_operate 129 = .ok (.invokestatic 22, 3) := by decide +kernel
theorem dX1_operate_132 : decode cX1_operate 132 = .ok (.ifCond .ne 11, 3) := by decide +kernel
theorem dX1_operate_135 : decode cX1_operate 135 = .ok (.iload_n 1, 1) := by decide +kernel
theorem dX1_operate_136 : decode cX1_operate 136 = .ok (.iload_n 2, 1) := by decide +kernel
theorem dX1_operate_137 : decode cX1_operate 137 = .ok (.invokestatic 26, 3) := by decide +kernel
theorem dX1_operate_140 : decode cX1_operate 140 = .ok (.ifCond .eq 7, 3) := by decide +kernel
theorem dX1_operate_143 : decode cX1_operate 143 = .ok (.iload_n 2, 1) := by decide +kernel
theorem dX1_operate_144 : decode cX1_operate 144 = .ok (.goto 4, 3) := by decide +kernel
theorem dX1_operate_147 : decode cX1_operate 147 = .ok (.iload_n 1, 1) := by decide +kernel
theorem dX1_operate_148 : decode cX1_operate 148 = .ok (.ireturn, 1) := by decide +kernel
theorem dX1_operate_149 : decode cX1_operate 149 = .ok (.iload_n 1, 1) := by decide +kernel
theorem dX1_operate_150 : decode cX1_operate 150 = .ok (.iload_n 2, 1) := by decide +kernel
theorem dX1_operate_151 : decode cX1_operate 151 = .ok (.if_icmp .eq 17, 3) := by decide +kernel
theorem dX1_operate_154 : decode cX1_operate 154 = .ok (.iload_n 1, 1) := by decide +kernel
theorem dX1_operate_155 : decode cX1_operate 155 = .ok (.invokestatic 22, 3) := by decide +kernel
theorem dX1_operate_158 : decode cX1_operate 158 = .ok (.ifCond .eq 14, 3) := by decide +kernel
theorem dX1_operate_161 : decode cX1_operate 161 = .ok (.iload_n 2, 1) := by decide +kernel
theorem dX1_operate_162 : decode cX1_operate 162 = .ok (.invokestatic 22, 3) := by decide +kernel
theorem dX1_operate_165 : decode cX1_operate 165 = .ok (.ifCond .eq 7, 3) := by decide +kernel
theorem dX1_operate_168 : decode cX1_operate 168 = .ok (.iconst 1, 1) := by decide +kernel
theorem dX1_operate_169 : decode cX1_operate 169 = .ok (.goto 4, 3) := by decide +kernel
theorem dX1_operate_172 : decode cX1_operate 172 = .ok (.iconst 0, 1) := by decide +kernel
theorem dX1_operate_173 : decode cX1_operate 173 = .ok (.ireturn, 1) := by decide +kernel
theorem dX1_operate_174 : decode cX1_operate 174 = .ok (.iload_n 1, 1) := by decide +kernel
theorem dX1_operate_175 : decode cX1_operate 175 = .ok (.iload_n 2, 1) := by decide +kernel
theorem dX1_operate_176 : decode cX1_operate 176 = .ok (.invokestatic 30, 3) := by decide +kernel
theorem dX1_operate_179 : decode cX1_operate 179 = .ok (.ifCond .eq 7, 3) := by decide +kernel
theorem dX1_operate_182 : decode cX1_operate 182 = .ok (.iconst 1, 1) := by decide +kernel
theorem dX1_operate_183 : decode cX1_operate 183 = .ok (.goto 4, 3) := by decide +kernel
theorem dX1_operate_186 : decode cX1_operate 186 = .ok (.iconst 0, 1) := by decide +kernel
theorem dX1_operate_187 : decode cX1_operate 187 = .ok (.ireturn, 1) := by decide +kernel
theorem dX1_operate_188 : decode cX1_operate 188 = .ok (.iload_n 1, 1) := by decide +kernel
theorem dX1_operate_189 : decode cX1_operate 189 = .ok (.iload_n 2, 1) := by decide +kernel
theorem dX1_operate_190 : decode cX1_operate 190 = .ok (.invokestatic 26, 3) := by decide +kernel
theorem dX1_operate_193 : decode cX1_operate 193 = .ok (.ifCond .eq 7, 3) := by decide +kernel
theorem dX1_operate_196 : decode cX1_operate 196 = .ok (.iconst 1, 1) := by decide +kernel
theorem dX1_operate_197 : decode cX1_operate 197 = .ok (.goto 4, 3) := by decide +kernel
theorem dX1_operate_200 : decode cX1_operate 200 = .ok (.iconst 0, 1) := by decide +kernel
theorem dX1_operate_201 : decode cX1_operate 201 = .ok (.ireturn, 1) := by decide +kernel
theorem dX1_operate_202 : decode cX1_operate 202 = .ok (.iload_n 1, 1) := by decide +kernel
theorem dX1_operate_203 : decode cX1_operate 203 = .ok (.iload_n 2, 1) := by decide +kernel
theorem dX1_operate_204 : decode cX1_operate 204 = .ok (.invokestatic 26, 3) := by decide +kernel
theorem dX1_operate_207 : decode cX1_operate 207 = .ok (.ifCond .ne 11, 3) := by decide +kernel
theorem dX1_operate_210 : decode cX1_operate 210 = .ok (.iload_n 1, 1) := by decide +kernel
theorem dX1_operate_211 : decode cX1_operate 211 = .ok (.iload_n 2, 1) := by decide +kernel
theorem dX1_operate_212 : decode cX1_operate 212 = .ok (.invokestatic 30, 3) := by decide +kernel
theorem dX1_operate_215 : decode cX1_operate 215 = .ok (.ifCond .eq 7, 3) := by decide +kernel
theorem dX1_operate_218 : decode cX1_operate 218 = .ok (.iconst 1, 1) := by decide +kernel
theorem dX1_operate_219 : decode cX1_operate 219 = .ok (.goto 4, 3) := by decide +kernel
theorem dX1_operate_222 : decode cX1_operate 222 = .ok (.iconst 0, 1) := by decide +kernel
theorem dX1_operate_223 : decode cX1_operate 223 = .ok (.ireturn, 1) := by decide +kernel
theorem dX1_operate_224 : decode cX1_operate 224 = .ok (.iload_n 1, 1) := by decide +kernel
theorem dX1_operate_225 : decode cX1_operate 225 = .ok (.invokestatic 22, 3) := by decide +kernel
theorem dX1_operate_228 : decode cX1_operate 228 = .ok (.ifCond .eq 7, 3) := by decide +kernel
theorem dX1_operate_231 : decode cX1_operate 231 = .ok (.iconst 1, 1) := by decide +kernel
theorem dX1_operate_232 : decode cX1_operate 232 = .ok (.goto 4, 3) := by decide +kernel
theorem dX1_operate_235 : decode cX1_operate 235 = .ok (.iconst 0, 1) := by decide +kernel
theorem dX1_operate_236 : decode cX1_operate 236 = .ok (.ireturn, 1) := by decide +kernel
theorem dX1_operate_237 : decode cX1_operate 237 = .ok (.iload_n 1, 1) := by decide +kernel
theorem dX1_operate_238 : decode cX1_operate 238 = .ok (.invokestatic 33, 3) := by decide +kernel
theorem dX1_operate_241 : decode cX1_operate 241 = .ok (.ifCond .eq 7, 3) := by decide +kernel
theorem dX1_operate_244 : decode cX1_operate 244 = .ok (.iconst 1, 1) := by decide +kernel
theorem dX1_operate_245 : decode cX1_operate 245 = .ok (.goto 4, 3) := by decide +kernel
theorem dX1_operate_248 : decode cX1_operate 248 = .ok (.iconst 0, 1) := by decide +kernel
theorem dX1_operate_249 : decode cX1_operate 249 = .ok (.ireturn, 1) := by decide +kernel
theorem dX1_operate_250 : decode cX1_operate 250 = .ok (.iload_n 1, 1) := by decide +kernel
theorem dX1_operate_251 : decode cX1_operate 251 = .ok (.invokestatic 36, 3) := by decide +kernel
theorem dX1_operate_254 : decode cX1_operate 254 = .ok (.ifCond .eq 7, 3) := by decide +kernel
theorem dX1_operate_257 : decode cX1_operate 257 = .ok (.iconst 1, 1) := by decide +kernel
theorem dX1_operate_258 : decode cX1_operate 258 = .ok (.goto 4, 3) := by decide +kernel
theorem dX1_operate_261 : decode cX1_operate 261 = .ok (.iconst 0, 1) := by decide +kernel
theorem dX1_operate_262 : decode cX1_operate 262 = .ok (.ireturn, 1) := by decide +kernel
theorem dX1_operate_263 : decode cX1_operate 263 = .ok (.iconst 0, 1) := by decide +kernel
theorem dX1_operate_264 : decode cX1_operate 264 = .ok (.ireturn, 1) := by decide +kernel
theorem dX1_negate_0 : decode cX1_negate 0 = .ok (.iload_n 0, 1) := by decide +kernel
theorem dX1_negate_1 : decode cX1_negate 1 = .ok (.bipush 16, 2) := by decide +kernel
theorem dX1_negate_3 : decode cX1_negate 3 = .ok (.ixor, 1) := by decide +kernel
theorem dX1_negate_4 : decode cX1_negate 4 = .ok (.ireturn, 1) := by decide +kernel
theorem dX1_add_0 : decode cX1_add 0 = .ok (.iload_n 0, 1) := by decide +kernel
theorem dX1_add_1 : decode cX1_add 1 = .ok (.invokestatic 22, 3) := by decide +kernel
theorem dX1_add_4 : decode cX1_add 4 = .ok (.ifCond .ne 10, 3) := by decide +kernel
theorem dX1_add_7 : decode cX1_add 7 = .ok (.iload_n 1, 1) := by decide +kernel
theorem dX1_add_8 : decode cX1_add 8 = .ok (.invokestatic 22, 3) := by decide +kernel
theorem dX1_add_11 : decode cX1_add 11 = .ok (.ifCond .eq 6, 3) := by decide +kernel
theorem dX1_add_14 : decode cX1_add 14 = .ok (.bipush 13, 2) := by decide +kernel
theorem dX1_add_16 : decode cX1_add 16 = .ok (.ireturn, 1) := by decide +kernel
theorem dX1_add_17 : decode cX1_add 17 = .ok (.iload_n 0, 1) := by decide +kernel
theorem dX1_add_18 : decode cX1_add 18 = .ok (.invokestatic 33, 3) := by decide +kernel
theorem dX1_add_21 : decode cX1_add 21 = .ok (.ifCond .eq 22, 3) := by decide +kernel
theorem dX1_add_24 : decode cX1_add 24 = .ok (.iload_n 1, 1) := by decide +kernel
theorem dX1_add_25 : decode cX1_add 25 = .ok (.invokestatic 33, 3) := by decide +kernel
theorem dX1_add_28 : decode cX1_add 28 = .ok (.ifCond .eq 13, 3) := by decide +kernel
theorem dX1_add_31 : decode cX1_add 31 = .ok (.iload_n 0, 1) := by decide +kernel
theorem dX1_add_32 : decode cX1_add 32 = .ok (.iload_n 1, 1) := by decide +kernel
theorem dX1_add_33 : decode cX1_add 33 = .ok (.if_icmp .eq 8, 3) := by decide +kernel
theorem dX1_add_36 : decode cX1_add 36 = .ok (.bipush 13, 2) := by decide +kernel
theorem dX1_add_38 : decode cX1_add 38 = .ok (.goto 4, 3) := by decide +kernel
theorem dX1_add_41 : decode cX1_add 41 = .ok (.iload_n 0, 1) := by decide +kernel
theorem dX1_add_42 : decode cX1_add 42 = .ok (.ireturn, 1) := by decide +kernel
theorem dX1_add_43 : decode cX1_add 43 = .ok (.iload_n 1, 1) := by decide +kernel
theorem dX1_add_44 : decode cX1_add 44 = .ok (.invokestatic 33, 3) := by decide +kernel
theorem dX1_add_47 : decode cX1_add 47 = .ok (.ifCond .eq 5, 3) := by decide +kernel
theorem dX1_add_50 : decode cX1_add 50 = .ok (.iload_n 1, 1) := by decide +kernel
theorem dX1_add_51 : decode cX1_add 51 = .ok (.ireturn, 1) := by decide +kernel
theorem dX1_add_52 : decode cX1_add 52 = .ok (.iload_n 0, 1) := by decide +kernel
theorem dX1_add_53 : decode cX1_add 53 = .ok (.invokestatic 39, 3) := by decide +kernel
theorem dX1_add_56 : decode cX1_add 56 = .ok (.iload_n 1, 1) := by decide +kernel
theorem dX1_add_57 : decode cX1_add 57 = .ok (.invokestatic 39, 3) := by decide +kernel
theorem dX1_add_60 : decode cX1_add 60 = .ok (.iadd, 1) := by decide +kernel
theorem dX1_add_61 : decode cX1_add 61 = .ok (.istore_n 2, 1) := by decide +kernel
theorem dX1_add_62 : decode cX1_add 62 = .ok (.iload_n 2, 1) := by decide +kernel
theorem dX1_add_63 : decode cX1_add 63 = .ok (.ifCond .ne 22, 3) := by decide +kernel
theorem dX1_add_66 : decode cX1_add 66 = .ok (.iload_n 0, 1) := by decide +kernel
theorem dX1_add_67 : decode cX1_add 67 = .ok (.bipush 16, 2) := by decide +kernel
theorem dX1_add_69 : decode cX1_add 69 = .ok (.if_icmp .ne 14, 3) := by decide +kernel
theorem dX1_add_72 : decode cX1_add 72 = .ok (.iload_n 1, 1) := by decide +kernel
theorem dX1_add_73 : decode cX1_add 73 = .ok (.bipush 16, 2) := by decide +kernel
theorem dX1_add_75 : decode cX1_add 75 = .ok (.if_icmp .ne 8, 3) := by decide +kernel
theorem dX1_add_78 : decode cX1_add 78 = .ok (.bipush 16, 2) := by decide +kernel
theorem dX1_add_80 : decode cX1_add 80 = .ok (.goto 4, 3) := by decide +kernel
theorem dX1_add_83 : decode cX1_add 83 = .ok (.iconst 0, 1) := by decide +kernel
theorem dX1_add_84 : decode cX1_add 84 = .ok (.ireturn, 1) := by decide +kernel
theorem dX1_add_85 : decode cX1_add 85 = .ok (.iload_n 2, 1) := by decide +kernel
theorem dX1_add_86 : decode cX1_add 86 = .ok (.ifCond .ge 8, 3) := by decide +kernel
theorem dX1_add_89 : decode cX1_add 89 = .ok (.bipush 16, 2) := by decide +kernel
theorem dX1_add_91 : decode cX1_add 91 = .ok (.goto 4, 3) := by decide +kernel
theorem dX1_add_94 : decode cX1_add 94 = .ok (.iconst 0, 1) := by decide +kernel
theorem dX1_add_95 : decode cX1_add 95 = .ok (.iconst 4, 1) := by decide +kernel
theorem dX1_add_96 : decode cX1_add 96 = .ok (.iload_n 2, 1) := by decide +kernel
theorem dX1_add_97 : decode cX1_add 97 = .ok (.invokestatic 42, 3) := by decide +kernel
theorem dX1_add_100 : decode cX1_add 100 = .ok (.imul, 1) := by decide +kernel
theorem dX1_add_101 : decode cX1_add 101 = .ok (.invokestatic 47, 3) := by decide +kernel
theorem dX1_add_104 : decode cX1_add 104 = .ok (.ior, 1) := by decide +kernel
theorem dX1_add_105 : decode cX1_add 105 = .ok (.ireturn, 1) := by decide +kernel
theorem dX1_isNan_0 : decode cX1_isNan 0 = .ok (.iload_n 0, 1) := by decide +kernel
theorem dX1_isNan_1 : decode cX1_isNan 1 = .ok (.bipush 15, 2) := by decide +kernel
theorem dX1_isNan_3 : decode cX1_isNan 3 = .ok (.iand, 1) := by decide +kernel
theorem dX1_isNan_4 : decode cX1_isNan 4 = .ok (.bipush 12, 2) := by decide +kernel
theorem dX1_isNan_6 : decode cX1_isNan 6 = .ok (.if_icmp .le 7, 3) := by decide +kernel
theorem dX1_isNan_9 : decode cX1_isNan 9 = .ok (.iconst 1, 1) := by decide +kernel
theorem dX1_isNan_10 : decode cX1_isNan 10 = .ok (.goto 4, 3) := by decide +kernel
theorem dX1_isNan_13 : decode cX1_isNan 13 = .ok (.iconst 0, 1) := by decide +kernel
theorem dX1_isNan_14 : decode cX1_isNan 14 = .ok (.ireturn, 1) := by decide +kernel
theorem dX1_isInfinite_0 : decode cX1_isInfinite 0 = .ok (.iload_n 0, 1) := by decide +kernel
theorem dX1_isInfinite_1 : decode cX1_isInfinite 1 = .ok (.bipush 15, 2) := by decide +kernel
theorem dX1_isInfinite_3 : decode cX1_isInfinite 3 = .ok (.iand, 1) := by decide +kernel
theorem dX1_isInfinite_4 : decode cX1_isInfinite 4 = .ok (.bipush 12, 2) := by decide +kernel
theorem dX1_isInfinite_6 : decode cX1_isInfinite 6 = .ok (.if_icmp .ne 7, 3) := by decide +kernel
theorem dX1_isInfinite_9 : decode cX1_isInfinite 9 = .ok (.iconst 1, 1) := by decide +kernel
theorem dX1_isInfinite_10 : decode cX1_isInfinite 10 = .ok (.goto 4, 3) := by decide +kernel
theorem dX1_isInfinite_13 : decode cX1_isInfinite 13 = .ok (.iconst 0, 1) := by decide +kernel
theorem dX1_isInfinite_14 : decode cX1_isInfinite 14 = .ok (.ireturn, 1) := by decide +kernel
theorem dX1_signedQuarters_0 : decode cX1_signedQuarters 0 = .ok (.iload_n 0, 1) := by decide +kernel
theorem dX1_signedQuarters_1 : decode cX1_signedQuarters 1 = .ok (.bipush 15, 2) := by decide +kernel
theorem dX1_signedQuarters_3 : decode cX1_signedQuarters 3 = .ok (.iand, 1) := by decide +kernel
theorem dX1_signedQuarters_4 : decode cX1_signedQuarters 4 = .ok (.istore_n 1, 1) := by decide +kernel
theorem dX1_signedQuarters_5 : decode cX1_signedQuarters 5 = .ok (.iload_n 1, 1) := by decide +kernel
theorem dX1_signedQuarters_6 : decode cX1_signedQuarters 6 = .ok (.bipush 8, 2) := by decide +kernel
theorem dX1_signedQuarters_8 : decode cX1_signedQuarters 8 = .ok (.if_icmp .ge 7, 3) := by decide +kernel
theorem dX1_signedQuarters_11 : decode cX1_signedQuarters 11 = .ok (.iload_n 1, 1) := by decide +kernel
theorem dX1_signedQuarters_12 : decode cX1_signedQuarters 12 = .ok (.goto 9, 3) := by decide +kernel
theorem dX1_signedQuarters_15 : decode cX1_signedQuarters 15 = .ok (.iconst 2, 1) := by decide +kernel
theorem dX1_signedQuarters_16 : decode cX1_signedQuarters 16 = .ok (.iload_n 1, 1) := by decide +kernel
theorem dX1_signedQuarters_17 : decode cX1_signedQuarters 17 = .ok (.imul, 1) := by decide +kernel
theorem dX1_signedQuarters_18 : decode cX1_signedQuarters 18 = .ok (.bipush 8, 2) := by decide +kernel
theorem dX1_signedQuarters_20 : decode cX1_signedQuarters 20 = .ok (.isub, 1) := by decide +kernel
theorem dX1_signedQuarters_21 : decode cX1_signedQuarters 21 = .ok (.istore_n 2, 1) := by decide +kernel
theorem dX1_signedQuarters_22 : decode cX1_signedQuarters 22 = .ok (.iload_n 0, 1) := by decide +kernel
theorem dX1_signedQuarters_23 : decode cX1_signedQuarters 23 = .ok (.bipush 16, 2) := by decide +kernel
theorem dX1_signedQuarters_25 : decode cX1_signedQuarters 25 = .ok (.iand, 1) := by decide +kernel
theorem dX1_signedQuarters_26 : decode cX1_signedQuarters 26 = .ok (.ifCond .ne 7, 3) := by decide +kernel
theorem dX1_signedQuarters_29 : decode cX1_signedQuarters 29 = .ok (.iload_n 2, 1) := by decide +kernel
theorem dX1_signedQuarters_30 : decode cX1_signedQuarters 30 = .ok (.goto 5, 3) := by decide +kernel
theorem dX1_signedQuarters_33 : decode cX1_signedQuarters 33 = .ok (.iload_n 2, 1) := by decide +kernel
theorem dX1_signedQuarters_34 : decode cX1_signedQuarters 34 = .ok (.ineg, 1) := by decide +kernel
theorem dX1_signedQuarters_35 : decode cX1_signedQuarters 35 = .ok (.ireturn, 1) := by decide +kernel
theorem dX1_rounded_0 : decode cX1_rounded 0 = .ok (.iload_n 0, 1) := by decide +kernel
theorem dX1_rounded_1 : decode cX1_rounded 1 = .ok (.bipush 32, 2) := by decide +kernel
theorem dX1_rounded_3 : decode cX1_rounded 3 = .ok (.if_icmp .ge 7, 3) := by decide +kernel
theorem dX1_rounded_6 : decode cX1_rounded 6 = .ok (.iconst 1, 1) := by decide +kernel
theorem dX1_rounded_7 : decode cX1_rounded 7 = .ok (.goto 4, 3) := by decide +kernel
theorem dX1_rounded_10 : decode cX1_rounded 10 = .ok (.iconst 0, 1) := by decide +kernel
theorem dX1_rounded_11 : decode cX1_rounded 11 = .ok (.istore_n 1, 1) := by decide +kernel
theorem dX1_rounded_12 : decode cX1_rounded 12 = .ok (.iload_n 1, 1) := by decide +kernel
theorem dX1_rounded_13 : decode cX1_rounded 13 = .ok (.ifCond .eq 7, 3) := by decide +kernel
theorem dX1_rounded_16 : decode cX1_rounded 16 = .ok (.iconst 4, 1) := by decide +kernel
theorem dX1_rounded_17 : decode cX1_rounded 17 = .ok (.goto 5, 3) := by decide +kernel
theorem dX1_rounded_20 : decode cX1_rounded 20 = .ok (.bipush 8, 2) := by decide +kernel
theorem dX1_rounded_22 : decode cX1_rounded 22 = .ok (.istore_n 2, 1) := by decide +kernel
theorem dX1_rounded_23 : decode cX1_rounded 23 = .ok (.iload_n 0, 1) := by decide +kernel
theorem dX1_rounded_24 : decode cX1_rounded 24 = .ok (.iload_n 2, 1) := by decide +kernel
theorem dX1_rounded_25 : decode cX1_rounded 25 = .ok (.idiv, 1) := by decide +kernel
theorem dX1_rounded_26 : decode cX1_rounded 26 = .ok (.iload_n 1, 1) := by decide +kernel
theorem dX1_rounded_27 : decode cX1_rounded 27 = .ok (.ifCond .eq 7, 3) := by decide +kernel
theorem dX1_rounded_30 : decode cX1_rounded 30 = .ok (.iconst 0, 1) := by decide +kernel
theorem dX1_rounded_31 : decode cX1_rounded 31 = .ok (.goto 4, 3) := by decide +kernel
theorem dX1_rounded_34 : decode cX1_rounded 34 = .ok (.iconst 4, 1) := by decide +kernel
theorem dX1_rounded_35 : decode cX1_rounded 35 = .ok (.iadd, 1) := by decide +kernel
theorem dX1_rounded_36 : decode cX1_rounded 36 = .ok (.istore_n 3, 1) := by decide +kernel
theorem dX1_rounded_37 : decode cX1_rounded 37 = .ok (.iconst 2, 1) := by decide +kernel
theorem dX1_rounded_38 : decode cX1_rounded 38 = .ok (.iload_n 0, 1) := by decide +kernel
theorem dX1_rounded_39 : decode cX1_rounded 39 = .ok (.iload_n 2, 1) := by decide +kernel
theorem dX1_rounded_40 : decode cX1_rounded 40 = .ok (.irem, 1) := by decide +kernel
theorem dX1_rounded_41 : decode cX1_rounded 41 = .ok (.imul, 1) := by decide +kernel
theorem dX1_rounded_42 : decode cX1_rounded 42 = .ok (.istore 4, 2) := by decide +kernel
theorem dX1_rounded_44 : decode cX1_rounded 44 = .ok (.iload 4, 2) := by decide +kernel
theorem dX1_rounded_46 : decode cX1_rounded 46 = .ok (.iload_n 2, 1) := by decide +kernel
theorem dX1_rounded_47 : decode cX1_rounded 47 = .ok (.if_icmp .gt 16, 3) := by decide +kernel
theorem dX1_rounded_50 : decode cX1_rounded 50 = .ok (.iload 4, 2) := by decide +kernel
theorem dX1_rounded_52 : decode cX1_rounded 52 = .ok (.iload_n 2, 1) := by decide +kernel
theorem dX1_rounded_53 : decode cX1_rounded 53 = .ok (.if_icmp .ne 13, 3) := by decide +kernel
theorem dX1_rounded_56 : decode cX1_rounded 56 = .ok (.iload_n 3, 1) := by decide +kernel
theorem dX1_rounded_57 : decode cX1_rounded 57 = .ok (.iconst 2, 1) := by decide +kernel
theorem dX1_rounded_58 : decode cX1_rounded 58 = .ok (.irem, 1) := by decide +kernel
theorem dX1_rounded_59 : decode cX1_rounded 59 = .ok (.iconst 1, 1) := by decide +kernel
theorem dX1_rounded_60 : decode cX1_rounded 60 = .ok (.if_icmp .ne 6, 3) := by decide +kernel
theorem dX1_rounded_63 : decode cX1_rounded 63 = .ok (.iinc 3 1, 3) := by decide +kernel
theorem dX1_rounded_66 : decode cX1_rounded 66 = .ok (.iload_n 3, 1) := by decide +kernel
theorem dX1_rounded_67 : decode cX1_rounded 67 = .ok (.bipush 12, 2) := by decide +kernel
theorem dX1_rounded_69 : decode cX1_rounded 69 = .ok (.if_icmp .ge 7, 3) := by decide +kernel
theorem dX1_rounded_72 : decode cX1_rounded 72 = .ok (.iload_n 3, 1) := by decide +kernel
theorem dX1_rounded_73 : decode cX1_rounded 73 = .ok (.goto 5, 3) := by decide +kernel
theorem dX1_rounded_76 : decode cX1_rounded 76 = .ok (.bipush 12, 2) := by decide +kernel
theorem dX1_rounded_78 : decode cX1_rounded 78 = .ok (.ireturn, 1) := by decide +kernel
theorem dX1_multiply_0 : decode cX1_multiply 0 = .ok (.iload_n 0, 1) := by decide +kernel
theorem dX1_multiply_1 : decode cX1_multiply 1 = .ok (.invokestatic 22, 3) := by decide +kernel
theorem dX1_multiply_4 : decode cX1_multiply 4 = .ok (.ifCond .ne 38, 3) := by decide +kernel
theorem dX1_multiply_7 : decode cX1_multiply 7 = .ok (.iload_n 1, 1) := by decide +kernel
theorem dX1_multiply_8 : decode cX1_multiply 8 = .ok (.invokestatic 22, 3) := by decide +kernel
theorem dX1_multiply_11 : decode cX1_multiply 11 = .ok (.ifCond .ne 31, 3) := by decide +kernel
theorem dX1_multiply_14 : decode cX1_multiply 14 = .ok (.iload_n 0, 1) := by decide +kernel
theorem dX1_multiply_15 : decode cX1_multiply 15 = .ok (.invokestatic 33, 3) := by decide +kernel
theorem dX1_multiply_18 : decode cX1_multiply 18 = .ok (.ifCond .eq 10, 3) := by decide +kernel
theorem dX1_multiply_21 : decode cX1_multiply 21 = .ok (.iload_n 1, 1) := by decide +kernel
theorem dX1_multiply_22 : decode cX1_multiply 22 = .ok (.invokestatic 36, 3) := by decide +kernel
theorem dX1_multiply_25 : decode cX1_multiply 25 = .ok (.ifCond .ne 17, 3) := by decide +kernel
theorem dX1_multiply_28 : decode cX1_multiply 28 = .ok (.iload_n 0, 1) := by decide +kernel
theorem dX1_multiply_29 : decode cX1_multiply 29 = .ok (.invokestatic 36, 3) := by decide +kernel
theorem dX1_multiply_32 : decode cX1_multiply 32 = .ok (.ifCond .eq 13, 3) := by decide +kernel
theorem dX1_multiply_35 : decode cX1_multiply 35 = .ok (.iload_n 1, 1) := by decide +kernel
theorem dX1_multiply_36 : decode cX1_multiply 36 = .ok (.invokestatic 33, 3) := by decide +kernel
theorem dX1_multiply_39 : decode cX1_multiply 39 = .ok (.ifCond .eq 6, 3) := by decide +kernel
theorem dX1_multiply_42 : decode cX1_multiply 42 = .ok (.bipush 13, 2) := by decide +kernel
theorem dX1_multiply_44 : decode cX1_multiply 44 = .ok (.ireturn, 1) := by decide +kernel
theorem dX1_multiply_45 : decode cX1_multiply 45 = .ok (.iload_n 0, 1) := by decide +kernel
theorem dX1_multiply_46 : decode cX1_multiply 46 = .ok (.iload_n 1, 1) := by decide +kernel
theorem dX1_multiply_47 : decode cX1_multiply 47 = .ok (.ixor, 1) := by decide +kernel
theorem dX1_multiply_48 : decode cX1_multiply 48 = .ok (.bipush 16, 2) := by decide +kernel
theorem dX1_multiply_50 : decode cX1_multiply 50 = .ok (.iand, 1) := by decide +kernel
theorem dX1_multiply_51 : decode cX1_multiply 51 = .ok (.istore_n 2, 1) := by decide +kernel
theorem dX1_multiply_52 : decode cX1_multiply 52 = .ok (.iload_n 0, 1) := by decide +kernel
theorem dX1_multiply_53 : decode cX1_multiply 53 = .ok (.invokestatic 33, 3) := by decide +kernel
theorem dX1_multiply_56 : decode cX1_multiply 56 = .ok (.ifCond .ne 10, 3) := by decide +kernel
theorem dX1_multiply_59 : decode cX1_multiply 59 = .ok (.iload_n 1, 1) := by decide +kernel
theorem dX1_multiply_60 : decode cX1_multiply 60 = .ok (.invokestatic 33, 3) := by decide +kernel
theorem dX1_multiply_63 : decode cX1_multiply 63 = .ok (.ifCond .eq 8, 3) := by decide +kernel
theorem dX1_multiply_66 : decode cX1_multiply 66 = .ok (.iload_n 2, 1) := by decide +kernel
theorem dX1_multiply_67 : decode cX1_multiply 67 = .ok (.bipush 12, 2) := by decide +kernel
theorem dX1_multiply_69 : decode cX1_multiply 69 = .ok (.ior, 1) := by decide +kernel
theorem dX1_multiply_70 : decode cX1_multiply 70 = .ok (.ireturn, 1) := by decide +kernel
theorem dX1_multiply_71 : decode cX1_multiply 71 = .ok (.iload_n 2, 1) := by decide +kernel
theorem dX1_multiply_72 : decode cX1_multiply 72 = .ok (.iload_n 0, 1) := by decide +kernel
theorem dX1_multiply_73 : decode cX1_multiply 73 = .ok (.invokestatic 39, 3) := by decide +kernel
theorem dX1_multiply_76 : decode cX1_multiply 76 = .ok (.iload_n 1, 1) := by decide +kernel
theorem dX1_multiply_77 : decode cX1_multiply 77 = .ok (.invokestatic 39, 3) := by decide +kernel
theorem dX1_multiply_80 : decode cX1_multiply 80 = .ok (.imul, 1) := by decide +kernel
theorem dX1_multiply_81 : decode cX1_multiply 81 = .ok (.invokestatic 42, 3) := by decide +kernel
theorem dX1_multiply_84 : decode cX1_multiply 84 = .ok (.invokestatic 47, 3) := by decide +kernel
theorem dX1_multiply_87 : decode cX1_multiply 87 = .ok (.ior, 1) := by decide +kernel
theorem dX1_multiply_88 : decode cX1_multiply 88 = .ok (.ireturn, 1) := by decide +kernel
theorem dX1_isZero_0 : decode cX1_isZero 0 = .ok (.iload_n 0, 1) := by decide +kernel
theorem dX1_isZero_1 : decode cX1_isZero 1 = .ok (.bipush 15, 2) := by decide +kernel
theorem dX1_isZero_3 : decode cX1_isZero 3 = .ok (.iand, 1) := by decide +kernel
theorem dX1_isZero_4 : decode cX1_isZero 4 = .ok (.ifCond .ne 7, 3) := by decide +kernel
theorem dX1_isZero_7 : decode cX1_isZero 7 = .ok (.iconst 1, 1) := by decide +kernel
theorem dX1_isZero_8 : decode cX1_isZero 8 = .ok (.goto 4, 3) := by decide +kernel
theorem dX1_isZero_11 : decode cX1_isZero 11 = .ok (.iconst 0, 1) := by decide +kernel
theorem dX1_isZero_12 : decode cX1_isZero 12 = .ok (.ireturn, 1) := by decide +kernel
theorem dX1_isLess_0 : decode cX1_isLess 0 = .ok (.iload_n 0, 1) := by decide +kernel
theorem dX1_isLess_1 : decode cX1_isLess 1 = .ok (.invokestatic 22, 3) := by decide +kernel
theorem dX1_isLess_4 : decode cX1_isLess 4 = .ok (.ifCond .ne 25, 3) := by decide +kernel
theorem dX1_isLess_7 : decode cX1_isLess 7 = .ok (.iload_n 1, 1) := by decide +kernel
theorem dX1_isLess_8 : decode cX1_isLess 8 = .ok (.invokestatic 22, 3) := by decide +kernel
theorem dX1_isLess_11 : decode cX1_isLess 11 = .ok (.ifCond .ne 18, 3) := by decide +kernel
theorem dX1_isLess_14 : decode cX1_isLess 14 = .ok (.iload_n 0, 1) := by decide +kernel
theorem dX1_isLess_15 : decode cX1_isLess 15 = .ok (.invokestatic 39, 3) := by decide +kernel
theorem dX1_isLess_18 : decode cX1_isLess 18 = .ok (.iload_n 1, 1) := by decide +kernel
theorem dX1_isLess_19 : decode cX1_isLess 19 = .ok (.invokestatic 39, 3) := by decide +kernel
theorem dX1_isLess_22 : decode cX1_isLess 22 = .ok (.if_icmp .ge 7, 3) := by decide +kernel
theorem dX1_isLess_25 : decode cX1_isLess 25 = .ok (.iconst 1, 1) := by decide +kernel
theorem dX1_isLess_26 : decode cX1_isLess 26 = .ok (.goto 4, 3) := by decide +kernel
theorem dX1_isLess_29 : decode cX1_isLess 29 = .ok (.iconst 0, 1) := by decide +kernel
theorem dX1_isLess_30 : decode cX1_isLess 30 = .ok (.ireturn, 1) := by decide +kernel
theorem dX1_isEqual_0 : decode cX1_isEqual 0 = .ok (.iload_n 0, 1) := by decide +kernel
theorem dX1_isEqual_1 : decode cX1_isEqual 1 = .ok (.invokestatic 22, 3) := by decide +kernel
theorem dX1_isEqual_4 : decode cX1_isEqual 4 = .ok (.ifCond .ne 33, 3) := by decide +kernel
theorem dX1_isEqual_7 : decode cX1_isEqual 7 = .ok (.iload_n 1, 1) := by decide +kernel
theorem dX1_isEqual_8 : decode cX1_isEqual 8 = .ok (.invokestatic 22, 3) := by decide +kernel
theorem dX1_isEqual_11 : decode cX1_isEqual 11 = .ok (.ifCond .ne 26, 3) := by decide +kernel
theorem dX1_isEqual_14 : decode cX1_isEqual 14 = .ok (.iload_n 0, 1) := by decide +kernel
theorem dX1_isEqual_15 : decode cX1_isEqual 15 = .ok (.iload_n 1, 1) := by decide +kernel
theorem dX1_isEqual_16 : decode cX1_isEqual 16 = .ok (.if_icmp .eq 17, 3) := by decide +kernel
theorem dX1_isEqual_19 : decode cX1_isEqual 19 = .ok (.iload_n 0, 1) := by decide +kernel
theorem dX1_isEqual_20 : decode cX1_isEqual 20 = .ok (.invokestatic 36, 3) := by decide +kernel
theorem dX1_isEqual_23 : decode cX1_isEqual 23 = .ok (.ifCond .eq 14, 3) := by decide +kernel
theorem dX1_isEqual_26 : decode cX1_isEqual 26 = .ok (.iload_n 1, 1) := by decide +kernel
theorem dX1_isEqual_27 : decode cX1_isEqual 27 = .ok (.invokestatic 36, 3) := by decide +kernel
theorem dX1_isEqual_30 : decode cX1_isEqual 30 = .ok (.ifCond .eq 7, 3) := by decide +kernel
theorem dX1_isEqual_33 : decode cX1_isEqual 33 = .ok (.iconst 1, 1) := by decide +kernel
theorem dX1_isEqual_34 : decode cX1_isEqual 34 = .ok (.goto 4, 3) := by decide +kernel
theorem dX1_isEqual_37 : decode cX1_isEqual 37 = .ok (.iconst 0, 1) := by decide +kernel
theorem dX1_isEqual_38 : decode cX1_isEqual 38 = .ok (.ireturn, 1) := by decide +kernel
theorem dX0_count_0 : decode cX0_count 0 = .ok (.aload_n 0, 1) := by decide +kernel
theorem dX0_count_1 : decode cX0_count 1 = .ok (.getfield 18, 3) := by decide +kernel
theorem dX0_count_4 : decode cX0_count 4 = .ok (.ireturn, 1) := by decide +kernel
theorem dX0_top_0 : decode cX0_top 0 = .ok (.aload_n 0, 1) := by decide +kernel
theorem dX0_top_1 : decode cX0_top 1 = .ok (.getfield 22, 3) := by decide +kernel
theorem dX0_top_4 : decode cX0_top 4 = .ok (.ireturn, 1) := by decide +kernel
theorem dX2_isKind_0 : decode cX2_isKind 0 = .ok (.iload_n 0, 1) := by decide +kernel
theorem dX2_isKind_1 : decode cX2_isKind 1 = .ok (.ifCond .lt 13, 3) := by decide +kernel
theorem dX2_isKind_4 : decode cX2_isKind 4 = .ok (.iload_n 0, 1) := by decide +kernel
theorem dX2_isKind_5 : decode cX2_isKind 5 = .ok (.bipush 19, 2) := by decide +kernel
theorem dX2_isKind_7 : decode cX2_isKind 7 = .ok (.if_icmp .gt 7, 3) := by decide +kernel
theorem dX2_isKind_10 : decode cX2_isKind 10 = .ok (.iconst 1, 1) := by decide +kernel
theorem dX2_isKind_11 : decode cX2_isKind 11 = .ok (.goto 4, 3) := by decide +kernel
theorem dX2_isKind_14 : decode cX2_isKind 14 = .ok (.iconst 0, 1) := by decide +kernel
theorem dX2_isKind_15 : decode cX2_isKind 15 = .ok (.ireturn, 1) := by decide +kernel
theorem dX2_ofFirst_0 : decode cX2_ofFirst 0 = .ok (.iload_n 0, 1) := by decide +kernel
theorem dX2_ofFirst_1 : decode cX2_ofFirst 1 = .ok (.tableswitch 101 0 19 #[95, 97, 101, 101, 101, 101, 101, 101, 101, 99, 101, 101, 101, 101, 101, 101, 101, 99, 99, 99], 95) := by decide +kernel
theorem dX2_ofFirst_96 : decode cX2_ofFirst 96 = .ok (.iconst 1, 1) := by decide +kernel
theorem dX2_ofFirst_97 : decode cX2_ofFirst 97 = .ok (.ireturn, 1) := by decide +kernel
theorem dX2_ofFirst_98 : decode cX2_ofFirst 98 = .ok (.iconst 2, 1) := by decide +kernel
theorem dX2_ofFirst_99 : decode cX2_ofFirst 99 = .ok (.ireturn, 1) := by decide +kernel
theorem dX2_ofFirst_100 : decode cX2_ofFirst 100 = .ok (.iconst 4, 1) := by decide +kernel
theorem dX2_ofFirst_101 : decode cX2_ofFirst 101 = .ok (.ireturn, 1) := by decide +kernel
theorem dX2_ofFirst_102 : decode cX2_ofFirst 102 = .ok (.iconst 3, 1) := by decide +kernel
theorem dX2_ofFirst_103 : decode cX2_ofFirst 103 = .ok (.ireturn, 1) := by decide +kernel
theorem dX1_isNumber_0 : decode cX1_isNumber 0 = .ok (.iload_n 0, 1) := by decide +kernel
theorem dX1_isNumber_1 : decode cX1_isNumber 1 = .ok (.ifCond .lt 13, 3) := by decide +kernel
theorem dX1_isNumber_4 : decode cX1_isNumber 4 = .ok (.iload_n 0, 1) := by decide +kernel
theorem dX1_isNumber_5 : decode cX1_isNumber 5 = .ok (.bipush 31, 2) := by decide +kernel
theorem dX1_isNumber_7 : decode cX1_isNumber 7 = .ok (.if_icmp .gt 7, 3) := by decide +kernel
theorem dX1_isNumber_10 : decode cX1_isNumber 10 = .ok (.iconst 1, 1) := by decide +kernel
theorem dX1_isNumber_11 : decode cX1_isNumber 11 = .ok (.goto 4, 3) := by decide +kernel
theorem dX1_isNumber_14 : decode cX1_isNumber 14 = .ok (.iconst 0, 1) := by decide +kernel
theorem dX1_isNumber_15 : decode cX1_isNumber 15 = .ok (.ireturn, 1) := by decide +kernel
theorem dX2_givesTruth_0 : decode cX2_givesTruth 0 = .ok (.iload_n 0, 1) := by decide +kernel
theorem dX2_givesTruth_1 : decode cX2_givesTruth 1 = .ok (.bipush 10, 2) := by decide +kernel
theorem dX2_givesTruth_3 : decode cX2_givesTruth 3 = .ok (.if_icmp .lt 13, 3) := by decide +kernel
theorem dX2_givesTruth_6 : decode cX2_givesTruth 6 = .ok (.iload_n 0, 1) := by decide +kernel
theorem dX2_givesTruth_7 : decode cX2_givesTruth 7 = .ok (.bipush 19, 2) := by decide +kernel
theorem dX2_givesTruth_9 : decode cX2_givesTruth 9 = .ok (.if_icmp .gt 7, 3) := by decide +kernel
theorem dX2_givesTruth_12 : decode cX2_givesTruth 12 = .ok (.iconst 1, 1) := by decide +kernel
theorem dX2_givesTruth_13 : decode cX2_givesTruth 13 = .ok (.goto 4, 3) := by decide +kernel
theorem dX2_givesTruth_16 : decode cX2_givesTruth 16 = .ok (.iconst 0, 1) := by decide +kernel
theorem dX2_givesTruth_17 : decode cX2_givesTruth 17 = .ok (.ireturn, 1) := by decide +kernel
theorem dX2_ofSecond_0 : decode cX2_ofSecond 0 = .ok (.iload_n 0, 1) := by decide +kernel
theorem dX2_ofSecond_1 : decode cX2_ofSecond 1 = .ok (.iconst 4, 1) := by decide +kernel
theorem dX2_ofSecond_2 : decode cX2_ofSecond 2 = .ok (.if_icmp .lt 11, 3) := by decide +kernel
theorem dX2_ofSecond_5 : decode cX2_ofSecond 5 = .ok (.iload_n 0, 1) := by decide +kernel
theorem dX2_ofSecond_6 : decode cX2_ofSecond 6 = .ok (.bipush 13, 2) := by decide +kernel
theorem dX2_ofSecond_8 : decode cX2_ofSecond 8 = .ok (.if_icmp .gt 5, 3) := by decide +kernel
theorem dX2_ofSecond_11 : decode cX2_ofSecond 11 = .ok (.iconst 3, 1) := by decide +kernel
theorem dX2_ofSecond_12 : decode cX2_ofSecond 12 = .ok (.ireturn, 1) := by decide +kernel
theorem dX2_ofSecond_13 : decode cX2_ofSecond 13 = .ok (.iload_n 0, 1) := by decide +kernel
theorem dX2_ofSecond_14 : decode cX2_ofSecond 14 = .ok (.bipush 18, 2) := by decide +kernel
theorem dX2_ofSecond_16 : decode cX2_ofSecond 16 = .ok (.if_icmp .eq 9, 3) := by decide +kernel
theorem dX2_ofSecond_19 : decode cX2_ofSecond 19 = .ok (.iload_n 0, 1) := by decide +kernel
theorem dX2_ofSecond_20 : decode cX2_ofSecond 20 = .ok (.bipush 19, 2) := by decide +kernel
theorem dX2_ofSecond_22 : decode cX2_ofSecond 22 = .ok (.if_icmp .ne 7, 3) := by decide +kernel
theorem dX2_ofSecond_25 : decode cX2_ofSecond 25 = .ok (.iconst 4, 1) := by decide +kernel
theorem dX2_ofSecond_26 : decode cX2_ofSecond 26 = .ok (.goto 4, 3) := by decide +kernel
theorem dX2_ofSecond_29 : decode cX2_ofSecond 29 = .ok (.iconst 0, 1) := by decide +kernel
theorem dX2_ofSecond_30 : decode cX2_ofSecond 30 = .ok (.ireturn, 1) := by decide +kernel
theorem dX2_ofThird_0 : decode cX2_ofThird 0 = .ok (.iload_n 0, 1) := by decide +kernel
theorem dX2_ofThird_1 : decode cX2_ofThird 1 = .ok (.bipush 9, 2) := by decide +kernel
theorem dX2_ofThird_3 : decode cX2_ofThird 3 = .ok (.if_icmp .ne 7, 3) := by decide +kernel
theorem dX2_ofThird_6 : decode cX2_ofThird 6 = .ok (.iconst 3, 1) := by decide +kernel
theorem dX2_ofThird_7 : decode cX2_ofThird 7 = .ok (.goto 4, 3) := by decide +kernel
theorem dX2_ofThird_10 : decode cX2_ofThird 10 = .ok (.iconst 0, 1) := by decide +kernel
theorem dX2_ofThird_11 : decode cX2_ofThird 11 = .ok (.ireturn, 1) := by decide +kernel
theorem dX2_isTerm_0 : decode cX2_isTerm 0 = .ok (.iload_n 0, 1) := by decide +kernel
theorem dX2_isTerm_1 : decode cX2_isTerm 1 = .ok (.iconst 3, 1) := by decide +kernel
theorem dX2_isTerm_2 : decode cX2_isTerm 2 = .ok (.if_icmp .eq 8, 3) := by decide +kernel
theorem dX2_isTerm_5 : decode cX2_isTerm 5 = .ok (.iload_n 0, 1) := by decide +kernel
theorem dX2_isTerm_6 : decode cX2_isTerm 6 = .ok (.iconst 4, 1) := by decide +kernel
theorem dX2_isTerm_7 : decode cX2_isTerm 7 = .ok (.if_icmp .ne 7, 3) := by decide +kernel
theorem dX2_isTerm_10 : decode cX2_isTerm 10 = .ok (.iconst 1, 1) := by decide +kernel
theorem dX2_isTerm_11 : decode cX2_isTerm 11 = .ok (.goto 4, 3) := by decide +kernel
theorem dX2_isTerm_14 : decode cX2_isTerm 14 = .ok (.iconst 0, 1) := by decide +kernel
theorem dX2_isTerm_15 : decode cX2_isTerm 15 = .ok (.ireturn, 1) := by decide +kernel
theorem dX0_isFull_0 : decode cX0_isFull 0 = .ok (.aload_n 0, 1) := by decide +kernel
theorem dX0_isFull_1 : decode cX0_isFull 1 = .ok (.getfield 18, 3) := by decide +kernel
theorem dX0_isFull_4 : decode cX0_isFull 4 = .ok (.bipush 20, 2) := by decide +kernel
theorem dX0_isFull_6 : decode cX0_isFull 6 = .ok (.if_icmp .lt 7, 3) := by decide +kernel
theorem dX0_isFull_9 : decode cX0_isFull 9 = .ok (.iconst 1, 1) := by decide +kernel
theorem dX0_isFull_10 : decode cX0_isFull 10 = .ok (.goto 4, 3) := by decide +kernel
theorem dX0_isFull_13 : decode cX0_isFull 13 = .ok (.iconst 0, 1) := by decide +kernel
theorem dX0_isFull_14 : decode cX0_isFull 14 = .ok (.ireturn, 1) := by decide +kernel
theorem dX0_push_0 : decode cX0_push 0 = .ok (.aload_n 0, 1) := by decide +kernel
theorem dX0_push_1 : decode cX0_push 1 = .ok (.getfield 9, 3) := by decide +kernel
theorem dX0_push_4 : decode cX0_push 4 = .ok (.aload_n 0, 1) := by decide +kernel
theorem dX0_push_5 : decode cX0_push 5 = .ok (.getfield 18, 3) := by decide +kernel
theorem dX0_push_8 : decode cX0_push 8 = .ok (.iload_n 1, 1) := by decide +kernel
theorem dX0_push_9 : decode cX0_push 9 = .ok (.iastore, 1) := by decide +kernel
theorem dX0_push_10 : decode cX0_push 10 = .ok (.aload_n 0, 1) := by decide +kernel
theorem dX0_push_11 : decode cX0_push 11 = .ok (.dup, 1) := by decide +kernel
theorem dX0_push_12 : decode cX0_push 12 = .ok (.getfield 18, 3) := by decide +kernel
theorem dX0_push_15 : decode cX0_push 15 = .ok (.iconst 1, 1) := by decide +kernel
theorem dX0_push_16 : decode cX0_push 16 = .ok (.iadd, 1) := by decide +kernel
theorem dX0_push_17 : decode cX0_push 17 = .ok (.putfield 18, 3) := by decide +kernel
theorem dX0_push_20 : decode cX0_push 20 = .ok (.aload_n 0, 1) := by decide +kernel
theorem dX0_push_21 : decode cX0_push 21 = .ok (.getfield 18, 3) := by decide +kernel
theorem dX0_push_24 : decode cX0_push 24 = .ok (.ireturn, 1) := by decide +kernel
theorem dX0_raise_0 : decode cX0_raise 0 = .ok (.aload_n 0, 1) := by decide +kernel
theorem dX0_raise_1 : decode cX0_raise 1 = .ok (.dup, 1) := by decide +kernel
theorem dX0_raise_2 : decode cX0_raise 2 = .ok (.getfield 22, 3) := by decide +kernel
theorem dX0_raise_5 : decode cX0_raise 5 = .ok (.iconst 1, 1) := by decide +kernel
theorem dX0_raise_6 : decode cX0_raise 6 = .ok (.iadd, 1) := by decide +kernel
theorem dX0_raise_7 : decode cX0_raise 7 = .ok (.putfield 22, 3) := by decide +kernel
theorem dX0_raise_10 : decode cX0_raise 10 = .ok (.aload_n 0, 1) := by decide +kernel
theorem dX0_raise_11 : decode cX0_raise 11 = .ok (.getfield 15, 3) := by decide +kernel
theorem dX0_raise_14 : decode cX0_raise 14 = .ok (.aload_n 0, 1) := by decide +kernel
theorem dX0_raise_15 : decode cX0_raise 15 = .ok (.getfield 22, 3) := by decide +kernel
theorem dX0_raise_18 : decode cX0_raise 18 = .ok (.aload_n 0, 1) := by decide +kernel
theorem dX0_raise_19 : decode cX0_raise 19 = .ok (.getfield 18, 3) := by decide +kernel
theorem dX0_raise_22 : decode cX0_raise 22 = .ok (.iastore, 1) := by decide +kernel
theorem dX0_raise_23 : decode cX0_raise 23 = .ok (.aload_n 0, 1) := by decide +kernel
theorem dX0_raise_24 : decode cX0_raise 24 = .ok (.getfield 22, 3) := by decide +kernel
theorem dX0_raise_27 : decode cX0_raise 27 = .ok (.ireturn, 1) := by decide +kernel
theorem dX0_drop_0 : decode cX0_drop 0 = .ok (.aload_n 0, 1) := by decide +kernel
theorem dX0_drop_1 : decode cX0_drop 1 = .ok (.getfield 18, 3) := by decide +kernel
theorem dX0_drop_4 : decode cX0_drop 4 = .ok (.aload_n 0, 1) := by decide +kernel
theorem dX0_drop_5 : decode cX0_drop 5 = .ok (.getfield 15, 3) := by decide +kernel
theorem dX0_drop_8 : decode cX0_drop 8 = .ok (.aload_n 0, 1) := by decide +kernel
theorem dX0_drop_9 : decode cX0_drop 9 = .ok (.getfield 22, 3) := by decide +kernel
theorem dX0_drop_12 : decode cX0_drop 12 = .ok (.iaload, 1) := by decide +kernel
theorem dX0_drop_13 : decode cX0_drop 13 = .ok (.isub, 1) := by decide +kernel
theorem dX0_drop_14 : decode cX0_drop 14 = .ok (.istore_n 1, 1) := by decide +kernel
theorem dX0_drop_15 : decode cX0_drop 15 = .ok (.aload_n 0, 1) := by decide +kernel
theorem dX0_drop_16 : decode cX0_drop 16 = .ok (.aload_n 0, 1) := by decide +kernel
theorem dX0_drop_17 : decode cX0_drop 17 = .ok (.getfield 15, 3) := by decide +kernel
theorem dX0_drop_20 : decode cX0_drop 20 = .ok (.aload_n 0, 1) := by decide +kernel
theorem dX0_drop_21 : decode cX0_drop 21 = .ok (.getfield 22, 3) := by decide +kernel
theorem dX0_drop_24 : decode cX0_drop 24 = .ok (.iaload, 1) := by decide +kernel
theorem dX0_drop_25 : decode cX0_drop 25 = .ok (.putfield 18, 3) := by decide +kernel
theorem dX0_drop_28 : decode cX0_drop 28 = .ok (.aload_n 0, 1) := by decide +kernel
theorem dX0_drop_29 : decode cX0_drop 29 = .ok (.dup, 1) := by decide +kernel
theorem dX0_drop_30 : decode cX0_drop 30 = .ok (.getfield 22, 3) := by decide +kernel
theorem dX0_drop_33 : decode cX0_drop 33 = .ok (.iconst 1, 1) := by decide +kernel
theorem dX0_drop_34 : decode cX0_drop 34 = .ok (.isub, 1) := by decide +kernel
theorem dX0_drop_35 : decode cX0_drop 35 = .ok (.putfield 22, 3) := by decide +kernel
theorem dX0_drop_38 : decode cX0_drop 38 = .ok (.iload_n 1, 1) := by decide +kernel
theorem dX0_drop_39 : decode cX0_drop 39 = .ok (.ireturn, 1) := by decide +kernel
theorem dX1_isOperation_0 : decode cX1_isOperation 0 = .ok (.iload_n 0, 1) := by decide +kernel
theorem dX1_isOperation_1 : decode cX1_isOperation 1 = .ok (.iconst 2, 1) := by decide +kernel
theorem dX1_isOperation_2 : decode cX1_isOperation 2 = .ok (.if_icmp .lt 19, 3) := by decide +kernel
theorem dX1_isOperation_5 : decode cX1_isOperation 5 = .ok (.iload_n 0, 1) := by decide +kernel
theorem dX1_isOperation_6 : decode cX1_isOperation 6 = .ok (.bipush 16, 2) := by decide +kernel
theorem dX1_isOperation_8 : decode cX1_isOperation 8 = .ok (.if_icmp .gt 13, 3) := by decide +kernel
theorem dX1_isOperation_11 : decode cX1_isOperation 11 = .ok (.iload_n 0, 1) := by decide +kernel
theorem dX1_isOperation_12 : decode cX1_isOperation 12 = .ok (.bipush 9, 2) := by decide +kernel
theorem dX1_isOperation_14 : decode cX1_isOperation 14 = .ok (.if_icmp .eq 7, 3) := by decide +kernel
theorem dX1_isOperation_17 : decode cX1_isOperation 17 = .ok (.iconst 1, 1) := by decide +kernel
theorem dX1_isOperation_18 : decode cX1_isOperation 18 = .ok (.goto 4, 3) := by decide +kernel
theorem dX1_isOperation_21 : decode cX1_isOperation 21 = .ok (.iconst 0, 1) := by decide +kernel
theorem dX1_isOperation_22 : decode cX1_isOperation 22 = .ok (.ireturn, 1) := by decide +kernel
end
section
theorem dX3_init_0 : decode cX3_init 0 = .ok (.aload_n 0, 1) := by decide +kernel
theorem dX3_init_1 : decode cX3_init 1 = .ok (.invokespecial 3, 3) := by decide +kernel
theorem dX3_init_4 : decode cX3_init 4 = .ok (.aload_n 0, 1) := by decide +kernel
theorem dX3_init_5 : decode cX3_init 5 = .ok (.bipush 12, 2) := by decide +kernel
theorem dX3_init_7 : decode cX3_init 7 = .ok (.newarray .int, 2) := by decide +kernel
theorem dX3_init_9 : decode cX3_init 9 = .ok (.putfield 9, 3) := by decide +kernel
theorem dX3_init_12 : decode cX3_init 12 = .ok (.aload_n 0, 1) := by decide +kernel
theorem dX3_init_13 : decode cX3_init 13 = .ok (.bipush 12, 2) := by decide +kernel
theorem dX3_init_15 : decode cX3_init 15 = .ok (.newarray .int, 2) := by decide +kernel
theorem dX3_init_17 : decode cX3_init 17 = .ok (.putfield 15, 3) := by decide +kernel
theorem dX3_init_20 : decode cX3_init 20 = .ok (.aload_n 0, 1) := by decide +kernel
theorem dX3_init_21 : decode cX3_init 21 = .ok (.bipush 12, 2) := by decide +kernel
theorem dX3_init_23 : decode cX3_init 23 = .ok (.newarray .int, 2) := by decide +kernel
theorem dX3_init_25 : decode cX3_init 25 = .ok (.putfield 18, 3) := by decide +kernel
theorem dX3_init_28 : decode cX3_init 28 = .ok (.aload_n 0, 1) := by decide +kernel
theorem dX3_init_29 : decode cX3_init 29 = .ok (.bipush 12, 2) := by decide +kernel
theorem dX3_init_31 : decode cX3_init 31 = .ok (.newarray .int, 2) := by decide +kernel
theorem dX3_init_33 : decode cX3_init 33 = .ok (.putfield 21, 3) := by decide +kernel
theorem dX3_init_36 : decode cX3_init 36 = .ok (.aload_n 0, 1) := by decide +kernel
theorem dX3_init_37 : decode cX3_init 37 = .ok (.bipush 12, 2) := by decide +kernel
theorem dX3_init_39 : decode cX3_init 39 = .ok (.newarray .int, 2) := by decide +kernel
theorem dX3_init_41 : decode cX3_init 41 = .ok (.putfield 24, 3) := by decide +kernel
theorem dX3_init_44 : decode cX3_init 44 = .ok (.aload_n 0, 1) := by decide +kernel
theorem dX3_init_45 : decode cX3_init 45 = .ok (.iconst 2, 1) := by decide +kernel
theorem dX3_init_46 : decode cX3_init 46 = .ok (.newarray .int, 2) := by decide +kernel
theorem dX3_init_48 : decode cX3_init 48 = .ok (.putfield 27, 3) := by decide +kernel
theorem dX3_init_51 : decode cX3_init 51 = .ok (.aload_n 0, 1) := by decide +kernel
theorem dX3_init_52 : decode cX3_init 52 = .ok (.bipush 12, 2) := by decide +kernel
theorem dX3_init_54 : decode cX3_init 54 = .ok (.newarray .int, 2) := by decide +kernel
theorem dX3_init_56 : decode cX3_init 56 = .ok (.putfield 30, 3) := by decide +kernel
theorem dX3_init_59 : decode cX3_init 59 = .ok (.aload_n 0, 1) := by decide +kernel
theorem dX3_init_60 : decode cX3_init 60 = .ok (.iconst 0, 1) := by decide +kernel
theorem dX3_init_61 : decode cX3_init 61 = .ok (.putfield 33, 3) := by decide +kernel
theorem dX3_init_64 : decode cX3_init 64 = .ok (.return_, 1) := by decide +kernel
theorem dX3_partsOf_0 : decode cX3_partsOf 0 = .ok (.iconst 0, 1) := by decide +kernel
theorem dX3_partsOf_1 : decode cX3_partsOf 1 = .ok (.istore_n 2, 1) := by decide +kernel
theorem dX3_partsOf_2 : decode cX3_partsOf 2 = .ok (.iconst 0, 1) := by decide +kernel
theorem dX3_partsOf_3 : decode cX3_partsOf 3 = .ok (.istore_n 3, 1) := by decide +kernel
theorem dX3_partsOf_4 : decode cX3_partsOf 4 = .ok (.iload_n 3, 1) := by decide +kernel
theorem dX3_partsOf_5 : decode cX3_partsOf 5 = .ok (.aload_n 0, 1) := by decide +kernel
theorem dX3_partsOf_6 : decode cX3_partsOf 6 = .ok (.getfield 33, 3) := by decide +kernel
theorem dX3_partsOf_9 : decode cX3_partsOf 9 = .ok (.if_icmp .ge 26, 3) := by decide +kernel
theorem dX3_partsOf_12 : decode cX3_partsOf 12 = .ok (.iload_n 1, 1) := by decide +kernel
theorem dX3_partsOf_13 : decode cX3_partsOf 13 = .ok (.iconst 1, 1) := by decide +kernel
theorem dX3_partsOf_14 : decode cX3_partsOf 14 = .ok (.iload_n 3, 1) := by decide +kernel
theorem dX3_partsOf_15 : decode cX3_partsOf 15 = .ok (.ishl, 1) := by decide +kernel
theorem dX3_partsOf_16 : decode cX3_partsOf 16 = .ok (.iand, 1) := by decide +kernel
theorem dX3_partsOf_17 : decode cX3_partsOf 17 = .ok (.ifCond .eq 12, 3) := by decide +kernel
theorem dX3_partsOf_20 : decode cX3_partsOf 20 = .ok (.iload_n 2, 1) := by decide +kernel
theorem dX3_partsOf_21 : decode cX3_partsOf 21 = .ok (.aload_n 0, 1) := by decide +kernel
theorem dX3_partsOf_22 : decode cX3_partsOf 22 = .ok (.getfield 24, 3) := by decide +kernel
theorem dX3_partsOf_25 : decode cX3_partsOf 25 = .ok (.iload_n 3, 1) := by decide +kernel
theorem dX3_partsOf_26 : decode cX3_partsOf 26 = .ok (.iaload, 1) := by decide +kernel
theorem dX3_partsOf_27 : decode cX3_partsOf 27 = .ok (.ior, 1) := by decide +kernel
theorem dX3_partsOf_28 : decode cX3_partsOf 28 = .ok (.istore_n 2, 1) := by decide +kernel
theorem dX3_partsOf_29 : decode cX3_partsOf 29 = .ok (.iinc 3 1, 3) := by decide +kernel
theorem dX3_partsOf_32 : decode cX3_partsOf 32 = .ok (.goto (-28), 3) := by decide +kernel
theorem dX3_partsOf_35 : decode cX3_partsOf 35 = .ok (.iload_n 2, 1) := by decide +kernel
theorem dX3_partsOf_36 : decode cX3_partsOf 36 = .ok (.ireturn, 1) := by decide +kernel
theorem dX3_varyingWith_0 : decode cX3_varyingWith 0 = .ok (.aload_n 0, 1) := by decide +kernel
theorem dX3_varyingWith_1 : decode cX3_varyingWith 1 = .ok (.getfield 27, 3) := by decide +kernel
theorem dX3_varyingWith_4 : decode cX3_varyingWith 4 = .ok (.iload_n 1, 1) := by decide +kernel
theorem dX3_varyingWith_5 : decode cX3_varyingWith 5 = .ok (.iaload, 1) := by decide +kernel
theorem dX3_varyingWith_6 : decode cX3_varyingWith 6 = .ok (.ireturn, 1) := by decide +kernel
theorem dX3_allHold_0 : decode cX3_allHold 0 = .ok (.iconst 0, 1) := by decide +kernel
theorem dX3_allHold_1 : decode cX3_allHold 1 = .ok (.istore 5, 2) := by decide +kernel
theorem dX3_allHold_3 : decode cX3_allHold 3 = .ok (.iload 5, 2) := by decide +kernel
theorem dX3_allHold_5 : decode cX3_allHold 5 = .ok (.aload_n 0, 1) := by decide +kernel
theorem dX3_allHold_6 : decode cX3_allHold 6 = .ok (.getfield 33, 3) := by decide +kernel
theorem dX3_allHold_9 : decode cX3_allHold 9 = .ok (.if_icmp .ge 57, 3) := by decide +kernel
theorem dX3_allHold_12 : decode cX3_allHold 12 = .ok (.iconst 1, 1) := by decide +kernel
theorem dX3_allHold_13 : decode cX3_allHold 13 = .ok (.iload 5, 2) := by decide +kernel
theorem dX3_allHold_15 : decode cX3_allHold 15 = .ok (.ishl, 1) := by decide +kernel
theorem dX3_allHold_16 : decode cX3_allHold 16 = .ok (.istore 6, 2) := by decide +kernel
theorem dX3_allHold_18 : decode cX3_allHold 18 = .ok (.iload_n 1, 1) := by decide +kernel
theorem dX3_allHold_19 : decode cX3_allHold 19 = .ok (.iload 6, 2) := by decide +kernel
theorem dX3_allHold_21 : decode cX3_allHold 21 = .ok (.iand, 1) := by decide +kernel
theorem dX3_allHold_22 : decode cX3_allHold 22 = .ok (.ifCond .eq 38, 3) := by decide +kernel
theorem dX3_allHold_25 : decode cX3_allHold 25 = .ok (.aload_n 0, 1) := by decide +kernel
theorem dX3_allHold_26 : decode cX3_allHold 26 = .ok (.getfield 30, 3) := by decide +kernel
theorem dX3_allHold_29 : decode cX3_allHold 29 = .ok (.iload 5, 2) := by decide +kernel
theorem dX3_allHold_31 : decode cX3_allHold 31 = .ok (.aload_n 0, 1) := by decide +kernel
theorem dX3_allHold_32 : decode cX3_allHold 32 = .ok (.iload 5, 2) := by decide +kernel
theorem dX3_allHold_34 : decode cX3_allHold 34 = .ok (.iload_n 3, 1) := by decide +kernel
theorem dX3_allHold_35 : decode cX3_allHold 35 = .ok (.iload 4, 2) := by decide +kernel
theorem dX3_allHold_37 : decode cX3_allHold 37 = .ok (.invokevirtual 85, 3) := by decide +kernel
theorem dX3_allHold_40 : decode cX3_allHold 40 = .ok (.iastore, 1) := by decide +kernel
theorem dX3_allHold_41 : decode cX3_allHold 41 = .ok (.iload_n 2, 1) := by decide +kernel
theorem dX3_allHold_42 : decode cX3_allHold 42 = .ok (.iload 6, 2) := by decide +kernel
theorem dX3_allHold_44 : decode cX3_allHold 44 = .ok (.iand, 1) := by decide +kernel
theorem dX3_allHold_45 : decode cX3_allHold 45 = .ok (.ifCond .eq 15, 3) := by decide +kernel
theorem dX3_allHold_48 : decode cX3_allHold 48 = .ok (.aload_n 0, 1) := by decide +kernel
theorem dX3_allHold_49 : decode cX3_allHold 49 = .ok (.getfield 30, 3) := by decide +kernel
theorem dX3_allHold_52 : decode cX3_allHold 52 = .ok (.iload 5, 2) := by decide +kernel
theorem dX3_allHold_54 : decode cX3_allHold 54 = .ok (.iaload, 1) := by decide +kernel
theorem dX3_allHold_55 : decode cX3_allHold 55 = .ok (.ifCond .ne 5, 3) := by decide +kernel
theorem dX3_allHold_58 : decode cX3_allHold 58 = .ok (.iconst 0, 1) := by decide +kernel
theorem dX3_allHold_59 : decode cX3_allHold 59 = .ok (.ireturn, 1) := by decide +kernel
theorem dX3_allHold_60 : decode cX3_allHold 60 = .ok (.iinc 5 1, 3) := by decide +kernel
theorem dX3_allHold_63 : decode cX3_allHold 63 = .ok (.goto (-60), 3) := by decide +kernel
theorem dX3_allHold_66 : decode cX3_allHold 66 = .ok (.iconst 1, 1) := by decide +kernel
theorem dX3_allHold_67 : decode cX3_allHold 67 = .ok (.ireturn, 1) := by decide +kernel
theorem dX3_workOut_0 : decode cX3_workOut 0 = .ok (.aload_n 0, 1) := by decide +kernel
theorem dX3_workOut_1 : decode cX3_workOut 1 = .ok (.getfield 9, 3) := by decide +kernel
theorem dX3_workOut_4 : decode cX3_workOut 4 = .ok (.iload_n 1, 1) := by decide +kernel
theorem dX3_workOut_5 : decode cX3_workOut 5 = .ok (.iaload, 1) := by decide +kernel
theorem dX3_workOut_6 : decode cX3_workOut 6 = .ok (.istore 4, 2) := by decide +kernel
theorem dX3_workOut_8 : decode cX3_workOut 8 = .ok (.iload 4, 2) := by decide +kernel
theorem dX3_workOut_10 : decode cX3_workOut 10 = .ok (.ifCond .ne 18, 3) := by decide +kernel
theorem dX3_workOut_13 : decode cX3_workOut 13 = .ok (.aload_n 0, 1) := by decide +kernel
theorem dX3_workOut_14 : decode cX3_workOut 14 = .ok (.getfield 15, 3) := by decide +kernel
theorem dX3_workOut_17 : decode cX3_workOut 17 = .ok (.iload_n 1, 1) := by decide +kernel
theorem dX3_workOut_18 : decode cX3_workOut 18 = .ok (.iaload, 1) := by decide +kernel
theorem dX3_workOut_19 : decode cX3_workOut 19 = .ok (.ifCond .ne 7, 3) := by decide +kernel
theorem dX3_workOut_22 : decode cX3_workOut 22 = .ok (.iload_n 2, 1) := by decide +kernel
theorem dX3_workOut_23 : decode cX3_workOut 23 = .ok (.goto 4, 3) := by decide +kernel
theorem dX3_workOut_26 : decode cX3_workOut 26 = .ok (.iload_n 3, 1) := by decide +kernel
theorem dX3_workOut_27 : decode cX3_workOut 27 = .ok (.ireturn, 1) := by decide +kernel
theorem dX3_workOut_28 : decode cX3_workOut 28 = .ok (.iload 4, 2) := by decide +kernel
theorem dX3_workOut_30 : decode cX3_workOut 30 = .ok (.iconst 1, 1) := by decide +kernel
theorem dX3_workOut_31 : decode cX3_workOut 31 = .ok (.if_icmp .ne 10, 3) := by decide +kernel
theorem dX3_workOut_34 : decode cX3_workOut 34 = .ok (.aload_n 0, 1) := by decide +kernel
theorem dX3_workOut_35 : decode cX3_workOut 35 = .ok (.getfield 15, 3) := by decide +kernel
theorem dX3_workOut_38 : decode cX3_workOut 38 = .ok (.iload_n 1, 1) := by decide +kernel
theorem dX3_workOut_39 : decode cX3_workOut 39 = .ok (.iaload, 1) := by decide +kernel
theorem dX3_workOut_40 : decode cX3_workOut 40 = .ok (.ireturn, 1) := by decide +kernel
theorem dX3_workOut_41 : decode cX3_workOut 41 = .ok (.aload_n 0, 1) := by decide +kernel
theorem dX3_workOut_42 : decode cX3_workOut 42 = .ok (.getfield 30, 3) := by decide +kernel
theorem dX3_workOut_45 : decode cX3_workOut 45 = .ok (.aload_n 0, 1) := by decide +kernel
theorem dX3_workOut_46 : decode cX3_workOut 46 = .ok (.getfield 15, 3) := by decide +kernel
theorem dX3_workOut_49 : decode cX3_workOut 49 = .ok (.iload_n 1, 1) := by decide +kernel
theorem dX3_workOut_50 : decode cX3_workOut 50 = .ok (.iaload, 1) := by decide +kernel
theorem dX3_workOut_51 : decode cX3_workOut 51 = .ok (.iaload, 1) := by decide +kernel
theorem dX3_workOut_52 : decode cX3_workOut 52 = .ok (.istore 5, 2) := by decide +kernel
theorem dX3_workOut_54 : decode cX3_workOut 54 = .ok (.aload_n 0, 1) := by decide +kernel
theorem dX3_workOut_55 : decode cX3_workOut 55 = .ok (.getfield 30, 3) := by decide +kernel
theorem dX3_workOut_58 : decode cX3_workOut 58 = .ok (.aload_n 0, 1) := by decide +kernel
theorem dX3_workOut_59 : decode cX3_workOut 59 = .ok (.getfield 18, 3) := by decide +kernel
theorem dX3_workOut_62 : decode cX3_workOut 62 = .ok (.iload_n 1, 1) := by decide +kernel
theorem dX3_workOut_63 : decode cX3_workOut 63 = .ok (.iaload, 1) := by decide +kernel
theorem dX3_workOut_64 : decode cX3_workOut 64 = .ok (.iaload, 1) := by decide +kernel
theorem dX3_workOut_65 : decode cX3_workOut 65 = .ok (.istore 6, 2) := by decide +kernel
theorem dX3_workOut_67 : decode cX3_workOut 67 = .ok (.aload_n 0, 1) := by decide +kernel
theorem dX3_workOut_68 : decode cX3_workOut 68 = .ok (.getfield 30, 3) := by decide +kernel
theorem dX3_workOut_71 : decode cX3_workOut 71 = .ok (.aload_n 0, 1) := by decide +kernel
theorem dX3_workOut_72 : decode cX3_workOut 72 = .ok (.getfield 21, 3) := by decide +kernel
theorem dX3_workOut_75 : decode cX3_workOut 75 = .ok (.iload_n 1, 1) := by decide +kernel
theorem dX3_workOut_76 : decode cX3_workOut 76 = .ok (.iaload, 1) := by decide +kernel
theorem dX3_workOut_77 : decode cX3_workOut 77 = .ok (.iaload, 1) := by decide +kernel
theorem dX3_workOut_78 : decode cX3_workOut 78 = .ok (.istore 7, 2) := by decide +kernel
theorem dX3_workOut_80 : decode cX3_workOut 80 = .ok (.iload 4, 2) := by decide +kernel
theorem dX3_workOut_82 : decode cX3_workOut 82 = .ok (.lookupswitch 73 #[(9, 42), (17, 56), (18, 61), (19, 67)], 42) := by decide +kernel
theorem dX3_workOut_124 : decode cX3_workOut 124 = .ok (.iload 5, 2) := by decide +kernel
theorem dX3_workOut_126 : decode cX3_workOut 126 = .ok (.iconst 1, 1) := by decide +kernel
theorem dX3_workOut_127 : decode cX3_workOut 127 = .ok (.if_icmp .ne 8, 3) := by decide +kernel
theorem dX3_workOut_130 : decode cX3_workOut 130 = .ok (.iload 6, 2) := by decide +kernel
theorem dX3_workOut_132 : decode cX3_workOut 132 = .ok (.goto 5, 3) := by decide +kernel
theorem dX3_workOut_135 : decode cX3_workOut 135 = .ok (.iload 7, 2) := by decide +kernel
theorem dX3_workOut_137 : decode cX3_workOut 137 = .ok (.ireturn, 1) := by decide +kernel
theorem dX3_workOut_138 : decode cX3_workOut 138 = .ok (.iconst 1, 1) := by decide +kernel
theorem dX3_workOut_139 : decode cX3_workOut 139 = .ok (.iload 5, 2) := by decide +kernel
theorem dX3_workOut_141 : decode cX3_workOut 141 = .ok (.isub, 1) := by decide +kernel
theorem dX3_workOut_142 : decode cX3_workOut 142 = .ok (.ireturn, 1) := by decide +kernel
theorem dX3_workOut_143 : decode cX3_workOut 143 = .ok (.iload 5, 2) := by decide +kernel
theorem dX3_workOut_145 : decode cX3_workOut 145 = .ok (.iload 6, 2) := by decide +kernel
theorem dX3_workOut_147 : decode cX3_workOut 147 = .ok (.iand, 1) := by decide +kernel
theorem dX3_workOut_148 : decode cX3_workOut 148 = .ok (.ireturn, 1) := by decide +kernel
theorem dX3_workOut_149 : decode cX3_workOut 149 = .ok (.iload 5, 2) := by decide +kernel
theorem dX3_workOut_151 : decode cX3_workOut 151 = .ok (.iload 6, 2) := by decide +kernel
theorem dX3_workOut_153 : decode cX3_workOut 153 = .ok (.ior, 1) := by decide +kernel
theorem dX3_workOut_154 : decode cX3_workOut 154 = .ok (.ireturn, 1) := by decide +kernel
theorem dX3_workOut_155 : decode cX3_workOut 155 = .ok (.iload 4, 2) := by decide +kernel
theorem dX3_workOut_157 : decode cX3_workOut 157 = .ok (.iload 5, 2) := by decide +kernel
theorem dX3_workOut_159 : decode cX3_workOut 159 = .ok (.iload 6, 2) := by decide +kernel
theorem dX3_workOut_161 : decode cX3_workOut 161 = .ok (.invokestatic 93, 3) := by decide +kernel
theorem dX3_workOut_164 : decode cX3_workOut 164 = .ok (.ireturn, 1) := by decide +kernel
theorem dX3_count_0 : decode cX3_count 0 = .ok (.aload_n 0, 1) := by decide +kernel
theorem dX3_count_1 : decode cX3_count 1 = .ok (.getfield 33, 3) := by decide +kernel
theorem dX3_count_4 : decode cX3_count 4 = .ok (.ireturn, 1) := by decide +kernel
theorem dX3_allows_0 : decode cX3_allows 0 = .ok (.iload_n 1, 1) := by decide +kernel
theorem dX3_allows_1 : decode cX3_allows 1 = .ok (.invokestatic 46, 3) := by decide +kernel
theorem dX3_allows_4 : decode cX3_allows 4 = .ok (.ifCond .eq 44, 3) := by decide +kernel
theorem dX3_allows_7 : decode cX3_allows 7 = .ok (.aload_n 0, 1) := by decide +kernel
theorem dX3_allows_8 : decode cX3_allows 8 = .ok (.iload_n 1, 1) := by decide +kernel
theorem dX3_allows_9 : decode cX3_allows 9 = .ok (.invokestatic 49, 3) := by decide +kernel
theorem dX3_allows_12 : decode cX3_allows 12 = .ok (.iload_n 2, 1) := by decide +kernel
theorem dX3_allows_13 : decode cX3_allows 13 = .ok (.invokevirtual 53, 3) := by decide +kernel
theorem dX3_allows_16 : decode cX3_allows 16 = .ok (.ifCond .eq 32, 3) := by decide +kernel
theorem dX3_allows_19 : decode cX3_allows 19 = .ok (.aload_n 0, 1) := by decide +kernel
theorem dX3_allows_20 : decode cX3_allows 20 = .ok (.iload_n 1, 1) := by decide +kernel
theorem dX3_allows_21 : decode cX3_allows 21 = .ok (.invokestatic 57, 3) := by decide +kernel
theorem dX3_allows_24 : decode cX3_allows 24 = .ok (.iload_n 3, 1) := by decide +kernel
theorem dX3_allows_25 : decode cX3_allows 25 = .ok (.invokevirtual 53, 3) := by decide +kernel
theorem dX3_allows_28 : decode cX3_allows 28 = .ok (.ifCond .eq 20, 3) := by decide +kernel
theorem dX3_allows_31 : decode cX3_allows 31 = .ok (.aload_n 0, 1) := by decide +kernel
theorem dX3_allows_32 : decode cX3_allows 32 = .ok (.iload_n 1, 1) := by decide +kernel
theorem dX3_allows_33 : decode cX3_allows 33 = .ok (.invokestatic 60, 3) := by decide +kernel
theorem dX3_allows_36 : decode cX3_allows 36 = .ok (.iload 4, 2) := by decide +kernel
theorem dX3_allows_38 : decode cX3_allows 38 = .ok (.invokevirtual 53, 3) := by decide +kernel
theorem dX3_allows_41 : decode cX3_allows 41 = .ok (.ifCond .eq 7, 3) := by decide +kernel
theorem dX3_allows_44 : decode cX3_allows 44 = .ok (.iconst 1, 1) := by decide +kernel
theorem dX3_allows_45 : decode cX3_allows 45 = .ok (.goto 4, 3) := by decide +kernel
theorem dX3_allows_48 : decode cX3_allows 48 = .ok (.iconst 0, 1) := by decide +kernel
theorem dX3_allows_49 : decode cX3_allows 49 = .ok (.ireturn, 1) := by decide +kernel
theorem dX3_fits_0 : decode cX3_fits 0 = .ok (.iload_n 1, 1) := by decide +kernel
theorem dX3_fits_1 : decode cX3_fits 1 = .ok (.tableswitch 63 1 4 #[31, 46, 51, 57], 31) := by decide +kernel
theorem dX3_fits_32 : decode cX3_fits 32 = .ok (.iload_n 2, 1) := by decide +kernel
theorem dX3_fits_33 : decode cX3_fits 33 = .ok (.ifCond .lt 12, 3) := by decide +kernel
theorem dX3_fits_36 : decode cX3_fits 36 = .ok (.iload_n 2, 1) := by decide +kernel
theorem dX3_fits_37 : decode cX3_fits 37 = .ok (.iconst 2, 1) := by decide +kernel
theorem dX3_fits_38 : decode cX3_fits 38 = .ok (.if_icmp .ge 7, 3) := by decide +kernel
theorem dX3_fits_41 : decode cX3_fits 41 = .ok (.iconst 1, 1) := by decide +kernel
theorem dX3_fits_42 : decode cX3_fits 42 = .ok (.goto 4, 3) := by decide +kernel
theorem dX3_fits_45 : decode cX3_fits 45 = .ok (.iconst 0, 1) := by decide +kernel
theorem dX3_fits_46 : decode cX3_fits 46 = .ok (.ireturn, 1) := by decide +kernel
theorem dX3_fits_47 : decode cX3_fits 47 = .ok (.iload_n 2, 1) := by decide +kernel
theorem dX3_fits_48 : decode cX3_fits 48 = .ok (.invokestatic 63, 3) := by decide +kernel
theorem dX3_fits_51 : decode cX3_fits 51 = .ok (.ireturn, 1) := by decide +kernel
theorem dX3_fits_52 : decode cX3_fits 52 = .ok (.aload_n 0, 1) := by decide +kernel
theorem dX3_fits_53 : decode cX3_fits 53 = .ok (.iload_n 2, 1) := by decide +kernel
theorem dX3_fits_54 : decode cX3_fits 54 = .ok (.invokevirtual 68, 3) := by decide +kernel
theorem dX3_fits_57 : decode cX3_fits 57 = .ok (.ireturn, 1) := by decide +kernel
theorem dX3_fits_58 : decode cX3_fits 58 = .ok (.aload_n 0, 1) := by decide +kernel
theorem dX3_fits_59 : decode cX3_fits 59 = .ok (.iload_n 2, 1) := by decide +kernel
theorem dX3_fits_60 : decode cX3_fits 60 = .ok (.invokevirtual 71, 3) := by decide +kernel
theorem dX3_fits_63 : decode cX3_fits 63 = .ok (.ireturn, 1) := by decide +kernel
theorem dX3_fits_64 : decode cX3_fits 64 = .ok (.iconst 1, 1) := by decide +kernel
theorem dX3_fits_65 : decode cX3_fits 65 = .ok (.ireturn, 1) := by decide +kernel
theorem dX3_isNumberTerm_0 : decode cX3_isNumberTerm 0 = .ok (.aload_n 0, 1) := by decide +kernel
theorem dX3_isNumberTerm_1 : decode cX3_isNumberTerm 1 = .ok (.iload_n 1, 1) := by decide +kernel
theorem dX3_isNumberTerm_2 : decode cX3_isNumberTerm 2 = .ok (.invokevirtual 37, 3) := by decide +kernel
theorem dX3_isNumberTerm_5 : decode cX3_isNumberTerm 5 = .ok (.ifCond .eq 19, 3) := by decide +kernel
theorem dX3_isNumberTerm_8 : decode cX3_isNumberTerm 8 = .ok (.aload_n 0, 1) := by decide +kernel
theorem dX3_isNumberTerm_9 : decode cX3_isNumberTerm 9 = .ok (.getfield 9, 3) := by decide +kernel
theorem dX3_isNumberTerm_12 : decode cX3_isNumberTerm 12 = .ok (.iload_n 1, 1) := by decide +kernel
theorem dX3_isNumberTerm_13 : decode cX3_isNumberTerm 13 = .ok (.iaload, 1) := by decide +kernel
theorem dX3_isNumberTerm_14 : decode cX3_isNumberTerm 14 = .ok (.invokestatic 41, 3) := by decide +kernel
theorem dX3_isNumberTerm_17 : decode cX3_isNumberTerm 17 = .ok (.ifCond .ne 7, 3) := by decide +kernel
theorem dX3_isNumberTerm_20 : decode cX3_isNumberTerm 20 = .ok (.iconst 1, 1) := by decide +kernel
theorem dX3_isNumberTerm_21 : decode cX3_isNumberTerm 21 = .ok (.goto 4, 3) := by decide +kernel
theorem dX3_isNumberTerm_24 : decode cX3_isNumberTerm 24 = .ok (.iconst 0, 1) := by decide +kernel
theorem dX3_isNumberTerm_25 : decode cX3_isNumberTerm 25 = .ok (.ireturn, 1) := by decide +kernel
theorem dX3_has_0 : decode cX3_has 0 = .ok (.iload_n 1, 1) := by decide +kernel
theorem dX3_has_1 : decode cX3_has 1 = .ok (.ifCond .lt 15, 3) := by decide +kernel
theorem dX3_has_4 : decode cX3_has 4 = .ok (.iload_n 1, 1) := by decide +kernel
theorem dX3_has_5 : decode cX3_has 5 = .ok (.aload_n 0, 1) := by decide +kernel
theorem dX3_has_6 : decode cX3_has 6 = .ok (.getfield 33, 3) := by decide +kernel
theorem dX3_has_9 : decode cX3_has 9 = .ok (.if_icmp .ge 7, 3) := by decide +kernel
theorem dX3_has_12 : decode cX3_has 12 = .ok (.iconst 1, 1) := by decide +kernel
theorem dX3_has_13 : decode cX3_has 13 = .ok (.goto 4, 3) := by decide +kernel
theorem dX3_has_16 : decode cX3_has 16 = .ok (.iconst 0, 1) := by decide +kernel
theorem dX3_has_17 : decode cX3_has 17 = .ok (.ireturn, 1) := by decide +kernel
theorem dX3_isTruth_0 : decode cX3_isTruth 0 = .ok (.aload_n 0, 1) := by decide +kernel
theorem dX3_isTruth_1 : decode cX3_isTruth 1 = .ok (.iload_n 1, 1) := by decide +kernel
theorem dX3_isTruth_2 : decode cX3_isTruth 2 = .ok (.invokevirtual 37, 3) := by decide +kernel
theorem dX3_isTruth_5 : decode cX3_isTruth 5 = .ok (.ifCond .eq 19, 3) := by decide +kernel
theorem dX3_isTruth_8 : decode cX3_isTruth 8 = .ok (.aload_n 0, 1) := by decide +kernel
theorem dX3_isTruth_9 : decode cX3_isTruth 9 = .ok (.getfield 9, 3) := by decide +kernel
theorem dX3_isTruth_12 : decode cX3_isTruth 12 = .ok (.iload_n 1, 1) := by decide +kernel
theorem dX3_isTruth_13 : decode cX3_isTruth 13 = .ok (.iaload, 1) := by decide +kernel
theorem dX3_isTruth_14 : decode cX3_isTruth 14 = .ok (.invokestatic 41, 3) := by decide +kernel
theorem dX3_isTruth_17 : decode cX3_isTruth 17 = .ok (.ifCond .eq 7, 3) := by decide +kernel
theorem dX3_isTruth_20 : decode cX3_isTruth 20 = .ok (.iconst 1, 1) := by decide +kernel
theorem dX3_isTruth_21 : decode cX3_isTruth 21 = .ok (.goto 4, 3) := by decide +kernel
theorem dX3_isTruth_24 : decode cX3_isTruth 24 = .ok (.iconst 0, 1) := by decide +kernel
theorem dX3_isTruth_25 : decode cX3_isTruth 25 = .ok (.ireturn, 1) := by decide +kernel
theorem dX3_find_0 : decode cX3_find 0 = .ok (.iconst 0, 1) := by decide +kernel
theorem dX3_find_1 : decode cX3_find 1 = .ok (.istore 5, 2) := by decide +kernel
theorem dX3_find_3 : decode cX3_find 3 = .ok (.iload 5, 2) := by decide +kernel
theorem dX3_find_5 : decode cX3_find 5 = .ok (.aload_n 0, 1) := by decide +kernel
theorem dX3_find_6 : decode cX3_find 6 = .ok (.getfield 33, 3) := by decide +kernel
theorem dX3_find_9 : decode cX3_find 9 = .ok (.if_icmp .ge 57, 3) := by decide +kernel
theorem dX3_find_12 : decode cX3_find 12 = .ok (.aload_n 0, 1) := by decide +kernel
theorem dX3_find_13 : decode cX3_find 13 = .ok (.getfield 9, 3) := by decide +kernel
theorem dX3_find_16 : decode cX3_find 16 = .ok (.iload 5, 2) := by decide +kernel
theorem dX3_find_18 : decode cX3_find 18 = .ok (.iaload, 1) := by decide +kernel
theorem dX3_find_19 : decode cX3_find 19 = .ok (.iload_n 1, 1) := by decide +kernel
theorem dX3_find_20 : decode cX3_find 20 = .ok (.if_icmp .ne 40, 3) := by decide +kernel
theorem dX3_find_23 : decode cX3_find 23 = .ok (.aload_n 0, 1) := by decide +kernel
theorem dX3_find_24 : decode cX3_find 24 = .ok (.getfield 15, 3) := by decide +kernel
theorem dX3_find_27 : decode cX3_find 27 = .ok (.iload 5, 2) := by decide +kernel
theorem dX3_find_29 : decode cX3_find 29 = .ok (.iaload, 1) := by decide +kernel
theorem dX3_find_30 : decode cX3_find 30 = .ok (.iload_n 2, 1) := by decide +kernel
theorem dX3_find_31 : decode cX3_find 31 = .ok (.if_icmp .ne 29, 3) := by decide +kernel
theorem dX3_find_34 : decode cX3_find 34 = .ok (.aload_n 0, 1) := by decide +kernel
theorem dX3_find_35 : decode cX3_find 35 = .ok (.getfield 18, 3) := by decide +kernel
theorem dX3_find_38 : decode cX3_find 38 = .ok (.iload 5, 2) := by decide +kernel
theorem dX3_find_40 : decode cX3_find 40 = .ok (.iaload, 1) := by decide +kernel
theorem dX3_find_41 : decode cX3_find 41 = .ok (.iload_n 3, 1) := by decide +kernel
theorem dX3_find_42 : decode cX3_find 42 = .ok (.if_icmp .ne 18, 3) := by decide +kernel
theorem dX3_find_45 : decode cX3_find 45 = .ok (.aload_n 0, 1) := by decide +kernel
theorem dX3_find_46 : decode cX3_find 46 = .ok (.getfield 21, 3) := by decide +kernel
theorem dX3_find_49 : decode cX3_find 49 = .ok (.iload 5, 2) := by decide +kernel
theorem dX3_find_51 : decode cX3_find 51 = .ok (.iaload, 1) := by decide +kernel
theorem dX3_find_52 : decode cX3_find 52 = .ok (.iload 4, 2) := by decide +kernel
theorem dX3_find_54 : decode cX3_find 54 = .ok (.if_icmp .ne 6, 3) := by decide +kernel
theorem dX3_find_57 : decode cX3_find 57 = .ok (.iload 5, 2) := by decide +kernel
theorem dX3_find_59 : decode cX3_find 59 = .ok (.ireturn, 1) := by decide +kernel
theorem dX3_find_60 : decode cX3_find 60 = .ok (.iinc 5 1, 3) := by decide +kernel
theorem dX3_find_63 : decode cX3_find 63 = .ok (.goto (-60), 3) := by decide +kernel
theorem dX3_find_66 : decode cX3_find 66 = .ok (.iconst (-1), 1) := by decide +kernel
theorem dX3_find_67 : decode cX3_find 67 = .ok (.ireturn, 1) := by decide +kernel
theorem dX3_isFull_0 : decode cX3_isFull 0 = .ok (.aload_n 0, 1) := by decide +kernel
theorem dX3_isFull_1 : decode cX3_isFull 1 = .ok (.getfield 33, 3) := by decide +kernel
theorem dX3_isFull_4 : decode cX3_isFull 4 = .ok (.bipush 12, 2) := by decide +kernel
theorem dX3_isFull_6 : decode cX3_isFull 6 = .ok (.if_icmp .lt 7, 3) := by decide +kernel
theorem dX3_isFull_9 : decode cX3_isFull 9 = .ok (.iconst 1, 1) := by decide +kernel
theorem dX3_isFull_10 : decode cX3_isFull 10 = .ok (.goto 4, 3) := by decide +kernel
theorem dX3_isFull_13 : decode cX3_isFull 13 = .ok (.iconst 0, 1) := by decide +kernel
theorem dX3_isFull_14 : decode cX3_isFull 14 = .ok (.ireturn, 1) := by decide +kernel
theorem dX3_append_0 : decode cX3_append 0 = .ok (.aload_n 0, 1) := by decide +kernel
theorem dX3_append_1 : decode cX3_append 1 = .ok (.getfield 33, 3) := by decide +kernel
theorem dX3_append_4 : decode cX3_append 4 = .ok (.istore 5, 2) := by decide +kernel
theorem dX3_append_6 : decode cX3_append 6 = .ok (.aload_n 0, 1) := by decide +kernel
theorem dX3_append_7 : decode cX3_append 7 = .ok (.getfield 9, 3) := by decide +kernel
theorem dX3_append_10 : decode cX3_append 10 = .ok (.iload 5, 2) := by decide +kernel
theorem dX3_append_12 : decode cX3_append 12 = .ok (.iload_n 1, 1) := by decide +kernel
theorem dX3_append_13 : decode cX3_append 13 = .ok (.iastore, 1) := by decide +kernel
theorem dX3_append_14 : decode cX3_append 14 = .ok (.aload_n 0, 1) := by decide +kernel
theorem dX3_append_15 : decode cX3_append 15 = .ok (.getfield 15, 3) := by decide +kernel
theorem dX3_append_18 : decode cX3_append 18 = .ok (.iload 5, 2) := by decide +kernel
theorem dX3_append_20 : decode cX3_append 20 = .ok (.iload_n 2, 1) := by decide +kernel
theorem dX3_append_21 : decode cX3_append 21 = .ok (.iastore, 1) := by decide +kernel
theorem dX3_append_22 : decode cX3_append 22 = .ok (.aload_n 0, 1) := by decide +kernel
theorem dX3_append_23 : decode cX3_append 23 = .ok (.getfield 18, 3) := by decide +kernel
theorem dX3_append_26 : decode cX3_append 26 = .ok (.iload 5, 2) := by decide +kernel
theorem dX3_append_28 : decode cX3_append 28 = .ok (.iload_n 3, 1) := by decide +kernel
theorem dX3_append_29 : decode cX3_append 29 = .ok (.iastore, 1) := by decide +kernel
theorem dX3_append_30 : decode cX3_append 30 = .ok (.aload_n 0, 1) := by decide +kernel
theorem dX3_append_31 : decode cX3_append 31 = .ok (.getfield 21, 3) := by decide +kernel
theorem dX3_append_34 : decode cX3_append 34 = .ok (.iload 5, 2) := by decide +kernel
theorem dX3_append_36 : decode cX3_append 36 = .ok (.iload 4, 2) := by decide +kernel
theorem dX3_append_38 : decode cX3_append 38 = .ok (.iastore, 1) := by decide +kernel
theorem dX3_append_39 : decode cX3_append 39 = .ok (.aload_n 0, 1) := by decide +kernel
theorem dX3_append_40 : decode cX3_append 40 = .ok (.getfield 24, 3) := by decide +kernel
theorem dX3_append_43 : decode cX3_append 43 = .ok (.iload 5, 2) := by decide +kernel
theorem dX3_append_45 : decode cX3_append 45 = .ok (.iconst 1, 1) := by decide +kernel
theorem dX3_append_46 : decode cX3_append 46 = .ok (.iload 5, 2) := by decide +kernel
theorem dX3_append_48 : decode cX3_append 48 = .ok (.ishl, 1) := by decide +kernel
theorem dX3_append_49 : decode cX3_append 49 = .ok (.aload_n 0, 1) := by decide +kernel
theorem dX3_append_50 : decode cX3_append 50 = .ok (.iload_n 1, 1) := by decide +kernel
theorem dX3_append_51 : decode cX3_append 51 = .ok (.invokestatic 49, 3) := by decide +kernel
theorem dX3_append_54 : decode cX3_append 54 = .ok (.iload_n 2, 1) := by decide +kernel
theorem dX3_append_55 : decode cX3_append 55 = .ok (.invokevirtual 74, 3) := by decide +kernel
theorem dX3_append_58 : decode cX3_append 58 = .ok (.ior, 1) := by decide +kernel
theorem dX3_append_59 : decode cX3_append 59 = .ok (.aload_n 0, 1) := by decide +kernel
theorem dX3_append_60 : decode cX3_append 60 = .ok (.iload_n 1, 1) := by decide +kernel
theorem dX3_append_61 : decode cX3_append 61 = .ok (.invokestatic 57, 3) := by decide +kernel
theorem dX3_append_64 : decode cX3_append 64 = .ok (.iload_n 3, 1) := by decide +kernel
theorem dX3_append_65 : decode cX3_append 65 = .ok (.invokevirtual 74, 3) := by decide +kernel
theorem dX3_append_68 : decode cX3_append 68 = .ok (.ior, 1) := by decide +kernel
theorem dX3_append_69 : decode cX3_append 69 = .ok (.aload_n 0, 1) := by decide +kernel
theorem dX3_append_70 : decode cX3_append 70 = .ok (.iload_n 1, 1) := by decide +kernel
theorem dX3_append_71 : decode cX3_append 71 = .ok (.invokestatic 60, 3) := by decide +kernel
theorem dX3_append_74 : decode cX3_append 74 = .ok (.iload 4, 2) := by decide +kernel
theorem dX3_append_76 : decode cX3_append 76 = .ok (.invokevirtual 74, 3) := by decide +kernel
theorem dX3_append_79 : decode cX3_append 79 = .ok (.ior, 1) := by decide +kernel
theorem dX3_append_80 : decode cX3_append 80 = .ok (.iastore, 1) := by decide +kernel
theorem dX3_append_81 : decode cX3_append 81 = .ok (.aload_n 0, 1) := by decide +kernel
theorem dX3_append_82 : decode cX3_append 82 = .ok (.iload 5, 2) := by decide +kernel
theorem dX3_append_84 : decode cX3_append 84 = .ok (.invokevirtual 78, 3) := by decide +kernel
theorem dX3_append_87 : decode cX3_append 87 = .ok (.aload_n 0, 1) := by decide +kernel
theorem dX3_append_88 : decode cX3_append 88 = .ok (.dup, 1) := by decide +kernel
theorem dX3_append_89 : decode cX3_append 89 = .ok (.getfield 33, 3) := by decide +kernel
theorem dX3_append_92 : decode cX3_append 92 = .ok (.iconst 1, 1) := by decide +kernel
theorem dX3_append_93 : decode cX3_append 93 = .ok (.iadd, 1) := by decide +kernel
theorem dX3_append_94 : decode cX3_append 94 = .ok (.putfield 33, 3) := by decide +kernel
theorem dX3_append_97 : decode cX3_append 97 = .ok (.iload 5, 2) := by decide +kernel
theorem dX3_append_99 : decode cX3_append 99 = .ok (.ireturn, 1) := by decide +kernel
theorem dX3_partsBelow_0 : decode cX3_partsBelow 0 = .ok (.iload_n 1, 1) := by decide +kernel
theorem dX3_partsBelow_1 : decode cX3_partsBelow 1 = .ok (.invokestatic 82, 3) := by decide +kernel
theorem dX3_partsBelow_4 : decode cX3_partsBelow 4 = .ok (.ifCond .eq 12, 3) := by decide +kernel
theorem dX3_partsBelow_7 : decode cX3_partsBelow 7 = .ok (.aload_n 0, 1) := by decide +kernel
theorem dX3_partsBelow_8 : decode cX3_partsBelow 8 = .ok (.getfield 24, 3) := by decide +kernel
theorem dX3_partsBelow_11 : decode cX3_partsBelow 11 = .ok (.iload_n 2, 1) := by decide +kernel
theorem dX3_partsBelow_12 : decode cX3_partsBelow 12 = .ok (.iaload, 1) := by decide +kernel
theorem dX3_partsBelow_13 : decode cX3_partsBelow 13 = .ok (.goto 4, 3) := by decide +kernel
theorem dX3_partsBelow_16 : decode cX3_partsBelow 16 = .ok (.iconst 0, 1) := by decide +kernel
theorem dX3_partsBelow_17 : decode cX3_partsBelow 17 = .ok (.ireturn, 1) := by decide +kernel
theorem dX3_noteVariables_0 : decode cX3_noteVariables 0 = .ok (.iconst 0, 1) := by decide +kernel
theorem dX3_noteVariables_1 : decode cX3_noteVariables 1 = .ok (.istore_n 2, 1) := by decide +kernel
theorem dX3_noteVariables_2 : decode cX3_noteVariables 2 = .ok (.iload_n 2, 1) := by decide +kernel
theorem dX3_noteVariables_3 : decode cX3_noteVariables 3 = .ok (.iconst 2, 1) := by decide +kernel
theorem dX3_noteVariables_4 : decode cX3_noteVariables 4 = .ok (.if_icmp .ge 66, 3) := by decide +kernel
theorem dX3_noteVariables_7 : decode cX3_noteVariables 7 = .ok (.aload_n 0, 1) := by decide +kernel
theorem dX3_noteVariables_8 : decode cX3_noteVariables 8 = .ok (.getfield 9, 3) := by decide +kernel
theorem dX3_noteVariables_11 : decode cX3_noteVariables 11 = .ok (.iload_n 1, 1) := by decide +kernel
theorem dX3_noteVariables_12 : decode cX3_noteVariables 12 = .ok (.iaload, 1) := by decide +kernel
theorem dX3_noteVariables_13 : decode cX3_noteVariables 13 = .ok (.ifCond .ne 17, 3) := by decide +kernel
theorem dX3_noteVariables_16 : decode cX3_noteVariables 16 = .ok (.aload_n 0, 1) := by decide +kernel
theorem dX3_noteVariables_17 : decode cX3_noteVariables 17 = .ok (.getfield 15, 3) := by decide +kernel
theorem dX3_noteVariables_20 : decode cX3_noteVariables 20 = .ok (.iload_n 1, 1) := by decide +kernel
theorem dX3_noteVariables_21 : decode cX3_noteVariables 21 = .ok (.iaload, 1) := by decide +kernel
theorem dX3_noteVariables_22 : decode cX3_noteVariables 22 = .ok (.iload_n 2, 1) := by decide +kernel
theorem dX3_noteVariables_23 : decode cX3_noteVariables 23 = .ok (.if_icmp .ne 7, 3) := by decide +kernel
theorem dX3_noteVariables_26 : decode cX3_noteVariables 26 = .ok (.iconst 1, 1) := by decide +kernel
theorem dX3_noteVariables_27 : decode cX3_noteVariables 27 = .ok (.goto 4, 3) := by decide +kernel
theorem dX3_noteVariables_30 : decode cX3_noteVariables 30 = .ok (.iconst 0, 1) := by decide +kernel
theorem dX3_noteVariables_31 : decode cX3_noteVariables 31 = .ok (.istore_n 3, 1) := by decide +kernel
theorem dX3_noteVariables_32 : decode cX3_noteVariables 32 = .ok (.iload_n 3, 1) := by decide +kernel
theorem dX3_noteVariables_33 : decode cX3_noteVariables 33 = .ok (.ifCond .ne 19, 3) := by decide +kernel
theorem dX3_noteVariables_36 : decode cX3_noteVariables 36 = .ok (.aload_n 0, 1) := by decide +kernel
theorem dX3_noteVariables_37 : decode cX3_noteVariables 37 = .ok (.getfield 24, 3) := by decide +kernel
theorem dX3_noteVariables_40 : decode cX3_noteVariables 40 = .ok (.iload_n 1, 1) := by decide +kernel
theorem dX3_noteVariables_41 : decode cX3_noteVariables 41 = .ok (.iaload, 1) := by decide +kernel
theorem dX3_noteVariables_42 : decode cX3_noteVariables 42 = .ok (.aload_n 0, 1) := by decide +kernel
theorem dX3_noteVariables_43 : decode cX3_noteVariables 43 = .ok (.getfield 27, 3) := by decide +kernel
theorem dX3_noteVariables_46 : decode cX3_noteVariables 46 = .ok (.iload_n 2, 1) := by decide +kernel
theorem dX3_noteVariables_47 : decode cX3_noteVariables 47 = .ok (.iaload, 1) := by decide +kernel
theorem dX3_noteVariables_48 : decode cX3_noteVariables 48 = .ok (.iand, 1) := by decide +kernel
theorem dX3_noteVariables_49 : decode cX3_noteVariables 49 = .ok (.ifCond .eq 15, 3) := by decide +kernel
theorem dX3_noteVariables_52 : decode cX3_noteVariables 52 = .ok (.aload_n 0, 1) := by decide +kernel
theorem dX3_noteVariables_53 : decode cX3_noteVariables 53 = .ok (.getfield 27, 3) := by decide +kernel
theorem dX3_noteVariables_56 : decode cX3_noteVariables 56 = .ok (.iload_n 2, 1) := by decide +kernel
theorem dX3_noteVariables_57 : decode cX3_noteVariables 57 = .ok (.dup2, 1) := by decide +kernel
theorem dX3_noteVariables_58 : decode cX3_noteVariables 58 = .ok (.iaload, 1) := by decide +kernel
theorem dX3_noteVariables_59 : decode cX3_noteVariables 59 = .ok (.iconst 1, 1) := by decide +kernel
theorem dX3_noteVariables_60 : decode cX3_noteVariables 60 = .ok (.iload_n 1, 1) := by decide +kernel
theorem dX3_noteVariables_61 : decode cX3_noteVariables 61 = .ok (.ishl, 1) := by decide +kernel
theorem dX3_noteVariables_62 : decode cX3_noteVariables 62 = .ok (.ior, 1) := by decide +kernel
theorem dX3_noteVariables_63 : decode cX3_noteVariables 63 = .ok (.iastore, 1) := by decide +kernel
theorem dX3_noteVariables_64 : decode cX3_noteVariables 64 = .ok (.iinc 2 1, 3) := by decide +kernel
theorem dX3_noteVariables_67 : decode cX3_noteVariables 67 = .ok (.goto (-65), 3) := by decide +kernel
theorem dX3_noteVariables_70 : decode cX3_noteVariables 70 = .ok (.return_, 1) := by decide +kernel
theorem dX3_answer_0 : decode cX3_answer 0 = .ok (.aload_n 0, 1) := by decide +kernel
theorem dX3_answer_1 : decode cX3_answer 1 = .ok (.aload_n 0, 1) := by decide +kernel
theorem dX3_answer_2 : decode cX3_answer 2 = .ok (.getfield 24, 3) := by decide +kernel
theorem dX3_answer_5 : decode cX3_answer 5 = .ok (.iload_n 1, 1) := by decide +kernel
theorem dX3_answer_6 : decode cX3_answer 6 = .ok (.iaload, 1) := by decide +kernel
theorem dX3_answer_7 : decode cX3_answer 7 = .ok (.iconst 0, 1) := by decide +kernel
theorem dX3_answer_8 : decode cX3_answer 8 = .ok (.iload_n 2, 1) := by decide +kernel
theorem dX3_answer_9 : decode cX3_answer 9 = .ok (.iload_n 3, 1) := by decide +kernel
theorem dX3_answer_10 : decode cX3_answer 10 = .ok (.invokevirtual 89, 3) := by decide +kernel
theorem dX3_answer_13 : decode cX3_answer 13 = .ok (.pop, 1) := by decide +kernel
theorem dX3_answer_14 : decode cX3_answer 14 = .ok (.aload_n 0, 1) := by decide +kernel
theorem dX3_answer_15 : decode cX3_answer 15 = .ok (.getfield 30, 3) := by decide +kernel
theorem dX3_answer_18 : decode cX3_answer 18 = .ok (.iload_n 1, 1) := by decide +kernel
theorem dX3_answer_19 : decode cX3_answer 19 = .ok (.iaload, 1) := by decide +kernel
theorem dX3_answer_20 : decode cX3_answer 20 = .ok (.ireturn, 1) := by decide +kernel
theorem dX4_init_0 : decode cX4_init 0 = .ok (.aload_n 0, 1) := by decide +kernel
theorem dX4_init_1 : decode cX4_init 1 = .ok (.invokespecial 1, 3) := by decide +kernel
theorem dX4_init_4 : decode cX4_init 4 = .ok (.aload_n 0, 1) := by decide +kernel
theorem dX4_init_5 : decode cX4_init 5 = .ok (.new 7, 3) := by decide +kernel
theorem dX4_init_8 : decode cX4_init 8 = .ok (.dup, 1) := by decide +kernel
theorem dX4_init_9 : decode cX4_init 9 = .ok (.invokespecial 9, 3) := by decide +kernel
theorem dX4_init_12 : decode cX4_init 12 = .ok (.putfield 10, 3) := by decide +kernel
theorem dX4_init_15 : decode cX4_init 15 = .ok (.aload_n 0, 1) := by decide +kernel
theorem dX4_init_16 : decode cX4_init 16 = .ok (.new 16, 3) := by decide +kernel
theorem dX4_init_19 : decode cX4_init 19 = .ok (.dup, 1) := by decide +kernel
theorem dX4_init_20 : decode cX4_init 20 = .ok (.invokespecial 18, 3) := by decide +kernel
theorem dX4_init_23 : decode cX4_init 23 = .ok (.putfield 19, 3) := by decide +kernel
theorem dX4_init_26 : decode cX4_init 26 = .ok (.aload_n 0, 1) := by decide +kernel
theorem dX4_init_27 : decode cX4_init 27 = .ok (.iconst 2, 1) := by decide +kernel
theorem dX4_init_28 : decode cX4_init 28 = .ok (.newarray .int, 2) := by decide +kernel
theorem dX4_init_30 : decode cX4_init 30 = .ok (.putfield 23, 3) := by decide +kernel
theorem dX4_init_33 : decode cX4_init 33 = .ok (.aload_n 0, 1) := by decide +kernel
theorem dX4_init_34 : decode cX4_init 34 = .ok (.iconst 0, 1) := by decide +kernel
theorem dX4_init_35 : decode cX4_init 35 = .ok (.putfield 27, 3) := by decide +kernel
theorem dX4_init_38 : decode cX4_init 38 = .ok (.aload_n 0, 1) := by decide +kernel
theorem dX4_init_39 : decode cX4_init 39 = .ok (.iconst 0, 1) := by decide +kernel
theorem dX4_init_40 : decode cX4_init 40 = .ok (.putfield 31, 3) := by decide +kernel
theorem dX4_init_43 : decode cX4_init 43 = .ok (.return_, 1) := by decide +kernel
theorem dX4_check_0 : decode cX4_check 0 = .ok (.aload_n 0, 1) := by decide +kernel
theorem dX4_check_1 : decode cX4_check 1 = .ok (.dup, 1) := by decide +kernel
theorem dX4_check_2 : decode cX4_check 2 = .ok (.getfield 31, 3) := by decide +kernel
theorem dX4_check_5 : decode cX4_check 5 = .ok (.iconst 1, 1) := by decide +kernel
theorem dX4_check_6 : decode cX4_check 6 = .ok (.iadd, 1) := by decide +kernel
theorem dX4_check_7 : decode cX4_check 7 = .ok (.putfield 31, 3) := by decide +kernel
theorem dX4_check_10 : decode cX4_check 10 = .ok (.aload_n 0, 1) := by decide +kernel
theorem dX4_check_11 : decode cX4_check 11 = .ok (.aload_n 0, 1) := by decide +kernel
theorem dX4_check_12 : decode cX4_check 12 = .ok (.invokevirtual 97, 3) := by decide +kernel
theorem dX4_check_15 : decode cX4_check 15 = .ok (.putfield 27, 3) := by decide +kernel
theorem dX4_check_18 : decode cX4_check 18 = .ok (.aload_n 0, 1) := by decide +kernel
theorem dX4_check_19 : decode cX4_check 19 = .ok (.getfield 27, 3) := by decide +kernel
theorem dX4_check_22 : decode cX4_check 22 = .ok (.ireturn, 1) := by decide +kernel
theorem dX4_search_0 : decode cX4_search 0 = .ok (.aload_n 0, 1) := by decide +kernel
theorem dX4_search_1 : decode cX4_search 1 = .ok (.getfield 19, 3) := by decide +kernel
theorem dX4_search_4 : decode cX4_search 4 = .ok (.invokevirtual 133, 3) := by decide +kernel
theorem dX4_search_7 : decode cX4_search 7 = .ok (.istore_n 1, 1) := by decide +kernel
theorem dX4_search_8 : decode cX4_search 8 = .ok (.aload_n 0, 1) := by decide +kernel
theorem dX4_search_9 : decode cX4_search 9 = .ok (.getfield 10, 3) := by decide +kernel
theorem dX4_search_12 : decode cX4_search 12 = .ok (.iload_n 1, 1) := by decide +kernel
theorem dX4_search_13 : decode cX4_search 13 = .ok (.invokevirtual 136, 3) := by decide +kernel
theorem dX4_search_16 : decode cX4_search 16 = .ok (.istore_n 2, 1) := by decide +kernel
theorem dX4_search_17 : decode cX4_search 17 = .ok (.iload_n 2, 1) := by decide +kernel
theorem dX4_search_18 : decode cX4_search 18 = .ok (.aload_n 0, 1) := by decide +kernel
theorem dX4_search_19 : decode cX4_search 19 = .ok (.getfield 10, 3) := by decide +kernel
theorem dX4_search_22 : decode cX4_search 22 = .ok (.iconst 1, 1) := by decide +kernel
theorem dX4_search_23 : decode cX4_search 23 = .ok (.invokevirtual 139, 3) := by decide +kernel
theorem dX4_search_26 : decode cX4_search 26 = .ok (.iand, 1) := by decide +kernel
theorem dX4_search_27 : decode cX4_search 27 = .ok (.istore_n 3, 1) := by decide +kernel
theorem dX4_search_28 : decode cX4_search 28 = .ok (.iload_n 2, 1) := by decide +kernel
theorem dX4_search_29 : decode cX4_search 29 = .ok (.iload_n 3, 1) := by decide +kernel
theorem dX4_search_30 : decode cX4_search 30 = .ok (.iconst (-1), 1) := by decide +kernel
theorem dX4_search_31 : decode cX4_search 31 = .ok (.ixor, 1) := by decide +kernel
theorem dX4_search_32 : decode cX4_search 32 = .ok (.iand, 1) := by decide +kernel
theorem dX4_search_33 : decode cX4_search 33 = .ok (.istore 4, 2) := by decide +kernel
theorem dX4_search_35 : decode cX4_search 35 = .ok (.iload_n 2, 1) := by decide +kernel
theorem dX4_search_36 : decode cX4_search 36 = .ok (.aload_n 0, 1) := by decide +kernel
theorem dX4_search_37 : decode cX4_search 37 = .ok (.getfield 10, 3) := by decide +kernel
theorem dX4_search_40 : decode cX4_search 40 = .ok (.iconst 0, 1) := by decide +kernel
theorem dX4_search_41 : decode cX4_search 41 = .ok (.invokevirtual 139, 3) := by decide +kernel
theorem dX4_search_44 : decode cX4_search 44 = .ok (.iand, 1) := by decide +kernel
theorem dX4_search_45 : decode cX4_search 45 = .ok (.ifCond .ne 7, 3) := by decide +kernel
theorem dX4_search_48 : decode cX4_search 48 = .ok (.iconst 0, 1) := by decide +kernel
theorem dX4_search_49 : decode cX4_search 49 = .ok (.goto 5, 3) := by decide +kernel
theorem dX4_search_52 : decode cX4_search 52 = .ok (.bipush 31, 2) := by decide +kernel
theorem dX4_search_54 : decode cX4_search 54 = .ok (.istore 5, 2) := by decide +kernel
theorem dX4_search_56 : decode cX4_search 56 = .ok (.iconst 0, 1) := by decide +kernel
theorem dX4_search_57 : decode cX4_search 57 = .ok (.istore 6, 2) := by decide +kernel
theorem dX4_search_59 : decode cX4_search 59 = .ok (.iload 6, 2) := by decide +kernel
theorem dX4_search_61 : decode cX4_search 61 = .ok (.iload 5, 2) := by decide +kernel
theorem dX4_search_63 : decode cX4_search 63 = .ok (.if_icmp .gt 79, 3) := by decide +kernel
theorem dX4_search_66 : decode cX4_search 66 = .ok (.aload_n 0, 1) := by decide +kernel
theorem dX4_search_67 : decode cX4_search 67 = .ok (.getfield 10, 3) := by decide +kernel
theorem dX4_search_70 : decode cX4_search 70 = .ok (.iload 4, 2) := by decide +kernel
theorem dX4_search_72 : decode cX4_search 72 = .ok (.iload_n 1, 1) := by decide +kernel
theorem dX4_search_73 : decode cX4_search 73 = .ok (.iload 6, 2) := by decide +kernel
theorem dX4_search_75 : decode cX4_search 75 = .ok (.iconst 0, 1) := by decide +kernel
theorem dX4_search_76 : decode cX4_search 76 = .ok (.invokevirtual 142, 3) := by decide +kernel
theorem dX4_search_79 : decode cX4_search 79 = .ok (.istore 7, 2) := by decide +kernel
theorem dX4_search_81 : decode cX4_search 81 = .ok (.iconst 0, 1) := by decide +kernel
theorem dX4_search_82 : decode cX4_search 82 = .ok (.istore 8, 2) := by decide +kernel
theorem dX4_search_84 : decode cX4_search 84 = .ok (.iload 7, 2) := by decide +kernel
theorem dX4_search_86 : decode cX4_search 86 = .ok (.ifCond .eq 50, 3) := by decide +kernel
theorem dX4_search_89 : decode cX4_search 89 = .ok (.iload 8, 2) := by decide +kernel
theorem dX4_search_91 : decode cX4_search 91 = .ok (.bipush 31, 2) := by decide +kernel
theorem dX4_search_93 : decode cX4_search 93 = .ok (.if_icmp .gt 43, 3) := by decide +kernel
theorem dX4_search_96 : decode cX4_search 96 = .ok (.aload_n 0, 1) := by decide +kernel
theorem dX4_search_97 : decode cX4_search 97 = .ok (.getfield 10, 3) := by decide +kernel
theorem dX4_search_100 : decode cX4_search 100 = .ok (.iload_n 3, 1) := by decide +kernel
theorem dX4_search_101 : decode cX4_search 101 = .ok (.iload_n 1, 1) := by decide +kernel
theorem dX4_search_102 : decode cX4_search 102 = .ok (.iload 6, 2) := by decide +kernel
theorem dX4_search_104 : decode cX4_search 104 = .ok (.iload 8, 2) := by decide +kernel
theorem dX4_search_106 : decode cX4_search 106 = .ok (.invokevirtual 142, 3) := by decide +kernel
theorem dX4_search_109 : decode cX4_search 109 = .ok (.ifCond .eq 21, 3) := by decide +kernel
theorem dX4_search_112 : decode cX4_search 112 = .ok (.aload_n 0, 1) := by decide +kernel
theorem dX4_search_113 : decode cX4_search 113 = .ok (.getfield 23, 3) := by decide +kernel
theorem dX4_search_116 : decode cX4_search 116 = .ok (.iconst 0, 1) := by decide +kernel
theorem dX4_search_117 : decode cX4_search 117 = .ok (.iload 6, 2) := by decide +kernel
theorem dX4_search_119 : decode cX4_search 119 = .ok (.iastore, 1) := by decide +kernel
theorem dX4_search_120 : decode cX4_search 120 = .ok (.aload_n 0, 1) := by decide +kernel
theorem dX4_search_121 : decode cX4_search 121 = .ok (.getfield 23, 3) := by decide +kernel
theorem dX4_search_124 : decode cX4_search 124 = .ok (.iconst 1, 1) := by decide +kernel
theorem dX4_search_125 : decode cX4_search 125 = .ok (.iload 8, 2) := by decide +kernel
theorem dX4_search_127 : decode cX4_search 127 = .ok (.iastore, 1) := by decide +kernel
theorem dX4_search_128 : decode cX4_search 128 = .ok (.iconst 1, 1) := by decide +kernel
theorem dX4_search_129 : decode cX4_search 129 = .ok (.ireturn, 1) := by decide +kernel
theorem dX4_search_130 : decode cX4_search 130 = .ok (.iinc 8 1, 3) := by decide +kernel
theorem dX4_search_133 : decode cX4_search 133 = .ok (.goto (-49), 3) := by decide +kernel
theorem dX4_search_136 : decode cX4_search 136 = .ok (.iinc 6 1, 3) := by decide +kernel
theorem dX4_search_139 : decode cX4_search 139 = .ok (.goto (-80), 3) := by decide +kernel
theorem dX4_search_142 : decode cX4_search 142 = .ok (.iconst 0, 1) := by decide +kernel
theorem dX4_search_143 : decode cX4_search 143 = .ok (.ireturn, 1) := by decide +kernel
theorem dX4_terms_0 : decode cX4_terms 0 = .ok (.aload_n 0, 1) := by decide +kernel
theorem dX4_terms_1 : decode cX4_terms 1 = .ok (.getfield 10, 3) := by decide +kernel
theorem dX4_terms_4 : decode cX4_terms 4 = .ok (.invokevirtual 129, 3) := by decide +kernel
theorem dX4_terms_7 : decode cX4_terms 7 = .ok (.ireturn, 1) := by decide +kernel
theorem dX4_claims_0 : decode cX4_claims 0 = .ok (.aload_n 0, 1) := by decide +kernel
theorem dX4_claims_1 : decode cX4_claims 1 = .ok (.getfield 19, 3) := by decide +kernel
theorem dX4_claims_4 : decode cX4_claims 4 = .ok (.invokevirtual 132, 3) := by decide +kernel
theorem dX4_claims_7 : decode cX4_claims 7 = .ok (.ireturn, 1) := by decide +kernel
theorem dX4_level_0 : decode cX4_level 0 = .ok (.aload_n 0, 1) := by decide +kernel
theorem dX4_level_1 : decode cX4_level 1 = .ok (.getfield 19, 3) := by decide +kernel
theorem dX4_level_4 : decode cX4_level 4 = .ok (.invokevirtual 83, 3) := by decide +kernel
theorem dX4_level_7 : decode cX4_level 7 = .ok (.ireturn, 1) := by decide +kernel
theorem dX4_checks_0 : decode cX4_checks 0 = .ok (.aload_n 0, 1) := by decide +kernel
theorem dX4_checks_1 : decode cX4_checks 1 = .ok (.getfield 31, 3) := by decide +kernel
theorem dX4_checks_4 : decode cX4_checks 4 = .ok (.ireturn, 1) := by decide +kernel
theorem dX4_term_0 : decode cX4_term 0 = .ok (.aload_n 0, 1) := by decide +kernel
theorem dX4_term_1 : decode cX4_term 1 = .ok (.getfield 10, 3) := by decide +kernel
theorem dX4_term_4 : decode cX4_term 4 = .ok (.iload_n 1, 1) := by decide +kernel
theorem dX4_term_5 : decode cX4_term 5 = .ok (.iload_n 2, 1) := by decide +kernel
theorem dX4_term_6 : decode cX4_term 6 = .ok (.iload_n 3, 1) := by decide +kernel
theorem dX4_term_7 : decode cX4_term 7 = .ok (.iload 4, 2) := by decide +kernel
theorem dX4_term_9 : decode cX4_term 9 = .ok (.invokevirtual 35, 3) := by decide +kernel
theorem dX4_term_12 : decode cX4_term 12 = .ok (.ifCond .ne 13, 3) := by decide +kernel
theorem dX4_term_15 : decode cX4_term 15 = .ok (.new 39, 3) := by decide +kernel
theorem dX4_term_18 : decode cX4_term 18 = .ok (.dup, 1) := by decide +kernel
theorem dX4_term_19 : decode cX4_term 19 = .ok (.ldc 41, 2) := by decide +kernel
theorem dX4_term_21 : decode cX4_term 21 = .ok (.invokespecial 43, 3) := by decide +kernel
theorem dX4_term_24 : decode cX4_term 24 = .ok (.athrow, 1) := by decide +kernel
theorem dX4_term_25 : decode cX4_term 25 = .ok (.iload_n 1, 1) := by decide +kernel
theorem dX4_term_26 : decode cX4_term 26 = .ok (.invokestatic 46, 3) := by decide +kernel
theorem dX4_term_29 : decode cX4_term 29 = .ok (.ifCond .ne 7, 3) := by decide +kernel
theorem dX4_term_32 : decode cX4_term 32 = .ok (.iconst 0, 1) := by decide +kernel
theorem dX4_term_33 : decode cX4_term 33 = .ok (.goto 4, 3) := by decide +kernel
theorem dX4_term_36 : decode cX4_term 36 = .ok (.iload_n 3, 1) := by decide +kernel
theorem dX4_term_37 : decode cX4_term 37 = .ok (.istore 5, 2) := by decide +kernel
theorem dX4_term_39 : decode cX4_term 39 = .ok (.iload_n 1, 1) := by decide +kernel
theorem dX4_term_40 : decode cX4_term 40 = .ok (.invokestatic 52, 3) := by decide +kernel
theorem dX4_term_43 : decode cX4_term 43 = .ok (.ifCond .ne 7, 3) := by decide +kernel
theorem dX4_term_46 : decode cX4_term 46 = .ok (.iconst 0, 1) := by decide +kernel
theorem dX4_term_47 : decode cX4_term 47 = .ok (.goto 5, 3) := by decide +kernel
theorem dX4_term_50 : decode cX4_term 50 = .ok (.iload 4, 2) := by decide +kernel
theorem dX4_term_52 : decode cX4_term 52 = .ok (.istore 6, 2) := by decide +kernel
theorem dX4_term_54 : decode cX4_term 54 = .ok (.aload_n 0, 1) := by decide +kernel
theorem dX4_term_55 : decode cX4_term 55 = .ok (.getfield 10, 3) := by decide +kernel
theorem dX4_term_58 : decode cX4_term 58 = .ok (.iload_n 1, 1) := by decide +kernel
theorem dX4_term_59 : decode cX4_term 59 = .ok (.iload_n 2, 1) := by decide +kernel
theorem dX4_term_60 : decode cX4_term 60 = .ok (.iload 5, 2) := by decide +kernel
theorem dX4_term_62 : decode cX4_term 62 = .ok (.iload 6, 2) := by decide +kernel
theorem dX4_term_64 : decode cX4_term 64 = .ok (.invokevirtual 55, 3) := by decide +kernel
theorem dX4_term_67 : decode cX4_term 67 = .ok (.istore 7, 2) := by decide +kernel
theorem dX4_term_69 : decode cX4_term 69 = .ok (.iload 7, 2) := by decide +kernel
theorem dX4_term_71 : decode cX4_term 71 = .ok (.ifCond .lt 6, 3) := by decide +kernel
theorem dX4_term_74 : decode cX4_term 74 = .ok (.iload 7, 2) := by decide +kernel
theorem dX4_term_76 : decode cX4_term 76 = .ok (.ireturn, 1) := by decide +kernel
theorem dX4_term_77 : decode cX4_term 77 = .ok (.aload_n 0, 1) := by decide +kernel
theorem dX4_term_78 : decode cX4_term 78 = .ok (.getfield 10, 3) := by decide +kernel
theorem dX4_term_81 : decode cX4_term 81 = .ok (.invokevirtual 59, 3) := by decide +kernel
theorem dX4_term_84 : decode cX4_term 84 = .ok (.ifCond .eq 13, 3) := by decide +kernel
theorem dX4_term_87 : decode cX4_term 87 = .ok (.new 63, 3) := by decide +kernel
theorem dX4_term_90 : decode cX4_term 90 = .ok (.dup, 1) := by decide +kernel
theorem dX4_term_91 : decode cX4_term 91 = .ok (.ldc 65, 2) := by decide +kernel
theorem dX4_term_93 : decode cX4_term 93 = .ok (.invokespecial 67, 3) := by decide +kernel
theorem dX4_term_96 : decode cX4_term 96 = .ok (.athrow, 1) := by decide +kernel
theorem dX4_term_97 : decode cX4_term 97 = .ok (.aload_n 0, 1) := by decide +kernel
theorem dX4_term_98 : decode cX4_term 98 = .ok (.getfield 10, 3) := by decide +kernel
theorem dX4_term_101 : decode cX4_term 101 = .ok (.iload_n 1, 1) := by decide +kernel
theorem dX4_term_102 : decode cX4_term 102 = .ok (.iload_n 2, 1) := by decide +kernel
theorem dX4_term_103 : decode cX4_term 103 = .ok (.iload 5, 2) := by decide +kernel
theorem dX4_term_105 : decode cX4_term 105 = .ok (.iload 6, 2) := by decide +kernel
theorem dX4_term_107 : decode cX4_term 107 = .ok (.invokevirtual 68, 3) := by decide +kernel
theorem dX4_term_110 : decode cX4_term 110 = .ok (.ireturn, 1) := by decide +kernel
theorem dX4_claim_0 : decode cX4_claim 0 = .ok (.aload_n 0, 1) := by decide +kernel
theorem dX4_claim_1 : decode cX4_claim 1 = .ok (.getfield 10, 3) := by decide +kernel
theorem dX4_claim_4 : decode cX4_claim 4 = .ok (.iload_n 1, 1) := by decide +kernel
theorem dX4_claim_5 : decode cX4_claim 5 = .ok (.invokevirtual 71, 3) := by decide +kernel
theorem dX4_claim_8 : decode cX4_claim 8 = .ok (.ifCond .ne 13, 3) := by decide +kernel
theorem dX4_claim_11 : decode cX4_claim 11 = .ok (.new 39, 3) := by decide +kernel
theorem dX4_claim_14 : decode cX4_claim 14 = .ok (.dup, 1) := by decide +kernel
theorem dX4_claim_15 : decode cX4_claim 15 = .ok (.ldc 75, 2) := by decide +kernel
theorem dX4_claim_17 : decode cX4_claim 17 = .ok (.invokespecial 43, 3) := by decide +kernel
theorem dX4_claim_20 : decode cX4_claim 20 = .ok (.athrow, 1) := by decide +kernel
theorem dX4_claim_21 : decode cX4_claim 21 = .ok (.aload_n 0, 1) := by decide +kernel
theorem dX4_claim_22 : decode cX4_claim 22 = .ok (.getfield 19, 3) := by decide +kernel
theorem dX4_claim_25 : decode cX4_claim 25 = .ok (.invokevirtual 77, 3) := by decide +kernel
theorem dX4_claim_28 : decode cX4_claim 28 = .ok (.ifCond .eq 13, 3) := by decide +kernel
theorem dX4_claim_31 : decode cX4_claim 31 = .ok (.new 63, 3) := by decide +kernel
theorem dX4_claim_34 : decode cX4_claim 34 = .ok (.dup, 1) := by decide +kernel
theorem dX4_claim_35 : decode cX4_claim 35 = .ok (.ldc 78, 2) := by decide +kernel
theorem dX4_claim_37 : decode cX4_claim 37 = .ok (.invokespecial 67, 3) := by decide +kernel
theorem dX4_claim_40 : decode cX4_claim 40 = .ok (.athrow, 1) := by decide +kernel
theorem dX4_claim_41 : decode cX4_claim 41 = .ok (.aload_n 0, 1) := by decide +kernel
theorem dX4_claim_42 : decode cX4_claim 42 = .ok (.getfield 19, 3) := by decide +kernel
theorem dX4_claim_45 : decode cX4_claim 45 = .ok (.iload_n 1, 1) := by decide +kernel
theorem dX4_claim_46 : decode cX4_claim 46 = .ok (.invokevirtual 80, 3) := by decide +kernel
theorem dX4_claim_49 : decode cX4_claim 49 = .ok (.ireturn, 1) := by decide +kernel
theorem dX4_open_0 : decode cX4_open 0 = .ok (.aload_n 0, 1) := by decide +kernel
theorem dX4_open_1 : decode cX4_open 1 = .ok (.getfield 19, 3) := by decide +kernel
theorem dX4_open_4 : decode cX4_open 4 = .ok (.invokevirtual 83, 3) := by decide +kernel
theorem dX4_open_7 : decode cX4_open 7 = .ok (.iconst 5, 1) := by decide +kernel
theorem dX4_open_8 : decode cX4_open 8 = .ok (.if_icmp .ne 13, 3) := by decide +kernel
theorem dX4_open_11 : decode cX4_open 11 = .ok (.new 63, 3) := by decide +kernel
theorem dX4_open_14 : decode cX4_open 14 = .ok (.dup, 1) := by decide +kernel
theorem dX4_open_15 : decode cX4_open 15 = .ok (.ldc 87, 2) := by decide +kernel
theorem dX4_open_17 : decode cX4_open 17 = .ok (.invokespecial 67, 3) := by decide +kernel
theorem dX4_open_20 : decode cX4_open 20 = .ok (.athrow, 1) := by decide +kernel
theorem dX4_open_21 : decode cX4_open 21 = .ok (.aload_n 0, 1) := by decide +kernel
theorem dX4_open_22 : decode cX4_open 22 = .ok (.getfield 19, 3) := by decide +kernel
theorem dX4_open_25 : decode cX4_open 25 = .ok (.invokevirtual 89, 3) := by decide +kernel
theorem dX4_open_28 : decode cX4_open 28 = .ok (.ireturn, 1) := by decide +kernel
theorem dX4_close_0 : decode cX4_close 0 = .ok (.aload_n 0, 1) := by decide +kernel
theorem dX4_close_1 : decode cX4_close 1 = .ok (.getfield 19, 3) := by decide +kernel
theorem dX4_close_4 : decode cX4_close 4 = .ok (.invokevirtual 83, 3) := by decide +kernel
theorem dX4_close_7 : decode cX4_close 7 = .ok (.ifCond .ne 13, 3) := by decide +kernel
theorem dX4_close_10 : decode cX4_close 10 = .ok (.new 63, 3) := by decide +kernel
theorem dX4_close_13 : decode cX4_close 13 = .ok (.dup, 1) := by decide +kernel
theorem dX4_close_14 : decode cX4_close 14 = .ok (.ldc 92, 2) := by decide +kernel
theorem dX4_close_16 : decode cX4_close 16 = .ok (.invokespecial 67, 3) := by decide +kernel
theorem dX4_close_19 : decode cX4_close 19 = .ok (.athrow, 1) := by decide +kernel
theorem dX4_close_20 : decode cX4_close 20 = .ok (.aload_n 0, 1) := by decide +kernel
theorem dX4_close_21 : decode cX4_close 21 = .ok (.getfield 19, 3) := by decide +kernel
theorem dX4_close_24 : decode cX4_close 24 = .ok (.invokevirtual 94, 3) := by decide +kernel
theorem dX4_close_27 : decode cX4_close 27 = .ok (.ireturn, 1) := by decide +kernel
theorem dX4_model_0 : decode cX4_model 0 = .ok (.iload_n 1, 1) := by decide +kernel
theorem dX4_model_1 : decode cX4_model 1 = .ok (.ifCond .lt 8, 3) := by decide +kernel
theorem dX4_model_4 : decode cX4_model 4 = .ok (.iload_n 1, 1) := by decide +kernel
theorem dX4_model_5 : decode cX4_model 5 = .ok (.iconst 2, 1) := by decide +kernel
theorem dX4_model_6 : decode cX4_model 6 = .ok (.if_icmp .lt 13, 3) := by decide +kernel
theorem dX4_model_9 : decode cX4_model 9 = .ok (.new 39, 3) := by decide +kernel
theorem dX4_model_12 : decode cX4_model 12 = .ok (.dup, 1) := by decide +kernel
theorem dX4_model_13 : decode cX4_model 13 = .ok (.ldc 100, 2) := by decide +kernel
theorem dX4_model_15 : decode cX4_model 15 = .ok (.invokespecial 43, 3) := by decide +kernel
theorem dX4_model_18 : decode cX4_model 18 = .ok (.athrow, 1) := by decide +kernel
theorem dX4_model_19 : decode cX4_model 19 = .ok (.aload_n 0, 1) := by decide +kernel
theorem dX4_model_20 : decode cX4_model 20 = .ok (.getfield 27, 3) := by decide +kernel
theorem dX4_model_23 : decode cX4_model 23 = .ok (.ifCond .ne 13, 3) := by decide +kernel
theorem dX4_model_26 : decode cX4_model 26 = .ok (.new 102, 3) := by decide +kernel
theorem dX4_model_29 : decode cX4_model 29 = .ok (.dup, 1) := by decide +kernel
theorem dX4_model_30 : decode cX4_model 30 = .ok (.ldc 104, 2) := by decide +kernel
theorem dX4_model_32 : decode cX4_model 32 = .ok (.invokespecial 106, 3) := by decide +kernel
theorem dX4_model_35 : decode cX4_model 35 = .ok (.athrow, 1) := by decide +kernel
theorem dX4_model_36 : decode cX4_model 36 = .ok (.aload_n 0, 1) := by decide +kernel
theorem dX4_model_37 : decode cX4_model 37 = .ok (.getfield 23, 3) := by decide +kernel
theorem dX4_model_40 : decode cX4_model 40 = .ok (.iload_n 1, 1) := by decide +kernel
theorem dX4_model_41 : decode cX4_model 41 = .ok (.iaload, 1) := by decide +kernel
theorem dX4_model_42 : decode cX4_model 42 = .ok (.ireturn, 1) := by decide +kernel
theorem dX4_value_0 : decode cX4_value 0 = .ok (.aload_n 0, 1) := by decide +kernel
theorem dX4_value_1 : decode cX4_value 1 = .ok (.getfield 10, 3) := by decide +kernel
theorem dX4_value_4 : decode cX4_value 4 = .ok (.iload_n 1, 1) := by decide +kernel
theorem dX4_value_5 : decode cX4_value 5 = .ok (.invokevirtual 107, 3) := by decide +kernel
theorem dX4_value_8 : decode cX4_value 8 = .ok (.ifCond .ne 13, 3) := by decide +kernel
theorem dX4_value_11 : decode cX4_value 11 = .ok (.new 39, 3) := by decide +kernel
theorem dX4_value_14 : decode cX4_value 14 = .ok (.dup, 1) := by decide +kernel
theorem dX4_value_15 : decode cX4_value 15 = .ok (.ldc 110, 2) := by decide +kernel
theorem dX4_value_17 : decode cX4_value 17 = .ok (.invokespecial 43, 3) := by decide +kernel
theorem dX4_value_20 : decode cX4_value 20 = .ok (.athrow, 1) := by decide +kernel
theorem dX4_value_21 : decode cX4_value 21 = .ok (.aload_n 0, 1) := by decide +kernel
theorem dX4_value_22 : decode cX4_value 22 = .ok (.getfield 27, 3) := by decide +kernel
theorem dX4_value_25 : decode cX4_value 25 = .ok (.ifCond .ne 13, 3) := by decide +kernel
theorem dX4_value_28 : decode cX4_value 28 = .ok (.new 102, 3) := by decide +kernel
theorem dX4_value_31 : decode cX4_value 31 = .ok (.dup, 1) := by decide +kernel
theorem dX4_value_32 : decode cX4_value 32 = .ok (.ldc 104, 2) := by decide +kernel
theorem dX4_value_34 : decode cX4_value 34 = .ok (.invokespecial 106, 3) := by decide +kernel
theorem dX4_value_37 : decode cX4_value 37 = .ok (.athrow, 1) := by decide +kernel
theorem dX4_value_38 : decode cX4_value 38 = .ok (.aload_n 0, 1) := by decide +kernel
theorem dX4_value_39 : decode cX4_value 39 = .ok (.getfield 10, 3) := by decide +kernel
theorem dX4_value_42 : decode cX4_value 42 = .ok (.iload_n 1, 1) := by decide +kernel
theorem dX4_value_43 : decode cX4_value 43 = .ok (.aload_n 0, 1) := by decide +kernel
theorem dX4_value_44 : decode cX4_value 44 = .ok (.getfield 23, 3) := by decide +kernel
theorem dX4_value_47 : decode cX4_value 47 = .ok (.iconst 0, 1) := by decide +kernel
theorem dX4_value_48 : decode cX4_value 48 = .ok (.iaload, 1) := by decide +kernel
theorem dX4_value_49 : decode cX4_value 49 = .ok (.aload_n 0, 1) := by decide +kernel
theorem dX4_value_50 : decode cX4_value 50 = .ok (.getfield 23, 3) := by decide +kernel
theorem dX4_value_53 : decode cX4_value 53 = .ok (.iconst 1, 1) := by decide +kernel
theorem dX4_value_54 : decode cX4_value 54 = .ok (.iaload, 1) := by decide +kernel
theorem dX4_value_55 : decode cX4_value 55 = .ok (.invokevirtual 112, 3) := by decide +kernel
theorem dX4_value_58 : decode cX4_value 58 = .ok (.ireturn, 1) := by decide +kernel
theorem dX4_reckon_0 : decode cX4_reckon 0 = .ok (.iload_n 1, 1) := by decide +kernel
theorem dX4_reckon_1 : decode cX4_reckon 1 = .ok (.invokestatic 116, 3) := by decide +kernel
theorem dX4_reckon_4 : decode cX4_reckon 4 = .ok (.ifCond .eq 17, 3) := by decide +kernel
theorem dX4_reckon_7 : decode cX4_reckon 7 = .ok (.iload_n 2, 1) := by decide +kernel
theorem dX4_reckon_8 : decode cX4_reckon 8 = .ok (.invokestatic 121, 3) := by decide +kernel
theorem dX4_reckon_11 : decode cX4_reckon 11 = .ok (.ifCond .eq 10, 3) := by decide +kernel
theorem dX4_reckon_14 : decode cX4_reckon 14 = .ok (.iload_n 3, 1) := by decide +kernel
theorem dX4_reckon_15 : decode cX4_reckon 15 = .ok (.invokestatic 121, 3) := by decide +kernel
theorem dX4_reckon_18 : decode cX4_reckon 18 = .ok (.ifCond .ne 13, 3) := by decide +kernel
theorem dX4_reckon_21 : decode cX4_reckon 21 = .ok (.new 39, 3) := by decide +kernel
theorem dX4_reckon_24 : decode cX4_reckon 24 = .ok (.dup, 1) := by decide +kernel
theorem dX4_reckon_25 : decode cX4_reckon 25 = .ok (.ldc 124, 2) := by decide +kernel
theorem dX4_reckon_27 : decode cX4_reckon 27 = .ok (.invokespecial 43, 3) := by decide +kernel
theorem dX4_reckon_30 : decode cX4_reckon 30 = .ok (.athrow, 1) := by decide +kernel
theorem dX4_reckon_31 : decode cX4_reckon 31 = .ok (.iload_n 1, 1) := by decide +kernel
theorem dX4_reckon_32 : decode cX4_reckon 32 = .ok (.iload_n 2, 1) := by decide +kernel
theorem dX4_reckon_33 : decode cX4_reckon 33 = .ok (.iload_n 3, 1) := by decide +kernel
theorem dX4_reckon_34 : decode cX4_reckon 34 = .ok (.invokestatic 126, 3) := by decide +kernel
theorem dX4_reckon_37 : decode cX4_reckon 37 = .ok (.ireturn, 1) := by decide +kernel
end
section
theorem dX5_init_0 : decode cX5_init 0 = .ok (.aload_n 0, 1) := by decide +kernel
theorem dX5_init_1 : decode cX5_init 1 = .ok (.invokespecial 1, 3) := by decide +kernel
theorem dX5_init_4 : decode cX5_init 4 = .ok (.aload_n 0, 1) := by decide +kernel
theorem dX5_init_5 : decode cX5_init 5 = .ok (.bipush 12, 2) := by decide +kernel
theorem dX5_init_7 : decode cX5_init 7 = .ok (.newarray .int, 2) := by decide +kernel
theorem dX5_init_9 : decode cX5_init 9 = .ok (.putfield 7, 3) := by decide +kernel
theorem dX5_init_12 : decode cX5_init 12 = .ok (.aload_n 0, 1) := by decide +kernel
theorem dX5_init_13 : decode cX5_init 13 = .ok (.bipush 12, 2) := by decide +kernel
theorem dX5_init_15 : decode cX5_init 15 = .ok (.newarray .int, 2) := by decide +kernel
theorem dX5_init_17 : decode cX5_init 17 = .ok (.putfield 13, 3) := by decide +kernel
theorem dX5_init_20 : decode cX5_init 20 = .ok (.aload_n 0, 1) := by decide +kernel
theorem dX5_init_21 : decode cX5_init 21 = .ok (.bipush 12, 2) := by decide +kernel
theorem dX5_init_23 : decode cX5_init 23 = .ok (.newarray .int, 2) := by decide +kernel
theorem dX5_init_25 : decode cX5_init 25 = .ok (.putfield 16, 3) := by decide +kernel
theorem dX5_init_28 : decode cX5_init 28 = .ok (.aload_n 0, 1) := by decide +kernel
theorem dX5_init_29 : decode cX5_init 29 = .ok (.bipush 12, 2) := by decide +kernel
theorem dX5_init_31 : decode cX5_init 31 = .ok (.newarray .int, 2) := by decide +kernel
theorem dX5_init_33 : decode cX5_init 33 = .ok (.putfield 19, 3) := by decide +kernel
theorem dX5_init_36 : decode cX5_init 36 = .ok (.aload_n 0, 1) := by decide +kernel
theorem dX5_init_37 : decode cX5_init 37 = .ok (.bipush 20, 2) := by decide +kernel
theorem dX5_init_39 : decode cX5_init 39 = .ok (.newarray .int, 2) := by decide +kernel
theorem dX5_init_41 : decode cX5_init 41 = .ok (.putfield 22, 3) := by decide +kernel
theorem dX5_init_44 : decode cX5_init 44 = .ok (.aload_n 0, 1) := by decide +kernel
theorem dX5_init_45 : decode cX5_init 45 = .ok (.bipush 6, 2) := by decide +kernel
theorem dX5_init_47 : decode cX5_init 47 = .ok (.newarray .int, 2) := by decide +kernel
theorem dX5_init_49 : decode cX5_init 49 = .ok (.putfield 25, 3) := by decide +kernel
theorem dX5_init_52 : decode cX5_init 52 = .ok (.aload_n 0, 1) := by decide +kernel
theorem dX5_init_53 : decode cX5_init 53 = .ok (.iconst 2, 1) := by decide +kernel
theorem dX5_init_54 : decode cX5_init 54 = .ok (.newarray .int, 2) := by decide +kernel
theorem dX5_init_56 : decode cX5_init 56 = .ok (.putfield 28, 3) := by decide +kernel
theorem dX5_init_59 : decode cX5_init 59 = .ok (.aload_n 0, 1) := by decide +kernel
theorem dX5_init_60 : decode cX5_init 60 = .ok (.bipush 12, 2) := by decide +kernel
theorem dX5_init_62 : decode cX5_init 62 = .ok (.newarray .int, 2) := by decide +kernel
theorem dX5_init_64 : decode cX5_init 64 = .ok (.putfield 31, 3) := by decide +kernel
theorem dX5_init_67 : decode cX5_init 67 = .ok (.return_, 1) := by decide +kernel
theorem dX5_thrown_0 : decode cX5_thrown 0 = .ok (.aload_n 0, 1) := by decide +kernel
theorem dX5_thrown_1 : decode cX5_thrown 1 = .ok (.getfield 34, 3) := by decide +kernel
theorem dX5_thrown_4 : decode cX5_thrown 4 = .ok (.ireturn, 1) := by decide +kernel
theorem dX5_term_0 : decode cX5_term 0 = .ok (.aload_n 0, 1) := by decide +kernel
theorem dX5_term_1 : decode cX5_term 1 = .ok (.aload_n 0, 1) := by decide +kernel
theorem dX5_term_2 : decode cX5_term 2 = .ok (.iload_n 1, 1) := by decide +kernel
theorem dX5_term_3 : decode cX5_term 3 = .ok (.iload_n 2, 1) := by decide +kernel
theorem dX5_term_4 : decode cX5_term 4 = .ok (.iload_n 3, 1) := by decide +kernel
theorem dX5_term_5 : decode cX5_term 5 = .ok (.iload 4, 2) := by decide +kernel
theorem dX5_term_7 : decode cX5_term 7 = .ok (.invokevirtual 91, 3) := by decide +kernel
theorem dX5_term_10 : decode cX5_term 10 = .ok (.ifCond .eq 7, 3) := by decide +kernel
theorem dX5_term_13 : decode cX5_term 13 = .ok (.iconst 0, 1) := by decide +kernel
theorem dX5_term_14 : decode cX5_term 14 = .ok (.goto 4, 3) := by decide +kernel
theorem dX5_term_17 : decode cX5_term 17 = .ok (.iconst 1, 1) := by decide +kernel
theorem dX5_term_18 : decode cX5_term 18 = .ok (.putfield 34, 3) := by decide +kernel
theorem dX5_term_21 : decode cX5_term 21 = .ok (.aload_n 0, 1) := by decide +kernel
theorem dX5_term_22 : decode cX5_term 22 = .ok (.getfield 34, 3) := by decide +kernel
theorem dX5_term_25 : decode cX5_term 25 = .ok (.ifCond .le 5, 3) := by decide +kernel
theorem dX5_term_28 : decode cX5_term 28 = .ok (.iconst 0, 1) := by decide +kernel
theorem dX5_term_29 : decode cX5_term 29 = .ok (.ireturn, 1) := by decide +kernel
theorem dX5_term_30 : decode cX5_term 30 = .ok (.iload_n 1, 1) := by decide +kernel
theorem dX5_term_31 : decode cX5_term 31 = .ok (.invokestatic 88, 3) := by decide +kernel
theorem dX5_term_34 : decode cX5_term 34 = .ok (.istore 5, 2) := by decide +kernel
theorem dX5_term_36 : decode cX5_term 36 = .ok (.iconst 0, 1) := by decide +kernel
theorem dX5_term_37 : decode cX5_term 37 = .ok (.istore 6, 2) := by decide +kernel
theorem dX5_term_39 : decode cX5_term 39 = .ok (.iload 6, 2) := by decide +kernel
theorem dX5_term_41 : decode cX5_term 41 = .ok (.aload_n 0, 1) := by decide +kernel
theorem dX5_term_42 : decode cX5_term 42 = .ok (.getfield 76, 3) := by decide +kernel
theorem dX5_term_45 : decode cX5_term 45 = .ok (.if_icmp .ge 69, 3) := by decide +kernel
theorem dX5_term_48 : decode cX5_term 48 = .ok (.aload_n 0, 1) := by decide +kernel
theorem dX5_term_49 : decode cX5_term 49 = .ok (.getfield 7, 3) := by decide +kernel
theorem dX5_term_52 : decode cX5_term 52 = .ok (.iload 6, 2) := by decide +kernel
theorem dX5_term_54 : decode cX5_term 54 = .ok (.iaload, 1) := by decide +kernel
theorem dX5_term_55 : decode cX5_term 55 = .ok (.iload_n 1, 1) := by decide +kernel
theorem dX5_term_56 : decode cX5_term 56 = .ok (.if_icmp .ne 52, 3) := by decide +kernel
theorem dX5_term_59 : decode cX5_term 59 = .ok (.aload_n 0, 1) := by decide +kernel
theorem dX5_term_60 : decode cX5_term 60 = .ok (.getfield 13, 3) := by decide +kernel
theorem dX5_term_63 : decode cX5_term 63 = .ok (.iload 6, 2) := by decide +kernel
theorem dX5_term_65 : decode cX5_term 65 = .ok (.iaload, 1) := by decide +kernel
theorem dX5_term_66 : decode cX5_term 66 = .ok (.iload_n 2, 1) := by decide +kernel
theorem dX5_term_67 : decode cX5_term 67 = .ok (.if_icmp .ne 41, 3) := by decide +kernel
theorem dX5_term_70 : decode cX5_term 70 = .ok (.iload 5, 2) := by decide +kernel
theorem dX5_term_72 : decode cX5_term 72 = .ok (.iconst 2, 1) := by decide +kernel
theorem dX5_term_73 : decode cX5_term 73 = .ok (.if_icmp .lt 14, 3) := by decide +kernel
theorem dX5_term_76 : decode cX5_term 76 = .ok (.aload_n 0, 1) := by decide +kernel
theorem dX5_term_77 : decode cX5_term 77 = .ok (.getfield 16, 3) := by decide +kernel
theorem dX5_term_80 : decode cX5_term 80 = .ok (.iload 6, 2) := by decide +kernel
theorem dX5_term_82 : decode cX5_term 82 = .ok (.iaload, 1) := by decide +kernel
theorem dX5_term_83 : decode cX5_term 83 = .ok (.iload_n 3, 1) := by decide +kernel
theorem dX5_term_84 : decode cX5_term 84 = .ok (.if_icmp .ne 24, 3) := by decide +kernel
theorem dX5_term_87 : decode cX5_term 87 = .ok (.iload 5, 2) := by decide +kernel
theorem dX5_term_89 : decode cX5_term 89 = .ok (.iconst 3, 1) := by decide +kernel
theorem dX5_term_90 : decode cX5_term 90 = .ok (.if_icmp .lt 15, 3) := by decide +kernel
theorem dX5_term_93 : decode cX5_term 93 = .ok (.aload_n 0, 1) := by decide +kernel
theorem dX5_term_94 : decode cX5_term 94 = .ok (.getfield 19, 3) := by decide +kernel
theorem dX5_term_97 : decode cX5_term 97 = .ok (.iload 6, 2) := by decide +kernel
theorem dX5_term_99 : decode cX5_term 99 = .ok (.iaload, 1) := by decide +kernel
theorem dX5_term_100 : decode cX5_term 100 = .ok (.iload 4, 2) := by decide +kernel
theorem dX5_term_102 : decode cX5_term 102 = .ok (.if_icmp .ne 6, 3) := by decide +kernel
theorem dX5_term_105 : decode cX5_term 105 = .ok (.iload 6, 2) := by decide +kernel
theorem dX5_term_107 : decode cX5_term 107 = .ok (.ireturn, 1) := by decide +kernel
theorem dX5_term_108 : decode cX5_term 108 = .ok (.iinc 6 1, 3) := by decide +kernel
theorem dX5_term_111 : decode cX5_term 111 = .ok (.goto (-72), 3) := by decide +kernel
theorem dX5_term_114 : decode cX5_term 114 = .ok (.aload_n 0, 1) := by decide +kernel
theorem dX5_term_115 : decode cX5_term 115 = .ok (.aload_n 0, 1) := by decide +kernel
theorem dX5_term_116 : decode cX5_term 116 = .ok (.getfield 76, 3) := by decide +kernel
theorem dX5_term_119 : decode cX5_term 119 = .ok (.bipush 12, 2) := by decide +kernel
theorem dX5_term_121 : decode cX5_term 121 = .ok (.if_icmp .ne 7, 3) := by decide +kernel
theorem dX5_term_124 : decode cX5_term 124 = .ok (.iconst 2, 1) := by decide +kernel
theorem dX5_term_125 : decode cX5_term 125 = .ok (.goto 4, 3) := by decide +kernel
theorem dX5_term_128 : decode cX5_term 128 = .ok (.iconst 0, 1) := by decide +kernel
theorem dX5_term_129 : decode cX5_term 129 = .ok (.putfield 34, 3) := by decide +kernel
theorem dX5_term_132 : decode cX5_term 132 = .ok (.aload_n 0, 1) := by decide +kernel
theorem dX5_term_133 : decode cX5_term 133 = .ok (.getfield 34, 3) := by decide +kernel
theorem dX5_term_136 : decode cX5_term 136 = .ok (.ifCond .le 5, 3) := by decide +kernel
theorem dX5_term_139 : decode cX5_term 139 = .ok (.iconst 0, 1) := by decide +kernel
theorem dX5_term_140 : decode cX5_term 140 = .ok (.ireturn, 1) := by decide +kernel
theorem dX5_term_141 : decode cX5_term 141 = .ok (.aload_n 0, 1) := by decide +kernel
theorem dX5_term_142 : decode cX5_term 142 = .ok (.getfield 7, 3) := by decide +kernel
theorem dX5_term_145 : decode cX5_term 145 = .ok (.aload_n 0, 1) := by decide +kernel
theorem dX5_term_146 : decode cX5_term 146 = .ok (.getfield 76, 3) := by decide +kernel
theorem dX5_term_149 : decode cX5_term 149 = .ok (.iload_n 1, 1) := by decide +kernel
theorem dX5_term_150 : decode cX5_term 150 = .ok (.iastore, 1) := by decide +kernel
theorem dX5_term_151 : decode cX5_term 151 = .ok (.aload_n 0, 1) := by decide +kernel
theorem dX5_term_152 : decode cX5_term 152 = .ok (.getfield 13, 3) := by decide +kernel
theorem dX5_term_155 : decode cX5_term 155 = .ok (.aload_n 0, 1) := by decide +kernel
theorem dX5_term_156 : decode cX5_term 156 = .ok (.getfield 76, 3) := by decide +kernel
theorem dX5_term_159 : decode cX5_term 159 = .ok (.iload_n 2, 1) := by decide +kernel
theorem dX5_term_160 : decode cX5_term 160 = .ok (.iastore, 1) := by decide +kernel
theorem dX5_term_161 : decode cX5_term 161 = .ok (.aload_n 0, 1) := by decide +kernel
theorem dX5_term_162 : decode cX5_term 162 = .ok (.getfield 16, 3) := by decide +kernel
theorem dX5_term_165 : decode cX5_term 165 = .ok (.aload_n 0, 1) := by decide +kernel
theorem dX5_term_166 : decode cX5_term 166 = .ok (.getfield 76, 3) := by decide +kernel
theorem dX5_term_169 : decode cX5_term 169 = .ok (.iload_n 3, 1) := by decide +kernel
theorem dX5_term_170 : decode cX5_term 170 = .ok (.iastore, 1) := by decide +kernel
theorem dX5_term_171 : decode cX5_term 171 = .ok (.aload_n 0, 1) := by decide +kernel
theorem dX5_term_172 : decode cX5_term 172 = .ok (.getfield 19, 3) := by decide +kernel
theorem dX5_term_175 : decode cX5_term 175 = .ok (.aload_n 0, 1) := by decide +kernel
theorem dX5_term_176 : decode cX5_term 176 = .ok (.getfield 76, 3) := by decide +kernel
theorem dX5_term_179 : decode cX5_term 179 = .ok (.iload 4, 2) := by decide +kernel
theorem dX5_term_181 : decode cX5_term 181 = .ok (.iastore, 1) := by decide +kernel
theorem dX5_term_182 : decode cX5_term 182 = .ok (.aload_n 0, 1) := by decide +kernel
theorem dX5_term_183 : decode cX5_term 183 = .ok (.dup, 1) := by decide +kernel
theorem dX5_term_184 : decode cX5_term 184 = .ok (.getfield 76, 3) := by decide +kernel
theorem dX5_term_187 : decode cX5_term 187 = .ok (.iconst 1, 1) := by decide +kernel
theorem dX5_term_188 : decode cX5_term 188 = .ok (.iadd, 1) := by decide +kernel
theorem dX5_term_189 : decode cX5_term 189 = .ok (.putfield 76, 3) := by decide +kernel
theorem dX5_term_192 : decode cX5_term 192 = .ok (.aload_n 0, 1) := by decide +kernel
theorem dX5_term_193 : decode cX5_term 193 = .ok (.getfield 76, 3) := by decide +kernel
theorem dX5_term_196 : decode cX5_term 196 = .ok (.iconst 1, 1) := by decide +kernel
theorem dX5_term_197 : decode cX5_term 197 = .ok (.isub, 1) := by decide +kernel
theorem dX5_term_198 : decode cX5_term 198 = .ok (.ireturn, 1) := by decide +kernel
theorem dX5_fits_0 : decode cX5_fits 0 = .ok (.iload_n 1, 1) := by decide +kernel
theorem dX5_fits_1 : decode cX5_fits 1 = .ok (.bipush 20, 2) := by decide +kernel
theorem dX5_fits_3 : decode cX5_fits 3 = .ok (.invokestatic 79, 3) := by decide +kernel
theorem dX5_fits_6 : decode cX5_fits 6 = .ok (.ifCond .eq 5, 3) := by decide +kernel
theorem dX5_fits_9 : decode cX5_fits 9 = .ok (.iconst 0, 1) := by decide +kernel
theorem dX5_fits_10 : decode cX5_fits 10 = .ok (.ireturn, 1) := by decide +kernel
theorem dX5_fits_11 : decode cX5_fits 11 = .ok (.iload_n 1, 1) := by decide +kernel
theorem dX5_fits_12 : decode cX5_fits 12 = .ok (.ifCond .ne 17, 3) := by decide +kernel
theorem dX5_fits_15 : decode cX5_fits 15 = .ok (.iload_n 2, 1) := by decide +kernel
theorem dX5_fits_16 : decode cX5_fits 16 = .ok (.iconst 2, 1) := by decide +kernel
theorem dX5_fits_17 : decode cX5_fits 17 = .ok (.invokestatic 79, 3) := by decide +kernel
theorem dX5_fits_20 : decode cX5_fits 20 = .ok (.ifCond .ne 7, 3) := by decide +kernel
theorem dX5_fits_23 : decode cX5_fits 23 = .ok (.iconst 1, 1) := by decide +kernel
theorem dX5_fits_24 : decode cX5_fits 24 = .ok (.goto 4, 3) := by decide +kernel
theorem dX5_fits_27 : decode cX5_fits 27 = .ok (.iconst 0, 1) := by decide +kernel
theorem dX5_fits_28 : decode cX5_fits 28 = .ok (.ireturn, 1) := by decide +kernel
theorem dX5_fits_29 : decode cX5_fits 29 = .ok (.iload_n 1, 1) := by decide +kernel
theorem dX5_fits_30 : decode cX5_fits 30 = .ok (.iconst 1, 1) := by decide +kernel
theorem dX5_fits_31 : decode cX5_fits 31 = .ok (.if_icmp .ne 18, 3) := by decide +kernel
theorem dX5_fits_34 : decode cX5_fits 34 = .ok (.iload_n 2, 1) := by decide +kernel
theorem dX5_fits_35 : decode cX5_fits 35 = .ok (.bipush 32, 2) := by decide +kernel
theorem dX5_fits_37 : decode cX5_fits 37 = .ok (.invokestatic 79, 3) := by decide +kernel
theorem dX5_fits_40 : decode cX5_fits 40 = .ok (.ifCond .ne 7, 3) := by decide +kernel
theorem dX5_fits_43 : decode cX5_fits 43 = .ok (.iconst 1, 1) := by decide +kernel
theorem dX5_fits_44 : decode cX5_fits 44 = .ok (.goto 4, 3) := by decide +kernel
theorem dX5_fits_47 : decode cX5_fits 47 = .ok (.iconst 0, 1) := by decide +kernel
theorem dX5_fits_48 : decode cX5_fits 48 = .ok (.ireturn, 1) := by decide +kernel
theorem dX5_fits_49 : decode cX5_fits 49 = .ok (.iload_n 1, 1) := by decide +kernel
theorem dX5_fits_50 : decode cX5_fits 50 = .ok (.bipush 9, 2) := by decide +kernel
theorem dX5_fits_52 : decode cX5_fits 52 = .ok (.if_icmp .ne 34, 3) := by decide +kernel
theorem dX5_fits_55 : decode cX5_fits 55 = .ok (.aload_n 0, 1) := by decide +kernel
theorem dX5_fits_56 : decode cX5_fits 56 = .ok (.iload_n 2, 1) := by decide +kernel
theorem dX5_fits_57 : decode cX5_fits 57 = .ok (.invokevirtual 82, 3) := by decide +kernel
theorem dX5_fits_60 : decode cX5_fits 60 = .ok (.ifCond .eq 24, 3) := by decide +kernel
theorem dX5_fits_63 : decode cX5_fits 63 = .ok (.aload_n 0, 1) := by decide +kernel
theorem dX5_fits_64 : decode cX5_fits 64 = .ok (.iload_n 3, 1) := by decide +kernel
theorem dX5_fits_65 : decode cX5_fits 65 = .ok (.invokevirtual 85, 3) := by decide +kernel
theorem dX5_fits_68 : decode cX5_fits 68 = .ok (.ifCond .eq 16, 3) := by decide +kernel
theorem dX5_fits_71 : decode cX5_fits 71 = .ok (.aload_n 0, 1) := by decide +kernel
theorem dX5_fits_72 : decode cX5_fits 72 = .ok (.iload 4, 2) := by decide +kernel
theorem dX5_fits_74 : decode cX5_fits 74 = .ok (.invokevirtual 85, 3) := by decide +kernel
theorem dX5_fits_77 : decode cX5_fits 77 = .ok (.ifCond .eq 7, 3) := by decide +kernel
theorem dX5_fits_80 : decode cX5_fits 80 = .ok (.iconst 1, 1) := by decide +kernel
theorem dX5_fits_81 : decode cX5_fits 81 = .ok (.goto 4, 3) := by decide +kernel
theorem dX5_fits_84 : decode cX5_fits 84 = .ok (.iconst 0, 1) := by decide +kernel
theorem dX5_fits_85 : decode cX5_fits 85 = .ok (.ireturn, 1) := by decide +kernel
theorem dX5_fits_86 : decode cX5_fits 86 = .ok (.iload_n 1, 1) := by decide +kernel
theorem dX5_fits_87 : decode cX5_fits 87 = .ok (.bipush 17, 2) := by decide +kernel
theorem dX5_fits_89 : decode cX5_fits 89 = .ok (.if_icmp .lt 31, 3) := by decide +kernel
theorem dX5_fits_92 : decode cX5_fits 92 = .ok (.aload_n 0, 1) := by decide +kernel
theorem dX5_fits_93 : decode cX5_fits 93 = .ok (.iload_n 2, 1) := by decide +kernel
theorem dX5_fits_94 : decode cX5_fits 94 = .ok (.invokevirtual 82, 3) := by decide +kernel
theorem dX5_fits_97 : decode cX5_fits 97 = .ok (.ifCond .eq 21, 3) := by decide +kernel
theorem dX5_fits_100 : decode cX5_fits 100 = .ok (.iload_n 1, 1) := by decide +kernel
theorem dX5_fits_101 : decode cX5_fits 101 = .ok (.bipush 17, 2) := by decide +kernel
theorem dX5_fits_103 : decode cX5_fits 103 = .ok (.if_icmp .eq 11, 3) := by decide +kernel
theorem dX5_fits_106 : decode cX5_fits 106 = .ok (.aload_n 0, 1) := by decide +kernel
theorem dX5_fits_107 : decode cX5_fits 107 = .ok (.iload_n 3, 1) := by decide +kernel
theorem dX5_fits_108 : decode cX5_fits 108 = .ok (.invokevirtual 82, 3) := by decide +kernel
theorem dX5_fits_111 : decode cX5_fits 111 = .ok (.ifCond .eq 7, 3) := by decide +kernel
theorem dX5_fits_114 : decode cX5_fits 114 = .ok (.iconst 1, 1) := by decide +kernel
theorem dX5_fits_115 : decode cX5_fits 115 = .ok (.goto 4, 3) := by decide +kernel
theorem dX5_fits_118 : decode cX5_fits 118 = .ok (.iconst 0, 1) := by decide +kernel
theorem dX5_fits_119 : decode cX5_fits 119 = .ok (.ireturn, 1) := by decide +kernel
theorem dX5_fits_120 : decode cX5_fits 120 = .ok (.aload_n 0, 1) := by decide +kernel
theorem dX5_fits_121 : decode cX5_fits 121 = .ok (.iload_n 2, 1) := by decide +kernel
theorem dX5_fits_122 : decode cX5_fits 122 = .ok (.invokevirtual 85, 3) := by decide +kernel
theorem dX5_fits_125 : decode cX5_fits 125 = .ok (.ifCond .eq 23, 3) := by decide +kernel
theorem dX5_fits_128 : decode cX5_fits 128 = .ok (.iload_n 1, 1) := by decide +kernel
theorem dX5_fits_129 : decode cX5_fits 129 = .ok (.invokestatic 88, 3) := by decide +kernel
theorem dX5_fits_132 : decode cX5_fits 132 = .ok (.iconst 1, 1) := by decide +kernel
theorem dX5_fits_133 : decode cX5_fits 133 = .ok (.if_icmp .eq 11, 3) := by decide +kernel
theorem dX5_fits_136 : decode cX5_fits 136 = .ok (.aload_n 0, 1) := by decide +kernel
theorem dX5_fits_137 : decode cX5_fits 137 = .ok (.iload_n 3, 1) := by decide +kernel
theorem dX5_fits_138 : decode cX5_fits 138 = .ok (.invokevirtual 85, 3) := by decide +kernel
theorem dX5_fits_141 : decode cX5_fits 141 = .ok (.ifCond .eq 7, 3) := by decide +kernel
theorem dX5_fits_144 : decode cX5_fits 144 = .ok (.iconst 1, 1) := by decide +kernel
theorem dX5_fits_145 : decode cX5_fits 145 = .ok (.goto 4, 3) := by decide +kernel
theorem dX5_fits_148 : decode cX5_fits 148 = .ok (.iconst 0, 1) := by decide +kernel
theorem dX5_fits_149 : decode cX5_fits 149 = .ok (.ireturn, 1) := by decide +kernel
theorem dX5_out_0 : decode cX5_out 0 = .ok (.iload_n 0, 1) := by decide +kernel
theorem dX5_out_1 : decode cX5_out 1 = .ok (.ifCond .lt 8, 3) := by decide +kernel
theorem dX5_out_4 : decode cX5_out 4 = .ok (.iload_n 0, 1) := by decide +kernel
theorem dX5_out_5 : decode cX5_out 5 = .ok (.iload_n 1, 1) := by decide +kernel
theorem dX5_out_6 : decode cX5_out 6 = .ok (.if_icmp .lt 7, 3) := by decide +kernel
theorem dX5_out_9 : decode cX5_out 9 = .ok (.iconst 1, 1) := by decide +kernel
theorem dX5_out_10 : decode cX5_out 10 = .ok (.goto 4, 3) := by decide +kernel
theorem dX5_out_13 : decode cX5_out 13 = .ok (.iconst 0, 1) := by decide +kernel
theorem dX5_out_14 : decode cX5_out 14 = .ok (.ireturn, 1) := by decide +kernel
theorem dX5_isTruth_0 : decode cX5_isTruth 0 = .ok (.iload_n 1, 1) := by decide +kernel
theorem dX5_isTruth_1 : decode cX5_isTruth 1 = .ok (.aload_n 0, 1) := by decide +kernel
theorem dX5_isTruth_2 : decode cX5_isTruth 2 = .ok (.getfield 76, 3) := by decide +kernel
theorem dX5_isTruth_5 : decode cX5_isTruth 5 = .ok (.invokestatic 79, 3) := by decide +kernel
theorem dX5_isTruth_8 : decode cX5_isTruth 8 = .ok (.ifCond .ne 18, 3) := by decide +kernel
theorem dX5_isTruth_11 : decode cX5_isTruth 11 = .ok (.aload_n 0, 1) := by decide +kernel
theorem dX5_isTruth_12 : decode cX5_isTruth 12 = .ok (.getfield 7, 3) := by decide +kernel
theorem dX5_isTruth_15 : decode cX5_isTruth 15 = .ok (.iload_n 1, 1) := by decide +kernel
theorem dX5_isTruth_16 : decode cX5_isTruth 16 = .ok (.iaload, 1) := by decide +kernel
theorem dX5_isTruth_17 : decode cX5_isTruth 17 = .ok (.bipush 10, 2) := by decide +kernel
theorem dX5_isTruth_19 : decode cX5_isTruth 19 = .ok (.if_icmp .lt 7, 3) := by decide +kernel
theorem dX5_isTruth_22 : decode cX5_isTruth 22 = .ok (.iconst 1, 1) := by decide +kernel
theorem dX5_isTruth_23 : decode cX5_isTruth 23 = .ok (.goto 4, 3) := by decide +kernel
theorem dX5_isTruth_26 : decode cX5_isTruth 26 = .ok (.iconst 0, 1) := by decide +kernel
theorem dX5_isTruth_27 : decode cX5_isTruth 27 = .ok (.ireturn, 1) := by decide +kernel
theorem dX5_isNumber_0 : decode cX5_isNumber 0 = .ok (.iload_n 1, 1) := by decide +kernel
theorem dX5_isNumber_1 : decode cX5_isNumber 1 = .ok (.aload_n 0, 1) := by decide +kernel
theorem dX5_isNumber_2 : decode cX5_isNumber 2 = .ok (.getfield 76, 3) := by decide +kernel
theorem dX5_isNumber_5 : decode cX5_isNumber 5 = .ok (.invokestatic 79, 3) := by decide +kernel
theorem dX5_isNumber_8 : decode cX5_isNumber 8 = .ok (.ifCond .ne 18, 3) := by decide +kernel
theorem dX5_isNumber_11 : decode cX5_isNumber 11 = .ok (.aload_n 0, 1) := by decide +kernel
theorem dX5_isNumber_12 : decode cX5_isNumber 12 = .ok (.getfield 7, 3) := by decide +kernel
theorem dX5_isNumber_15 : decode cX5_isNumber 15 = .ok (.iload_n 1, 1) := by decide +kernel
theorem dX5_isNumber_16 : decode cX5_isNumber 16 = .ok (.iaload, 1) := by decide +kernel
theorem dX5_isNumber_17 : decode cX5_isNumber 17 = .ok (.bipush 10, 2) := by decide +kernel
theorem dX5_isNumber_19 : decode cX5_isNumber 19 = .ok (.if_icmp .ge 7, 3) := by decide +kernel
theorem dX5_isNumber_22 : decode cX5_isNumber 22 = .ok (.iconst 1, 1) := by decide +kernel
theorem dX5_isNumber_23 : decode cX5_isNumber 23 = .ok (.goto 4, 3) := by decide +kernel
theorem dX5_isNumber_26 : decode cX5_isNumber 26 = .ok (.iconst 0, 1) := by decide +kernel
theorem dX5_isNumber_27 : decode cX5_isNumber 27 = .ok (.ireturn, 1) := by decide +kernel
theorem dX5_names_0 : decode cX5_names 0 = .ok (.iload_n 0, 1) := by decide +kernel
theorem dX5_names_1 : decode cX5_names 1 = .ok (.bipush 9, 2) := by decide +kernel
theorem dX5_names_3 : decode cX5_names 3 = .ok (.if_icmp .ne 7, 3) := by decide +kernel
theorem dX5_names_6 : decode cX5_names 6 = .ok (.iconst 3, 1) := by decide +kernel
theorem dX5_names_7 : decode cX5_names 7 = .ok (.goto 25, 3) := by decide +kernel
theorem dX5_names_10 : decode cX5_names 10 = .ok (.iload_n 0, 1) := by decide +kernel
theorem dX5_names_11 : decode cX5_names 11 = .ok (.iconst 4, 1) := by decide +kernel
theorem dX5_names_12 : decode cX5_names 12 = .ok (.if_icmp .lt 15, 3) := by decide +kernel
theorem dX5_names_15 : decode cX5_names 15 = .ok (.iload_n 0, 1) := by decide +kernel
theorem dX5_names_16 : decode cX5_names 16 = .ok (.bipush 14, 2) := by decide +kernel
theorem dX5_names_18 : decode cX5_names 18 = .ok (.if_icmp .lt 13, 3) := by decide +kernel
theorem dX5_names_21 : decode cX5_names 21 = .ok (.iload_n 0, 1) := by decide +kernel
theorem dX5_names_22 : decode cX5_names 22 = .ok (.bipush 17, 2) := by decide +kernel
theorem dX5_names_24 : decode cX5_names 24 = .ok (.if_icmp .gt 7, 3) := by decide +kernel
theorem dX5_names_27 : decode cX5_names 27 = .ok (.iconst 1, 1) := by decide +kernel
theorem dX5_names_28 : decode cX5_names 28 = .ok (.goto 4, 3) := by decide +kernel
theorem dX5_names_31 : decode cX5_names 31 = .ok (.iconst 2, 1) := by decide +kernel
theorem dX5_names_32 : decode cX5_names 32 = .ok (.ireturn, 1) := by decide +kernel
theorem dX5_claim_0 : decode cX5_claim 0 = .ok (.aload_n 0, 1) := by decide +kernel
theorem dX5_claim_1 : decode cX5_claim 1 = .ok (.aload_n 0, 1) := by decide +kernel
theorem dX5_claim_2 : decode cX5_claim 2 = .ok (.iload_n 1, 1) := by decide +kernel
theorem dX5_claim_3 : decode cX5_claim 3 = .ok (.invokevirtual 82, 3) := by decide +kernel
theorem dX5_claim_6 : decode cX5_claim 6 = .ok (.ifCond .ne 7, 3) := by decide +kernel
theorem dX5_claim_9 : decode cX5_claim 9 = .ok (.iconst 1, 1) := by decide +kernel
theorem dX5_claim_10 : decode cX5_claim 10 = .ok (.goto 17, 3) := by decide +kernel
theorem dX5_claim_13 : decode cX5_claim 13 = .ok (.aload_n 0, 1) := by decide +kernel
theorem dX5_claim_14 : decode cX5_claim 14 = .ok (.getfield 99, 3) := by decide +kernel
theorem dX5_claim_17 : decode cX5_claim 17 = .ok (.bipush 20, 2) := by decide +kernel
theorem dX5_claim_19 : decode cX5_claim 19 = .ok (.if_icmp .ne 7, 3) := by decide +kernel
theorem dX5_claim_22 : decode cX5_claim 22 = .ok (.iconst 2, 1) := by decide +kernel
theorem dX5_claim_23 : decode cX5_claim 23 = .ok (.goto 4, 3) := by decide +kernel
theorem dX5_claim_26 : decode cX5_claim 26 = .ok (.iconst 0, 1) := by decide +kernel
theorem dX5_claim_27 : decode cX5_claim 27 = .ok (.putfield 34, 3) := by decide +kernel
theorem dX5_claim_30 : decode cX5_claim 30 = .ok (.aload_n 0, 1) := by decide +kernel
theorem dX5_claim_31 : decode cX5_claim 31 = .ok (.getfield 34, 3) := by decide +kernel
theorem dX5_claim_34 : decode cX5_claim 34 = .ok (.ifCond .le 5, 3) := by decide +kernel
theorem dX5_claim_37 : decode cX5_claim 37 = .ok (.iconst 0, 1) := by decide +kernel
theorem dX5_claim_38 : decode cX5_claim 38 = .ok (.ireturn, 1) := by decide +kernel
theorem dX5_claim_39 : decode cX5_claim 39 = .ok (.aload_n 0, 1) := by decide +kernel
theorem dX5_claim_40 : decode cX5_claim 40 = .ok (.getfield 22, 3) := by decide +kernel
theorem dX5_claim_43 : decode cX5_claim 43 = .ok (.aload_n 0, 1) := by decide +kernel
theorem dX5_claim_44 : decode cX5_claim 44 = .ok (.getfield 99, 3) := by decide +kernel
theorem dX5_claim_47 : decode cX5_claim 47 = .ok (.iload_n 1, 1) := by decide +kernel
theorem dX5_claim_48 : decode cX5_claim 48 = .ok (.iastore, 1) := by decide +kernel
theorem dX5_claim_49 : decode cX5_claim 49 = .ok (.aload_n 0, 1) := by decide +kernel
theorem dX5_claim_50 : decode cX5_claim 50 = .ok (.dup, 1) := by decide +kernel
theorem dX5_claim_51 : decode cX5_claim 51 = .ok (.getfield 99, 3) := by decide +kernel
theorem dX5_claim_54 : decode cX5_claim 54 = .ok (.iconst 1, 1) := by decide +kernel
theorem dX5_claim_55 : decode cX5_claim 55 = .ok (.iadd, 1) := by decide +kernel
theorem dX5_claim_56 : decode cX5_claim 56 = .ok (.putfield 99, 3) := by decide +kernel
theorem dX5_claim_59 : decode cX5_claim 59 = .ok (.aload_n 0, 1) := by decide +kernel
theorem dX5_claim_60 : decode cX5_claim 60 = .ok (.getfield 99, 3) := by decide +kernel
theorem dX5_claim_63 : decode cX5_claim 63 = .ok (.ireturn, 1) := by decide +kernel
theorem dX5_open_0 : decode cX5_open 0 = .ok (.aload_n 0, 1) := by decide +kernel
theorem dX5_open_1 : decode cX5_open 1 = .ok (.aload_n 0, 1) := by decide +kernel
theorem dX5_open_2 : decode cX5_open 2 = .ok (.getfield 102, 3) := by decide +kernel
theorem dX5_open_5 : decode cX5_open 5 = .ok (.iconst 5, 1) := by decide +kernel
theorem dX5_open_6 : decode cX5_open 6 = .ok (.if_icmp .ne 7, 3) := by decide +kernel
theorem dX5_open_9 : decode cX5_open 9 = .ok (.iconst 1, 1) := by decide +kernel
theorem dX5_open_10 : decode cX5_open 10 = .ok (.goto 4, 3) := by decide +kernel
theorem dX5_open_13 : decode cX5_open 13 = .ok (.iconst 0, 1) := by decide +kernel
theorem dX5_open_14 : decode cX5_open 14 = .ok (.putfield 34, 3) := by decide +kernel
theorem dX5_open_17 : decode cX5_open 17 = .ok (.aload_n 0, 1) := by decide +kernel
theorem dX5_open_18 : decode cX5_open 18 = .ok (.getfield 34, 3) := by decide +kernel
theorem dX5_open_21 : decode cX5_open 21 = .ok (.ifCond .le 5, 3) := by decide +kernel
theorem dX5_open_24 : decode cX5_open 24 = .ok (.iconst 0, 1) := by decide +kernel
theorem dX5_open_25 : decode cX5_open 25 = .ok (.ireturn, 1) := by decide +kernel
theorem dX5_open_26 : decode cX5_open 26 = .ok (.aload_n 0, 1) := by decide +kernel
theorem dX5_open_27 : decode cX5_open 27 = .ok (.dup, 1) := by decide +kernel
theorem dX5_open_28 : decode cX5_open 28 = .ok (.getfield 102, 3) := by decide +kernel
theorem dX5_open_31 : decode cX5_open 31 = .ok (.iconst 1, 1) := by decide +kernel
theorem dX5_open_32 : decode cX5_open 32 = .ok (.iadd, 1) := by decide +kernel
theorem dX5_open_33 : decode cX5_open 33 = .ok (.putfield 102, 3) := by decide +kernel
theorem dX5_open_36 : decode cX5_open 36 = .ok (.aload_n 0, 1) := by decide +kernel
theorem dX5_open_37 : decode cX5_open 37 = .ok (.getfield 25, 3) := by decide +kernel
theorem dX5_open_40 : decode cX5_open 40 = .ok (.aload_n 0, 1) := by decide +kernel
theorem dX5_open_41 : decode cX5_open 41 = .ok (.getfield 102, 3) := by decide +kernel
theorem dX5_open_44 : decode cX5_open 44 = .ok (.aload_n 0, 1) := by decide +kernel
theorem dX5_open_45 : decode cX5_open 45 = .ok (.getfield 99, 3) := by decide +kernel
theorem dX5_open_48 : decode cX5_open 48 = .ok (.iastore, 1) := by decide +kernel
theorem dX5_open_49 : decode cX5_open 49 = .ok (.aload_n 0, 1) := by decide +kernel
theorem dX5_open_50 : decode cX5_open 50 = .ok (.getfield 102, 3) := by decide +kernel
theorem dX5_open_53 : decode cX5_open 53 = .ok (.ireturn, 1) := by decide +kernel
theorem dX5_close_0 : decode cX5_close 0 = .ok (.aload_n 0, 1) := by decide +kernel
theorem dX5_close_1 : decode cX5_close 1 = .ok (.aload_n 0, 1) := by decide +kernel
theorem dX5_close_2 : decode cX5_close 2 = .ok (.getfield 102, 3) := by decide +kernel
theorem dX5_close_5 : decode cX5_close 5 = .ok (.ifCond .ne 7, 3) := by decide +kernel
theorem dX5_close_8 : decode cX5_close 8 = .ok (.iconst 1, 1) := by decide +kernel
theorem dX5_close_9 : decode cX5_close 9 = .ok (.goto 4, 3) := by decide +kernel
theorem dX5_close_12 : decode cX5_close 12 = .ok (.iconst 0, 1) := by decide +kernel
theorem dX5_close_13 : decode cX5_close 13 = .ok (.putfield 34, 3) := by decide +kernel
theorem dX5_close_16 : decode cX5_close 16 = .ok (.aload_n 0, 1) := by decide +kernel
theorem dX5_close_17 : decode cX5_close 17 = .ok (.getfield 34, 3) := by decide +kernel
theorem dX5_close_20 : decode cX5_close 20 = .ok (.ifCond .le 5, 3) := by decide +kernel
theorem dX5_close_23 : decode cX5_close 23 = .ok (.iconst 0, 1) := by decide +kernel
theorem dX5_close_24 : decode cX5_close 24 = .ok (.ireturn, 1) := by decide +kernel
theorem dX5_close_25 : decode cX5_close 25 = .ok (.aload_n 0, 1) := by decide +kernel
theorem dX5_close_26 : decode cX5_close 26 = .ok (.getfield 99, 3) := by decide +kernel
theorem dX5_close_29 : decode cX5_close 29 = .ok (.aload_n 0, 1) := by decide +kernel
theorem dX5_close_30 : decode cX5_close 30 = .ok (.getfield 25, 3) := by decide +kernel
theorem dX5_close_33 : decode cX5_close 33 = .ok (.aload_n 0, 1) := by decide +kernel
theorem dX5_close_34 : decode cX5_close 34 = .ok (.getfield 102, 3) := by decide +kernel
theorem dX5_close_37 : decode cX5_close 37 = .ok (.iaload, 1) := by decide +kernel
theorem dX5_close_38 : decode cX5_close 38 = .ok (.isub, 1) := by decide +kernel
theorem dX5_close_39 : decode cX5_close 39 = .ok (.istore_n 1, 1) := by decide +kernel
theorem dX5_close_40 : decode cX5_close 40 = .ok (.aload_n 0, 1) := by decide +kernel
theorem dX5_close_41 : decode cX5_close 41 = .ok (.aload_n 0, 1) := by decide +kernel
theorem dX5_close_42 : decode cX5_close 42 = .ok (.getfield 25, 3) := by decide +kernel
theorem dX5_close_45 : decode cX5_close 45 = .ok (.aload_n 0, 1) := by decide +kernel
theorem dX5_close_46 : decode cX5_close 46 = .ok (.getfield 102, 3) := by decide +kernel
theorem dX5_close_49 : decode cX5_close 49 = .ok (.iaload, 1) := by decide +kernel
theorem dX5_close_50 : decode cX5_close 50 = .ok (.putfield 99, 3) := by decide +kernel
theorem dX5_close_53 : decode cX5_close 53 = .ok (.aload_n 0, 1) := by decide +kernel
theorem dX5_close_54 : decode cX5_close 54 = .ok (.dup, 1) := by decide +kernel
theorem dX5_close_55 : decode cX5_close 55 = .ok (.getfield 102, 3) := by decide +kernel
theorem dX5_close_58 : decode cX5_close 58 = .ok (.iconst 1, 1) := by decide +kernel
theorem dX5_close_59 : decode cX5_close 59 = .ok (.isub, 1) := by decide +kernel
theorem dX5_close_60 : decode cX5_close 60 = .ok (.putfield 102, 3) := by decide +kernel
theorem dX5_close_63 : decode cX5_close 63 = .ok (.iload_n 1, 1) := by decide +kernel
theorem dX5_close_64 : decode cX5_close 64 = .ok (.ireturn, 1) := by decide +kernel
theorem dX5_check_0 : decode cX5_check 0 = .ok (.aload_n 0, 1) := by decide +kernel
theorem dX5_check_1 : decode cX5_check 1 = .ok (.iconst 0, 1) := by decide +kernel
theorem dX5_check_2 : decode cX5_check 2 = .ok (.putfield 34, 3) := by decide +kernel
theorem dX5_check_5 : decode cX5_check 5 = .ok (.aload_n 0, 1) := by decide +kernel
theorem dX5_check_6 : decode cX5_check 6 = .ok (.dup, 1) := by decide +kernel
theorem dX5_check_7 : decode cX5_check 7 = .ok (.getfield 105, 3) := by decide +kernel
theorem dX5_check_10 : decode cX5_check 10 = .ok (.iconst 1, 1) := by decide +kernel
theorem dX5_check_11 : decode cX5_check 11 = .ok (.iadd, 1) := by decide +kernel
theorem dX5_check_12 : decode cX5_check 12 = .ok (.putfield 105, 3) := by decide +kernel
theorem dX5_check_15 : decode cX5_check 15 = .ok (.aload_n 0, 1) := by decide +kernel
theorem dX5_check_16 : decode cX5_check 16 = .ok (.iconst 0, 1) := by decide +kernel
theorem dX5_check_17 : decode cX5_check 17 = .ok (.putfield 108, 3) := by decide +kernel
theorem dX5_check_20 : decode cX5_check 20 = .ok (.iconst 0, 1) := by decide +kernel
theorem dX5_check_21 : decode cX5_check 21 = .ok (.istore_n 1, 1) := by decide +kernel
theorem dX5_check_22 : decode cX5_check 22 = .ok (.iload_n 1, 1) := by decide +kernel
theorem dX5_check_23 : decode cX5_check 23 = .ok (.sipush 1024, 3) := by decide +kernel
theorem dX5_check_26 : decode cX5_check 26 = .ok (.if_icmp .ge 56, 3) := by decide +kernel
theorem dX5_check_29 : decode cX5_check 29 = .ok (.aload_n 0, 1) := by decide +kernel
theorem dX5_check_30 : decode cX5_check 30 = .ok (.getfield 108, 3) := by decide +kernel
theorem dX5_check_33 : decode cX5_check 33 = .ok (.ifCond .ne 49, 3) := by decide +kernel
theorem dX5_check_36 : decode cX5_check 36 = .ok (.aload_n 0, 1) := by decide +kernel
theorem dX5_check_37 : decode cX5_check 37 = .ok (.iload_n 1, 1) := by decide +kernel
theorem dX5_check_38 : decode cX5_check 38 = .ok (.bipush 32, 2) := by decide +kernel
theorem dX5_check_40 : decode cX5_check 40 = .ok (.idiv, 1) := by decide +kernel
theorem dX5_check_41 : decode cX5_check 41 = .ok (.iload_n 1, 1) := by decide +kernel
theorem dX5_check_42 : decode cX5_check 42 = .ok (.bipush 32, 2) := by decide +kernel
theorem dX5_check_44 : decode cX5_check 44 = .ok (.irem, 1) := by decide +kernel
theorem dX5_check_45 : decode cX5_check 45 = .ok (.invokevirtual 112, 3) := by decide +kernel
theorem dX5_check_48 : decode cX5_check 48 = .ok (.aload_n 0, 1) := by decide +kernel
theorem dX5_check_49 : decode cX5_check 49 = .ok (.aload_n 0, 1) := by decide +kernel
theorem dX5_check_50 : decode cX5_check 50 = .ok (.invokevirtual 116, 3) := by decide +kernel
theorem dX5_check_53 : decode cX5_check 53 = .ok (.putfield 108, 3) := by decide +kernel
theorem dX5_check_56 : decode cX5_check 56 = .ok (.aload_n 0, 1) := by decide +kernel
theorem dX5_check_57 : decode cX5_check 57 = .ok (.getfield 28, 3) := by decide +kernel
theorem dX5_check_60 : decode cX5_check 60 = .ok (.iconst 0, 1) := by decide +kernel
theorem dX5_check_61 : decode cX5_check 61 = .ok (.iload_n 1, 1) := by decide +kernel
theorem dX5_check_62 : decode cX5_check 62 = .ok (.bipush 32, 2) := by decide +kernel
theorem dX5_check_64 : decode cX5_check 64 = .ok (.idiv, 1) := by decide +kernel
theorem dX5_check_65 : decode cX5_check 65 = .ok (.iastore, 1) := by decide +kernel
theorem dX5_check_66 : decode cX5_check 66 = .ok (.aload_n 0, 1) := by decide +kernel
theorem dX5_check_67 : decode cX5_check 67 = .ok (.getfield 28, 3) := by decide +kernel
theorem dX5_check_70 : decode cX5_check 70 = .ok (.iconst 1, 1) := by decide +kernel
theorem dX5_check_71 : decode cX5_check 71 = .ok (.iload_n 1, 1) := by decide +kernel
theorem dX5_check_72 : decode cX5_check 72 = .ok (.bipush 32, 2) := by decide +kernel
theorem dX5_check_74 : decode cX5_check 74 = .ok (.irem, 1) := by decide +kernel
theorem dX5_check_75 : decode cX5_check 75 = .ok (.iastore, 1) := by decide +kernel
theorem dX5_check_76 : decode cX5_check 76 = .ok (.iinc 1 1, 3) := by decide +kernel
theorem dX5_check_79 : decode cX5_check 79 = .ok (.goto (-57), 3) := by decide +kernel
theorem dX5_check_82 : decode cX5_check 82 = .ok (.aload_n 0, 1) := by decide +kernel
theorem dX5_check_83 : decode cX5_check 83 = .ok (.getfield 108, 3) := by decide +kernel
theorem dX5_check_86 : decode cX5_check 86 = .ok (.ireturn, 1) := by decide +kernel
theorem dX5_reckonAll_0 : decode cX5_reckonAll 0 = .ok (.iconst 0, 1) := by decide +kernel
theorem dX5_reckonAll_1 : decode cX5_reckonAll 1 = .ok (.istore_n 3, 1) := by decide +kernel
theorem dX5_reckonAll_2 : decode cX5_reckonAll 2 = .ok (.iload_n 3, 1) := by decide +kernel
theorem dX5_reckonAll_3 : decode cX5_reckonAll 3 = .ok (.aload_n 0, 1) := by decide +kernel
theorem dX5_reckonAll_4 : decode cX5_reckonAll 4 = .ok (.getfield 76, 3) := by decide +kernel
theorem dX5_reckonAll_7 : decode cX5_reckonAll 7 = .ok (.if_icmp .ge 160, 3) := by decide +kernel
theorem dX5_reckonAll_10 : decode cX5_reckonAll 10 = .ok (.aload_n 0, 1) := by decide +kernel
theorem dX5_reckonAll_11 : decode cX5_reckonAll 11 = .ok (.getfield 7, 3) := by decide +kernel
theorem dX5_reckonAll_14 : decode cX5_reckonAll 14 = .ok (.iload_n 3, 1) := by decide +kernel
theorem dX5_reckonAll_15 : decode cX5_reckonAll 15 = .ok (.iaload, 1) := by decide +kernel
theorem dX5_reckonAll_16 : decode cX5_reckonAll 16 = .ok (.istore 4, 2) := by decide +kernel
theorem dX5_reckonAll_18 : decode cX5_reckonAll 18 = .ok (.aload_n 0, 1) := by decide +kernel
theorem dX5_reckonAll_19 : decode cX5_reckonAll 19 = .ok (.getfield 13, 3) := by decide +kernel
theorem dX5_reckonAll_22 : decode cX5_reckonAll 22 = .ok (.iload_n 3, 1) := by decide +kernel
theorem dX5_reckonAll_23 : decode cX5_reckonAll 23 = .ok (.iaload, 1) := by decide +kernel
theorem dX5_reckonAll_24 : decode cX5_reckonAll 24 = .ok (.istore 5, 2) := by decide +kernel
theorem dX5_reckonAll_26 : decode cX5_reckonAll 26 = .ok (.iload 4, 2) := by decide +kernel
theorem dX5_reckonAll_28 : decode cX5_reckonAll 28 = .ok (.ifCond .ne 22, 3) := by decide +kernel
theorem dX5_reckonAll_31 : decode cX5_reckonAll 31 = .ok (.aload_n 0, 1) := by decide +kernel
theorem dX5_reckonAll_32 : decode cX5_reckonAll 32 = .ok (.getfield 31, 3) := by decide +kernel
theorem dX5_reckonAll_35 : decode cX5_reckonAll 35 = .ok (.iload_n 3, 1) := by decide +kernel
theorem dX5_reckonAll_36 : decode cX5_reckonAll 36 = .ok (.iload 5, 2) := by decide +kernel
theorem dX5_reckonAll_38 : decode cX5_reckonAll 38 = .ok (.ifCond .ne 7, 3) := by decide +kernel
theorem dX5_reckonAll_41 : decode cX5_reckonAll 41 = .ok (.iload_n 1, 1) := by decide +kernel
theorem dX5_reckonAll_42 : decode cX5_reckonAll 42 = .ok (.goto 4, 3) := by decide +kernel
theorem dX5_reckonAll_45 : decode cX5_reckonAll 45 = .ok (.iload_n 2, 1) := by decide +kernel
theorem dX5_reckonAll_46 : decode cX5_reckonAll 46 = .ok (.iastore, 1) := by decide +kernel
theorem dX5_reckonAll_47 : decode cX5_reckonAll 47 = .ok (.goto 114, 3) := by decide +kernel
theorem dX5_reckonAll_50 : decode cX5_reckonAll 50 = .ok (.iload 4, 2) := by decide +kernel
theorem dX5_reckonAll_52 : decode cX5_reckonAll 52 = .ok (.iconst 1, 1) := by decide +kernel
theorem dX5_reckonAll_53 : decode cX5_reckonAll 53 = .ok (.if_icmp .ne 14, 3) := by decide +kernel
theorem dX5_reckonAll_56 : decode cX5_reckonAll 56 = .ok (.aload_n 0, 1) := by decide +kernel
theorem dX5_reckonAll_57 : decode cX5_reckonAll 57 = .ok (.getfield 31, 3) := by decide +kernel
theorem dX5_reckonAll_60 : decode cX5_reckonAll 60 = .ok (.iload_n 3, 1) := by decide +kernel
theorem dX5_reckonAll_61 : decode cX5_reckonAll 61 = .ok (.iload 5, 2) := by decide +kernel
theorem dX5_reckonAll_63 : decode cX5_reckonAll 63 = .ok (.iastore, 1) := by decide +kernel
theorem dX5_reckonAll_64 : decode cX5_reckonAll 64 = .ok (.goto 97, 3) := by decide +kernel
theorem dX5_reckonAll_67 : decode cX5_reckonAll 67 = .ok (.iload 4, 2) := by decide +kernel
theorem dX5_reckonAll_69 : decode cX5_reckonAll 69 = .ok (.bipush 9, 2) := by decide +kernel
theorem dX5_reckonAll_71 : decode cX5_reckonAll 71 = .ok (.if_icmp .ne 48, 3) := by decide +kernel
theorem dX5_reckonAll_74 : decode cX5_reckonAll 74 = .ok (.aload_n 0, 1) := by decide +kernel
theorem dX5_reckonAll_75 : decode cX5_reckonAll 75 = .ok (.getfield 31, 3) := by decide +kernel
theorem dX5_reckonAll_78 : decode cX5_reckonAll 78 = .ok (.iload_n 3, 1) := by decide +kernel
theorem dX5_reckonAll_79 : decode cX5_reckonAll 79 = .ok (.aload_n 0, 1) := by decide +kernel
theorem dX5_reckonAll_80 : decode cX5_reckonAll 80 = .ok (.getfield 31, 3) := by decide +kernel
theorem dX5_reckonAll_83 : decode cX5_reckonAll 83 = .ok (.iload 5, 2) := by decide +kernel
theorem dX5_reckonAll_85 : decode cX5_reckonAll 85 = .ok (.iaload, 1) := by decide +kernel
theorem dX5_reckonAll_86 : decode cX5_reckonAll 86 = .ok (.iconst 1, 1) := by decide +kernel
theorem dX5_reckonAll_87 : decode cX5_reckonAll 87 = .ok (.if_icmp .ne 17, 3) := by decide +kernel
theorem dX5_reckonAll_90 : decode cX5_reckonAll 90 = .ok (.aload_n 0, 1) := by decide +kernel
theorem dX5_reckonAll_91 : decode cX5_reckonAll 91 = .ok (.getfield 31, 3) := by decide +kernel
theorem dX5_reckonAll_94 : decode cX5_reckonAll 94 = .ok (.aload_n 0, 1) := by decide +kernel
theorem dX5_reckonAll_95 : decode cX5_reckonAll 95 = .ok (.getfield 16, 3) := by decide +kernel
theorem dX5_reckonAll_98 : decode cX5_reckonAll 98 = .ok (.iload_n 3, 1) := by decide +kernel
theorem dX5_reckonAll_99 : decode cX5_reckonAll 99 = .ok (.iaload, 1) := by decide +kernel
theorem dX5_reckonAll_100 : decode cX5_reckonAll 100 = .ok (.iaload, 1) := by decide +kernel
theorem dX5_reckonAll_101 : decode cX5_reckonAll 101 = .ok (.goto 14, 3) := by decide +kernel
theorem dX5_reckonAll_104 : decode cX5_reckonAll 104 = .ok (.aload_n 0, 1) := by decide +kernel
theorem dX5_reckonAll_105 : decode cX5_reckonAll 105 = .ok (.getfield 31, 3) := by decide +kernel
theorem dX5_reckonAll_108 : decode cX5_reckonAll 108 = .ok (.aload_n 0, 1) := by decide +kernel
theorem dX5_reckonAll_109 : decode cX5_reckonAll 109 = .ok (.getfield 19, 3) := by decide +kernel
theorem dX5_reckonAll_112 : decode cX5_reckonAll 112 = .ok (.iload_n 3, 1) := by decide +kernel
theorem dX5_reckonAll_113 : decode cX5_reckonAll 113 = .ok (.iaload, 1) := by decide +kernel
theorem dX5_reckonAll_114 : decode cX5_reckonAll 114 = .ok (.iaload, 1) := by decide +kernel
theorem dX5_reckonAll_115 : decode cX5_reckonAll 115 = .ok (.iastore, 1) := by decide +kernel
theorem dX5_reckonAll_116 : decode cX5_reckonAll 116 = .ok (.goto 45, 3) := by decide +kernel
theorem dX5_reckonAll_119 : decode cX5_reckonAll 119 = .ok (.aload_n 0, 1) := by decide +kernel
theorem dX5_reckonAll_120 : decode cX5_reckonAll 120 = .ok (.getfield 31, 3) := by decide +kernel
theorem dX5_reckonAll_123 : decode cX5_reckonAll 123 = .ok (.iload_n 3, 1) := by decide +kernel
theorem dX5_reckonAll_124 : decode cX5_reckonAll 124 = .ok (.iload 4, 2) := by decide +kernel
theorem dX5_reckonAll_126 : decode cX5_reckonAll 126 = .ok (.aload_n 0, 1) := by decide +kernel
theorem dX5_reckonAll_127 : decode cX5_reckonAll 127 = .ok (.getfield 31, 3) := by decide +kernel
theorem dX5_reckonAll_130 : decode cX5_reckonAll 130 = .ok (.iload 5, 2) := by decide +kernel
theorem dX5_reckonAll_132 : decode cX5_reckonAll 132 = .ok (.iaload, 1) := by decide +kernel
theorem dX5_reckonAll_133 : decode cX5_reckonAll 133 = .ok (.iload 4, 2) := by decide +kernel
theorem dX5_reckonAll_135 : decode cX5_reckonAll 135 = .ok (.invokestatic 88, 3) := by decide +kernel
theorem dX5_reckonAll_138 : decode cX5_reckonAll 138 = .ok (.iconst 2, 1) := by decide +kernel
theorem dX5_reckonAll_139 : decode cX5_reckonAll 139 = .ok (.if_icmp .ne 17, 3) := by decide +kernel
theorem dX5_reckonAll_142 : decode cX5_reckonAll 142 = .ok (.aload_n 0, 1) := by decide +kernel
theorem dX5_reckonAll_143 : decode cX5_reckonAll 143 = .ok (.getfield 31, 3) := by decide +kernel
theorem dX5_reckonAll_146 : decode cX5_reckonAll 146 = .ok (.aload_n 0, 1) := by decide +kernel
theorem dX5_reckonAll_147 : decode cX5_reckonAll 147 = .ok (.getfield 16, 3) := by decide +kernel
theorem dX5_reckonAll_150 : decode cX5_reckonAll 150 = .ok (.iload_n 3, 1) := by decide +kernel
theorem dX5_reckonAll_151 : decode cX5_reckonAll 151 = .ok (.iaload, 1) := by decide +kernel
theorem dX5_reckonAll_152 : decode cX5_reckonAll 152 = .ok (.iaload, 1) := by decide +kernel
theorem dX5_reckonAll_153 : decode cX5_reckonAll 153 = .ok (.goto 4, 3) := by decide +kernel
theorem dX5_reckonAll_156 : decode cX5_reckonAll 156 = .ok (.iconst 0, 1) := by decide +kernel
theorem dX5_reckonAll_157 : decode cX5_reckonAll 157 = .ok (.invokestatic 95, 3) := by decide +kernel
theorem dX5_reckonAll_160 : decode cX5_reckonAll 160 = .ok (.iastore, 1) := by decide +kernel
theorem dX5_reckonAll_161 : decode cX5_reckonAll 161 = .ok (.iinc 3 1, 3) := by decide +kernel
theorem dX5_reckonAll_164 : decode cX5_reckonAll 164 = .ok (.goto (-162), 3) := by decide +kernel
theorem dX5_reckonAll_167 : decode cX5_reckonAll 167 = .ok (.return_, 1) := by decide +kernel
theorem dX5_operate_0 : decode cX5_operate 0 = .ok (.iload_n 0, 1) := by decide +kernel
theorem dX5_operate_1 : decode cX5_operate 1 = .ok (.tableswitch 259 2 18 #[83, 88, 93, 99, 108, 114, 135, 259, 156, 184, 193, 202, 227, 235, 243, 251, 255], 83) := by decide +kernel
theorem dX5_operate_84 : decode cX5_operate 84 = .ok (.iload_n 1, 1) := by decide +kernel
theorem dX5_operate_85 : decode cX5_operate 85 = .ok (.bipush 16, 2) := by decide +kernel
theorem dX5_operate_87 : decode cX5_operate 87 = .ok (.ixor, 1) := by decide +kernel
theorem dX5_operate_88 : decode cX5_operate 88 = .ok (.ireturn, 1) := by decide +kernel
theorem dX5_operate_89 : decode cX5_operate 89 = .ok (.iload_n 1, 1) := by decide +kernel
theorem dX5_operate_90 : decode cX5_operate 90 = .ok (.bipush 15, 2) := by decide +kernel
theorem dX5_operate_92 : decode cX5_operate 92 = .ok (.iand, 1) := by decide +kernel
theorem dX5_operate_93 : decode cX5_operate 93 = .ok (.ireturn, 1) := by decide +kernel
theorem dX5_operate_94 : decode cX5_operate 94 = .ok (.iload_n 1, 1) := by decide +kernel
theorem dX5_operate_95 : decode cX5_operate 95 = .ok (.iload_n 2, 1) := by decide +kernel
theorem dX5_operate_96 : decode cX5_operate 96 = .ok (.invokestatic 58, 3) := by decide +kernel
theorem dX5_operate_99 : decode cX5_operate 99 = .ok (.ireturn, 1) := by decide +kernel
theorem dX5_operate_100 : decode cX5_operate 100 = .ok (.iload_n 1, 1) := by decide +kernel
theorem dX5_operate_101 : decode cX5_operate 101 = .ok (.iload_n 2, 1) := by decide +kernel
theorem dX5_operate_102 : decode cX5_operate 102 = .ok (.bipush 16, 2) := by decide +kernel
theorem dX5_operate_104 : decode cX5_operate 104 = .ok (.ixor, 1) := by decide +kernel
theorem dX5_operate_105 : decode cX5_operate 105 = .ok (.invokestatic 58, 3) := by decide +kernel
theorem dX5_operate_108 : decode cX5_operate 108 = .ok (.ireturn, 1) := by decide +kernel
theorem dX5_operate_109 : decode cX5_operate 109 = .ok (.iload_n 1, 1) := by decide +kernel
theorem dX5_operate_110 : decode cX5_operate 110 = .ok (.iload_n 2, 1) := by decide +kernel
theorem dX5_operate_111 : decode cX5_operate 111 = .ok (.invokestatic 62, 3) := by decide +kernel
theorem dX5_operate_114 : decode cX5_operate 114 = .ok (.ireturn, 1) := by decide +kernel
theorem dX5_operate_115 : decode cX5_operate 115 = .ok (.iload_n 1, 1) := by decide +kernel
theorem dX5_operate_116 : decode cX5_operate 116 = .ok (.invokestatic 46, 3) := by decide +kernel
theorem dX5_operate_119 : decode cX5_operate 119 = .ok (.ifCond .ne 11, 3) := by decide +kernel
theorem dX5_operate_122 : decode cX5_operate 122 = .ok (.iload_n 2, 1) := by decide +kernel
theorem dX5_operate_123 : decode cX5_operate 123 = .ok (.iload_n 1, 1) := by decide +kernel
theorem dX5_operate_124 : decode cX5_operate 124 = .ok (.invokestatic 65, 3) := by decide +kernel
theorem dX5_operate_127 : decode cX5_operate 127 = .ok (.ifCond .eq 7, 3) := by decide +kernel
theorem dX5_operate_130 : decode cX5_operate 130 = .ok (.iload_n 2, 1) := by decide +kernel
theorem dX5_operate_131 : decode cX5_operate 131 = .ok (.goto 4, 3) := by decide +kernel
theorem dX5_operate_134 : decode cX5_operate 134 = .ok (.iload_n 1, 1) := by decide +kernel
theorem dX5_operate_135 : decode cX5_operate 135 = .ok (.ireturn, 1) := by decide +kernel
theorem dX5_operate_136 : decode cX5_operate 136 = .ok (.iload_n 1, 1) := by decide +kernel
theorem dX5_operate_137 : decode cX5_operate 137 = .ok (.invokestatic 46, 3) := by decide +kernel
theorem dX5_operate_140 : decode cX5_operate 140 = .ok (.ifCond .ne 11, 3) := by decide +kernel
theorem dX5_operate_143 : decode cX5_operate 143 = .ok (.iload_n 1, 1) := by decide +kernel
theorem dX5_operate_144 : decode cX5_operate 144 = .ok (.iload_n 2, 1) := by decide +kernel
theorem dX5_operate_145 : decode cX5_operate 145 = .ok (.invokestatic 65, 3) := by decide +kernel
theorem dX5_operate_148 : decode cX5_operate 148 = .ok (.ifCond .eq 7, 3) := by decide +kernel
theorem dX5_operate_151 : decode cX5_operate 151 = .ok (.iload_n 2, 1) := by decide +kernel
theorem dX5_operate_152 : decode cX5_operate 152 = .ok (.goto 4, 3) := by decide +kernel
theorem dX5_operate_155 : decode cX5_operate 155 = .ok (.iload_n 1, 1) := by decide +kernel
theorem dX5_operate_156 : decode cX5_operate 156 = .ok (.ireturn, 1) := by decide +kernel
theorem dX5_operate_157 : decode cX5_operate 157 = .ok (.iload_n 1, 1) := by decide +kernel
theorem dX5_operate_158 : decode cX5_operate 158 = .ok (.iload_n 2, 1) := by decide +kernel
theorem dX5_operate_159 : decode cX5_operate 159 = .ok (.if_icmp .eq 17, 3) := by decide +kernel
theorem dX5_operate_162 : decode cX5_operate 162 = .ok (.iload_n 1, 1) := by decide +kernel
theorem dX5_operate_163 : decode cX5_operate 163 = .ok (.invokestatic 46, 3) := by decide +kernel
theorem dX5_operate_166 : decode cX5_operate 166 = .ok (.ifCond .eq 14, 3) := by decide +kernel
theorem dX5_operate_169 : decode cX5_operate 169 = .ok (.iload_n 2, 1) := by decide +kernel
theorem dX5_operate_170 : decode cX5_operate 170 = .ok (.invokestatic 46, 3) := by decide +kernel
theorem dX5_operate_173 : decode cX5_operate 173 = .ok (.ifCond .eq 7, 3) := by decide +kernel
theorem dX5_operate_176 : decode cX5_operate 176 = .ok (.iconst 1, 1) := by decide +kernel
theorem dX5_operate_177 : decode cX5_operate 177 = .ok (.goto 4, 3) := by decide +kernel
theorem dX5_operate_180 : decode cX5_operate 180 = .ok (.iconst 0, 1) := by decide +kernel
theorem dX5_operate_181 : decode cX5_operate 181 = .ok (.invokestatic 69, 3) := by decide +kernel
theorem dX5_operate_184 : decode cX5_operate 184 = .ok (.ireturn, 1) := by decide +kernel
theorem dX5_operate_185 : decode cX5_operate 185 = .ok (.iload_n 1, 1) := by decide +kernel
theorem dX5_operate_186 : decode cX5_operate 186 = .ok (.iload_n 2, 1) := by decide +kernel
theorem dX5_operate_187 : decode cX5_operate 187 = .ok (.invokestatic 73, 3) := by decide +kernel
theorem dX5_operate_190 : decode cX5_operate 190 = .ok (.invokestatic 69, 3) := by decide +kernel
theorem dX5_operate_193 : decode cX5_operate 193 = .ok (.ireturn, 1) := by decide +kernel
theorem dX5_operate_194 : decode cX5_operate 194 = .ok (.iload_n 1, 1) := by decide +kernel
theorem dX5_operate_195 : decode cX5_operate 195 = .ok (.iload_n 2, 1) := by decide +kernel
theorem dX5_operate_196 : decode cX5_operate 196 = .ok (.invokestatic 65, 3) := by decide +kernel
theorem dX5_operate_199 : decode cX5_operate 199 = .ok (.invokestatic 69, 3) := by decide +kernel
theorem dX5_operate_202 : decode cX5_operate 202 = .ok (.ireturn, 1) := by decide +kernel
theorem dX5_operate_203 : decode cX5_operate 203 = .ok (.iload_n 1, 1) := by decide +kernel
theorem dX5_operate_204 : decode cX5_operate 204 = .ok (.iload_n 2, 1) := by decide +kernel
theorem dX5_operate_205 : decode cX5_operate 205 = .ok (.invokestatic 65, 3) := by decide +kernel
theorem dX5_operate_208 : decode cX5_operate 208 = .ok (.ifCond .ne 11, 3) := by decide +kernel
theorem dX5_operate_211 : decode cX5_operate 211 = .ok (.iload_n 1, 1) := by decide +kernel
theorem dX5_operate_212 : decode cX5_operate 212 = .ok (.iload_n 2, 1) := by decide +kernel
theorem dX5_operate_213 : decode cX5_operate 213 = .ok (.invokestatic 73, 3) := by decide +kernel
theorem dX5_operate_216 : decode cX5_operate 216 = .ok (.ifCond .eq 7, 3) := by decide +kernel
theorem dX5_operate_219 : decode cX5_operate 219 = .ok (.iconst 1, 1) := by decide +kernel
theorem dX5_operate_220 : decode cX5_operate 220 = .ok (.goto 4, 3) := by decide +kernel
theorem dX5_operate_223 : decode cX5_operate 223 = .ok (.iconst 0, 1) := by decide +kernel
theorem dX5_operate_224 : decode cX5_operate 224 = .ok (.invokestatic 69, 3) := by decide +kernel
theorem dX5_operate_227 : decode cX5_operate 227 = .ok (.ireturn, 1) := by decide +kernel
theorem dX5_operate_228 : decode cX5_operate 228 = .ok (.iload_n 1, 1) := by decide +kernel
theorem dX5_operate_229 : decode cX5_operate 229 = .ok (.invokestatic 46, 3) := by decide +kernel
theorem dX5_operate_232 : decode cX5_operate 232 = .ok (.invokestatic 69, 3) := by decide +kernel
theorem dX5_operate_235 : decode cX5_operate 235 = .ok (.ireturn, 1) := by decide +kernel
theorem dX5_operate_236 : decode cX5_operate 236 = .ok (.iload_n 1, 1) := by decide +kernel
theorem dX5_operate_237 : decode cX5_operate 237 = .ok (.invokestatic 38, 3) := by decide +kernel
theorem dX5_operate_240 : decode cX5_operate 240 = .ok (.invokestatic 69, 3) := by decide +kernel
theorem dX5_operate_243 : decode cX5_operate 243 = .ok (.ireturn, 1) := by decide +kernel
theorem dX5_operate_244 : decode cX5_operate 244 = .ok (.iload_n 1, 1) := by decide +kernel
theorem dX5_operate_245 : decode cX5_operate 245 = .ok (.invokestatic 55, 3) := by decide +kernel
theorem dX5_operate_248 : decode cX5_operate 248 = .ok (.invokestatic 69, 3) := by decide +kernel
theorem dX5_operate_251 : decode cX5_operate 251 = .ok (.ireturn, 1) := by decide +kernel
theorem dX5_operate_252 : decode cX5_operate 252 = .ok (.iconst 1, 1) := by decide +kernel
theorem dX5_operate_253 : decode cX5_operate 253 = .ok (.iload_n 1, 1) := by decide +kernel
theorem dX5_operate_254 : decode cX5_operate 254 = .ok (.isub, 1) := by decide +kernel
theorem dX5_operate_255 : decode cX5_operate 255 = .ok (.ireturn, 1) := by decide +kernel
theorem dX5_operate_256 : decode cX5_operate 256 = .ok (.iload_n 1, 1) := by decide +kernel
theorem dX5_operate_257 : decode cX5_operate 257 = .ok (.iload_n 2, 1) := by decide +kernel
theorem dX5_operate_258 : decode cX5_operate 258 = .ok (.imul, 1) := by decide +kernel
theorem dX5_operate_259 : decode cX5_operate 259 = .ok (.ireturn, 1) := by decide +kernel
theorem dX5_operate_260 : decode cX5_operate 260 = .ok (.iload_n 1, 1) := by decide +kernel
theorem dX5_operate_261 : decode cX5_operate 261 = .ok (.iload_n 2, 1) := by decide +kernel
theorem dX5_operate_262 : decode cX5_operate 262 = .ok (.iadd, 1) := by decide +kernel
theorem dX5_operate_263 : decode cX5_operate 263 = .ok (.ifCond .le 7, 3) := by decide +kernel
theorem dX5_operate_266 : decode cX5_operate 266 = .ok (.iconst 1, 1) := by decide +kernel
theorem dX5_operate_267 : decode cX5_operate 267 = .ok (.goto 4, 3) := by decide +kernel
theorem dX5_operate_270 : decode cX5_operate 270 = .ok (.iconst 0, 1) := by decide +kernel
theorem dX5_operate_271 : decode cX5_operate 271 = .ok (.invokestatic 69, 3) := by decide +kernel
theorem dX5_operate_274 : decode cX5_operate 274 = .ok (.ireturn, 1) := by decide +kernel
theorem dX5_add_0 : decode cX5_add 0 = .ok (.iload_n 0, 1) := by decide +kernel
theorem dX5_add_1 : decode cX5_add 1 = .ok (.invokestatic 46, 3) := by decide +kernel
theorem dX5_add_4 : decode cX5_add 4 = .ok (.ifCond .ne 29, 3) := by decide +kernel
theorem dX5_add_7 : decode cX5_add 7 = .ok (.iload_n 1, 1) := by decide +kernel
theorem dX5_add_8 : decode cX5_add 8 = .ok (.invokestatic 46, 3) := by decide +kernel
theorem dX5_add_11 : decode cX5_add 11 = .ok (.ifCond .ne 22, 3) := by decide +kernel
theorem dX5_add_14 : decode cX5_add 14 = .ok (.iload_n 0, 1) := by decide +kernel
theorem dX5_add_15 : decode cX5_add 15 = .ok (.invokestatic 38, 3) := by decide +kernel
theorem dX5_add_18 : decode cX5_add 18 = .ok (.ifCond .eq 18, 3) := by decide +kernel
theorem dX5_add_21 : decode cX5_add 21 = .ok (.iload_n 1, 1) := by decide +kernel
theorem dX5_add_22 : decode cX5_add 22 = .ok (.invokestatic 38, 3) := by decide +kernel
theorem dX5_add_25 : decode cX5_add 25 = .ok (.ifCond .eq 11, 3) := by decide +kernel
theorem dX5_add_28 : decode cX5_add 28 = .ok (.iload_n 0, 1) := by decide +kernel
theorem dX5_add_29 : decode cX5_add 29 = .ok (.iload_n 1, 1) := by decide +kernel
theorem dX5_add_30 : decode cX5_add 30 = .ok (.if_icmp .eq 6, 3) := by decide +kernel
theorem dX5_add_33 : decode cX5_add 33 = .ok (.bipush 13, 2) := by decide +kernel
theorem dX5_add_35 : decode cX5_add 35 = .ok (.ireturn, 1) := by decide +kernel
theorem dX5_add_36 : decode cX5_add 36 = .ok (.iload_n 0, 1) := by decide +kernel
theorem dX5_add_37 : decode cX5_add 37 = .ok (.invokestatic 38, 3) := by decide +kernel
theorem dX5_add_40 : decode cX5_add 40 = .ok (.ifCond .eq 5, 3) := by decide +kernel
theorem dX5_add_43 : decode cX5_add 43 = .ok (.iload_n 0, 1) := by decide +kernel
theorem dX5_add_44 : decode cX5_add 44 = .ok (.ireturn, 1) := by decide +kernel
theorem dX5_add_45 : decode cX5_add 45 = .ok (.iload_n 1, 1) := by decide +kernel
theorem dX5_add_46 : decode cX5_add 46 = .ok (.invokestatic 38, 3) := by decide +kernel
theorem dX5_add_49 : decode cX5_add 49 = .ok (.ifCond .eq 5, 3) := by decide +kernel
theorem dX5_add_52 : decode cX5_add 52 = .ok (.iload_n 1, 1) := by decide +kernel
theorem dX5_add_53 : decode cX5_add 53 = .ok (.ireturn, 1) := by decide +kernel
theorem dX5_add_54 : decode cX5_add 54 = .ok (.iload_n 0, 1) := by decide +kernel
theorem dX5_add_55 : decode cX5_add 55 = .ok (.invokestatic 49, 3) := by decide +kernel
theorem dX5_add_58 : decode cX5_add 58 = .ok (.iload_n 1, 1) := by decide +kernel
theorem dX5_add_59 : decode cX5_add 59 = .ok (.invokestatic 49, 3) := by decide +kernel
theorem dX5_add_62 : decode cX5_add 62 = .ok (.iadd, 1) := by decide +kernel
theorem dX5_add_63 : decode cX5_add 63 = .ok (.istore_n 2, 1) := by decide +kernel
theorem dX5_add_64 : decode cX5_add 64 = .ok (.iload_n 2, 1) := by decide +kernel
theorem dX5_add_65 : decode cX5_add 65 = .ok (.ifCond .ne 22, 3) := by decide +kernel
theorem dX5_add_68 : decode cX5_add 68 = .ok (.iload_n 0, 1) := by decide +kernel
theorem dX5_add_69 : decode cX5_add 69 = .ok (.bipush 16, 2) := by decide +kernel
theorem dX5_add_71 : decode cX5_add 71 = .ok (.if_icmp .ne 14, 3) := by decide +kernel
theorem dX5_add_74 : decode cX5_add 74 = .ok (.iload_n 1, 1) := by decide +kernel
theorem dX5_add_75 : decode cX5_add 75 = .ok (.bipush 16, 2) := by decide +kernel
theorem dX5_add_77 : decode cX5_add 77 = .ok (.if_icmp .ne 8, 3) := by decide +kernel
theorem dX5_add_80 : decode cX5_add 80 = .ok (.bipush 16, 2) := by decide +kernel
theorem dX5_add_82 : decode cX5_add 82 = .ok (.goto 4, 3) := by decide +kernel
theorem dX5_add_85 : decode cX5_add 85 = .ok (.iconst 0, 1) := by decide +kernel
theorem dX5_add_86 : decode cX5_add 86 = .ok (.ireturn, 1) := by decide +kernel
theorem dX5_add_87 : decode cX5_add 87 = .ok (.iload_n 2, 1) := by decide +kernel
theorem dX5_add_88 : decode cX5_add 88 = .ok (.ifCond .ge 16, 3) := by decide +kernel
theorem dX5_add_91 : decode cX5_add 91 = .ok (.bipush 16, 2) := by decide +kernel
theorem dX5_add_93 : decode cX5_add 93 = .ok (.bipush (-4), 2) := by decide +kernel
theorem dX5_add_95 : decode cX5_add 95 = .ok (.iload_n 2, 1) := by decide +kernel
theorem dX5_add_96 : decode cX5_add 96 = .ok (.imul, 1) := by decide +kernel
theorem dX5_add_97 : decode cX5_add 97 = .ok (.invokestatic 52, 3) := by decide +kernel
theorem dX5_add_100 : decode cX5_add 100 = .ok (.iadd, 1) := by decide +kernel
theorem dX5_add_101 : decode cX5_add 101 = .ok (.goto 9, 3) := by decide +kernel
theorem dX5_add_104 : decode cX5_add 104 = .ok (.iconst 4, 1) := by decide +kernel
theorem dX5_add_105 : decode cX5_add 105 = .ok (.iload_n 2, 1) := by decide +kernel
theorem dX5_add_106 : decode cX5_add 106 = .ok (.imul, 1) := by decide +kernel
theorem dX5_add_107 : decode cX5_add 107 = .ok (.invokestatic 52, 3) := by decide +kernel
theorem dX5_add_110 : decode cX5_add 110 = .ok (.ireturn, 1) := by decide +kernel
theorem dX5_nan_0 : decode cX5_nan 0 = .ok (.iload_n 0, 1) := by decide +kernel
theorem dX5_nan_1 : decode cX5_nan 1 = .ok (.bipush 15, 2) := by decide +kernel
theorem dX5_nan_3 : decode cX5_nan 3 = .ok (.iand, 1) := by decide +kernel
theorem dX5_nan_4 : decode cX5_nan 4 = .ok (.bipush 12, 2) := by decide +kernel
theorem dX5_nan_6 : decode cX5_nan 6 = .ok (.if_icmp .le 7, 3) := by decide +kernel
theorem dX5_nan_9 : decode cX5_nan 9 = .ok (.iconst 1, 1) := by decide +kernel
theorem dX5_nan_10 : decode cX5_nan 10 = .ok (.goto 4, 3) := by decide +kernel
theorem dX5_nan_13 : decode cX5_nan 13 = .ok (.iconst 0, 1) := by decide +kernel
theorem dX5_nan_14 : decode cX5_nan 14 = .ok (.ireturn, 1) := by decide +kernel
theorem dX5_infinite_0 : decode cX5_infinite 0 = .ok (.iload_n 0, 1) := by decide +kernel
theorem dX5_infinite_1 : decode cX5_infinite 1 = .ok (.bipush 15, 2) := by decide +kernel
theorem dX5_infinite_3 : decode cX5_infinite 3 = .ok (.iand, 1) := by decide +kernel
theorem dX5_infinite_4 : decode cX5_infinite 4 = .ok (.bipush 12, 2) := by decide +kernel
theorem dX5_infinite_6 : decode cX5_infinite 6 = .ok (.if_icmp .ne 7, 3) := by decide +kernel
theorem dX5_infinite_9 : decode cX5_infinite 9 = .ok (.iconst 1, 1) := by decide +kernel
theorem dX5_infinite_10 : decode cX5_infinite 10 = .ok (.goto 4, 3) := by decide +kernel
theorem dX5_infinite_13 : decode cX5_infinite 13 = .ok (.iconst 0, 1) := by decide +kernel
theorem dX5_infinite_14 : decode cX5_infinite 14 = .ok (.ireturn, 1) := by decide +kernel
theorem dX5_worthOf_0 : decode cX5_worthOf 0 = .ok (.iload_n 0, 1) := by decide +kernel
theorem dX5_worthOf_1 : decode cX5_worthOf 1 = .ok (.invokestatic 38, 3) := by decide +kernel
theorem dX5_worthOf_4 : decode cX5_worthOf 4 = .ok (.ifCond .eq 8, 3) := by decide +kernel
theorem dX5_worthOf_7 : decode cX5_worthOf 7 = .ok (.bipush 100, 2) := by decide +kernel
theorem dX5_worthOf_9 : decode cX5_worthOf 9 = .ok (.goto 10, 3) := by decide +kernel
theorem dX5_worthOf_12 : decode cX5_worthOf 12 = .ok (.iload_n 0, 1) := by decide +kernel
theorem dX5_worthOf_13 : decode cX5_worthOf 13 = .ok (.bipush 15, 2) := by decide +kernel
theorem dX5_worthOf_15 : decode cX5_worthOf 15 = .ok (.iand, 1) := by decide +kernel
theorem dX5_worthOf_16 : decode cX5_worthOf 16 = .ok (.invokestatic 42, 3) := by decide +kernel
theorem dX5_worthOf_19 : decode cX5_worthOf 19 = .ok (.istore_n 1, 1) := by decide +kernel
theorem dX5_worthOf_20 : decode cX5_worthOf 20 = .ok (.iload_n 0, 1) := by decide +kernel
theorem dX5_worthOf_21 : decode cX5_worthOf 21 = .ok (.bipush 16, 2) := by decide +kernel
theorem dX5_worthOf_23 : decode cX5_worthOf 23 = .ok (.if_icmp .lt 8, 3) := by decide +kernel
theorem dX5_worthOf_26 : decode cX5_worthOf 26 = .ok (.iload_n 1, 1) := by decide +kernel
theorem dX5_worthOf_27 : decode cX5_worthOf 27 = .ok (.ineg, 1) := by decide +kernel
theorem dX5_worthOf_28 : decode cX5_worthOf 28 = .ok (.goto 4, 3) := by decide +kernel
theorem dX5_worthOf_31 : decode cX5_worthOf 31 = .ok (.iload_n 1, 1) := by decide +kernel
theorem dX5_worthOf_32 : decode cX5_worthOf 32 = .ok (.ireturn, 1) := by decide +kernel
theorem dX5_quarters_0 : decode cX5_quarters 0 = .ok (.iload_n 0, 1) := by decide +kernel
theorem dX5_quarters_1 : decode cX5_quarters 1 = .ok (.bipush 8, 2) := by decide +kernel
theorem dX5_quarters_3 : decode cX5_quarters 3 = .ok (.if_icmp .ge 7, 3) := by decide +kernel
theorem dX5_quarters_6 : decode cX5_quarters 6 = .ok (.iload_n 0, 1) := by decide +kernel
theorem dX5_quarters_7 : decode cX5_quarters 7 = .ok (.goto 20, 3) := by decide +kernel
theorem dX5_quarters_10 : decode cX5_quarters 10 = .ok (.iload_n 0, 1) := by decide +kernel
theorem dX5_quarters_11 : decode cX5_quarters 11 = .ok (.bipush 12, 2) := by decide +kernel
theorem dX5_quarters_13 : decode cX5_quarters 13 = .ok (.if_icmp .ge 12, 3) := by decide +kernel
theorem dX5_quarters_16 : decode cX5_quarters 16 = .ok (.iconst 2, 1) := by decide +kernel
theorem dX5_quarters_17 : decode cX5_quarters 17 = .ok (.iload_n 0, 1) := by decide +kernel
theorem dX5_quarters_18 : decode cX5_quarters 18 = .ok (.imul, 1) := by decide +kernel
theorem dX5_quarters_19 : decode cX5_quarters 19 = .ok (.bipush 8, 2) := by decide +kernel
theorem dX5_quarters_21 : decode cX5_quarters 21 = .ok (.isub, 1) := by decide +kernel
theorem dX5_quarters_22 : decode cX5_quarters 22 = .ok (.goto 5, 3) := by decide +kernel
theorem dX5_quarters_25 : decode cX5_quarters 25 = .ok (.bipush 16, 2) := by decide +kernel
theorem dX5_quarters_27 : decode cX5_quarters 27 = .ok (.ireturn, 1) := by decide +kernel
theorem dX5_round_0 : decode cX5_round 0 = .ok (.iconst 0, 1) := by decide +kernel
theorem dX5_round_1 : decode cX5_round 1 = .ok (.istore_n 1, 1) := by decide +kernel
theorem dX5_round_2 : decode cX5_round 2 = .ok (.iconst 1, 1) := by decide +kernel
theorem dX5_round_3 : decode cX5_round 3 = .ok (.istore_n 2, 1) := by decide +kernel
theorem dX5_round_4 : decode cX5_round 4 = .ok (.iload_n 2, 1) := by decide +kernel
theorem dX5_round_5 : decode cX5_round 5 = .ok (.bipush 12, 2) := by decide +kernel
theorem dX5_round_7 : decode cX5_round 7 = .ok (.if_icmp .gt 77, 3) := by decide +kernel
theorem dX5_round_10 : decode cX5_round 10 = .ok (.iload_n 0, 1) := by decide +kernel
theorem dX5_round_11 : decode cX5_round 11 = .ok (.iconst 4, 1) := by decide +kernel
theorem dX5_round_12 : decode cX5_round 12 = .ok (.iload_n 2, 1) := by decide +kernel
theorem dX5_round_13 : decode cX5_round 13 = .ok (.invokestatic 42, 3) := by decide +kernel
theorem dX5_round_16 : decode cX5_round 16 = .ok (.imul, 1) := by decide +kernel
theorem dX5_round_17 : decode cX5_round 17 = .ok (.isub, 1) := by decide +kernel
theorem dX5_round_18 : decode cX5_round 18 = .ok (.istore_n 3, 1) := by decide +kernel
theorem dX5_round_19 : decode cX5_round 19 = .ok (.iload_n 0, 1) := by decide +kernel
theorem dX5_round_20 : decode cX5_round 20 = .ok (.iconst 4, 1) := by decide +kernel
theorem dX5_round_21 : decode cX5_round 21 = .ok (.iload_n 1, 1) := by decide +kernel
theorem dX5_round_22 : decode cX5_round 22 = .ok (.invokestatic 42, 3) := by decide +kernel
theorem dX5_round_25 : decode cX5_round 25 = .ok (.imul, 1) := by decide +kernel
theorem dX5_round_26 : decode cX5_round 26 = .ok (.isub, 1) := by decide +kernel
theorem dX5_round_27 : decode cX5_round 27 = .ok (.istore 4, 2) := by decide +kernel
theorem dX5_round_29 : decode cX5_round 29 = .ok (.iload_n 3, 1) := by decide +kernel
theorem dX5_round_30 : decode cX5_round 30 = .ok (.ifCond .ge 8, 3) := by decide +kernel
theorem dX5_round_33 : decode cX5_round 33 = .ok (.iload_n 3, 1) := by decide +kernel
theorem dX5_round_34 : decode cX5_round 34 = .ok (.ineg, 1) := by decide +kernel
theorem dX5_round_35 : decode cX5_round 35 = .ok (.goto 4, 3) := by decide +kernel
theorem dX5_round_38 : decode cX5_round 38 = .ok (.iload_n 3, 1) := by decide +kernel
theorem dX5_round_39 : decode cX5_round 39 = .ok (.istore 5, 2) := by decide +kernel
theorem dX5_round_41 : decode cX5_round 41 = .ok (.iload 4, 2) := by decide +kernel
theorem dX5_round_43 : decode cX5_round 43 = .ok (.ifCond .ge 9, 3) := by decide +kernel
theorem dX5_round_46 : decode cX5_round 46 = .ok (.iload 4, 2) := by decide +kernel
theorem dX5_round_48 : decode cX5_round 48 = .ok (.ineg, 1) := by decide +kernel
theorem dX5_round_49 : decode cX5_round 49 = .ok (.goto 5, 3) := by decide +kernel
theorem dX5_round_52 : decode cX5_round 52 = .ok (.iload 4, 2) := by decide +kernel
theorem dX5_round_54 : decode cX5_round 54 = .ok (.istore 6, 2) := by decide +kernel
theorem dX5_round_56 : decode cX5_round 56 = .ok (.iload 5, 2) := by decide +kernel
theorem dX5_round_58 : decode cX5_round 58 = .ok (.iload 6, 2) := by decide +kernel
theorem dX5_round_60 : decode cX5_round 60 = .ok (.if_icmp .lt 16, 3) := by decide +kernel
theorem dX5_round_63 : decode cX5_round 63 = .ok (.iload 5, 2) := by decide +kernel
theorem dX5_round_65 : decode cX5_round 65 = .ok (.iload 6, 2) := by decide +kernel
theorem dX5_round_67 : decode cX5_round 67 = .ok (.if_icmp .ne 11, 3) := by decide +kernel
theorem dX5_round_70 : decode cX5_round 70 = .ok (.iload_n 2, 1) := by decide +kernel
theorem dX5_round_71 : decode cX5_round 71 = .ok (.iconst 2, 1) := by decide +kernel
theorem dX5_round_72 : decode cX5_round 72 = .ok (.irem, 1) := by decide +kernel
theorem dX5_round_73 : decode cX5_round 73 = .ok (.ifCond .ne 5, 3) := by decide +kernel
theorem dX5_round_76 : decode cX5_round 76 = .ok (.iload_n 2, 1) := by decide +kernel
theorem dX5_round_77 : decode cX5_round 77 = .ok (.istore_n 1, 1) := by decide +kernel
theorem dX5_round_78 : decode cX5_round 78 = .ok (.iinc 2 1, 3) := by decide +kernel
theorem dX5_round_81 : decode cX5_round 81 = .ok (.goto (-77), 3) := by decide +kernel
theorem dX5_round_84 : decode cX5_round 84 = .ok (.iload_n 1, 1) := by decide +kernel
theorem dX5_round_85 : decode cX5_round 85 = .ok (.ireturn, 1) := by decide +kernel
theorem dX5_multiply_0 : decode cX5_multiply 0 = .ok (.iload_n 0, 1) := by decide +kernel
theorem dX5_multiply_1 : decode cX5_multiply 1 = .ok (.invokestatic 46, 3) := by decide +kernel
theorem dX5_multiply_4 : decode cX5_multiply 4 = .ok (.ifCond .ne 38, 3) := by decide +kernel
theorem dX5_multiply_7 : decode cX5_multiply 7 = .ok (.iload_n 1, 1) := by decide +kernel
theorem dX5_multiply_8 : decode cX5_multiply 8 = .ok (.invokestatic 46, 3) := by decide +kernel
theorem dX5_multiply_11 : decode cX5_multiply 11 = .ok (.ifCond .ne 31, 3) := by decide +kernel
theorem dX5_multiply_14 : decode cX5_multiply 14 = .ok (.iload_n 0, 1) := by decide +kernel
theorem dX5_multiply_15 : decode cX5_multiply 15 = .ok (.invokestatic 38, 3) := by decide +kernel
theorem dX5_multiply_18 : decode cX5_multiply 18 = .ok (.ifCond .eq 10, 3) := by decide +kernel
theorem dX5_multiply_21 : decode cX5_multiply 21 = .ok (.iload_n 1, 1) := by decide +kernel
theorem dX5_multiply_22 : decode cX5_multiply 22 = .ok (.invokestatic 55, 3) := by decide +kernel
theorem dX5_multiply_25 : decode cX5_multiply 25 = .ok (.ifCond .ne 17, 3) := by decide +kernel
theorem dX5_multiply_28 : decode cX5_multiply 28 = .ok (.iload_n 1, 1) := by decide +kernel
theorem dX5_multiply_29 : decode cX5_multiply 29 = .ok (.invokestatic 38, 3) := by decide +kernel
theorem dX5_multiply_32 : decode cX5_multiply 32 = .ok (.ifCond .eq 13, 3) := by decide +kernel
theorem dX5_multiply_35 : decode cX5_multiply 35 = .ok (.iload_n 0, 1) := by decide +kernel
theorem dX5_multiply_36 : decode cX5_multiply 36 = .ok (.invokestatic 55, 3) := by decide +kernel
theorem dX5_multiply_39 : decode cX5_multiply 39 = .ok (.ifCond .eq 6, 3) := by decide +kernel
theorem dX5_multiply_42 : decode cX5_multiply 42 = .ok (.bipush 13, 2) := by decide +kernel
theorem dX5_multiply_44 : decode cX5_multiply 44 = .ok (.ireturn, 1) := by decide +kernel
theorem dX5_multiply_45 : decode cX5_multiply 45 = .ok (.iload_n 0, 1) := by decide +kernel
theorem dX5_multiply_46 : decode cX5_multiply 46 = .ok (.iload_n 1, 1) := by decide +kernel
theorem dX5_multiply_47 : decode cX5_multiply 47 = .ok (.ixor, 1) := by decide +kernel
theorem dX5_multiply_48 : decode cX5_multiply 48 = .ok (.bipush 16, 2) := by decide +kernel
theorem dX5_multiply_50 : decode cX5_multiply 50 = .ok (.iand, 1) := by decide +kernel
theorem dX5_multiply_51 : decode cX5_multiply 51 = .ok (.istore_n 2, 1) := by decide +kernel
theorem dX5_multiply_52 : decode cX5_multiply 52 = .ok (.iload_n 0, 1) := by decide +kernel
theorem dX5_multiply_53 : decode cX5_multiply 53 = .ok (.invokestatic 38, 3) := by decide +kernel
theorem dX5_multiply_56 : decode cX5_multiply 56 = .ok (.ifCond .ne 10, 3) := by decide +kernel
theorem dX5_multiply_59 : decode cX5_multiply 59 = .ok (.iload_n 1, 1) := by decide +kernel
theorem dX5_multiply_60 : decode cX5_multiply 60 = .ok (.invokestatic 38, 3) := by decide +kernel
theorem dX5_multiply_63 : decode cX5_multiply 63 = .ok (.ifCond .eq 8, 3) := by decide +kernel
theorem dX5_multiply_66 : decode cX5_multiply 66 = .ok (.iload_n 2, 1) := by decide +kernel
theorem dX5_multiply_67 : decode cX5_multiply 67 = .ok (.bipush 12, 2) := by decide +kernel
theorem dX5_multiply_69 : decode cX5_multiply 69 = .ok (.iadd, 1) := by decide +kernel
theorem dX5_multiply_70 : decode cX5_multiply 70 = .ok (.ireturn, 1) := by decide +kernel
theorem dX5_multiply_71 : decode cX5_multiply 71 = .ok (.iload_n 2, 1) := by decide +kernel
theorem dX5_multiply_72 : decode cX5_multiply 72 = .ok (.iload_n 0, 1) := by decide +kernel
theorem dX5_multiply_73 : decode cX5_multiply 73 = .ok (.bipush 15, 2) := by decide +kernel
theorem dX5_multiply_75 : decode cX5_multiply 75 = .ok (.iand, 1) := by decide +kernel
theorem dX5_multiply_76 : decode cX5_multiply 76 = .ok (.invokestatic 42, 3) := by decide +kernel
theorem dX5_multiply_79 : decode cX5_multiply 79 = .ok (.iload_n 1, 1) := by decide +kernel
theorem dX5_multiply_80 : decode cX5_multiply 80 = .ok (.bipush 15, 2) := by decide +kernel
theorem dX5_multiply_82 : decode cX5_multiply 82 = .ok (.iand, 1) := by decide +kernel
theorem dX5_multiply_83 : decode cX5_multiply 83 = .ok (.invokestatic 42, 3) := by decide +kernel
theorem dX5_multiply_86 : decode cX5_multiply 86 = .ok (.imul, 1) := by decide +kernel
theorem dX5_multiply_87 : decode cX5_multiply 87 = .ok (.invokestatic 52, 3) := by decide +kernel
theorem dX5_multiply_90 : decode cX5_multiply 90 = .ok (.iadd, 1) := by decide +kernel
theorem dX5_multiply_91 : decode cX5_multiply 91 = .ok (.ireturn, 1) := by decide +kernel
theorem dX5_zero_0 : decode cX5_zero 0 = .ok (.iload_n 0, 1) := by decide +kernel
theorem dX5_zero_1 : decode cX5_zero 1 = .ok (.bipush 15, 2) := by decide +kernel
theorem dX5_zero_3 : decode cX5_zero 3 = .ok (.iand, 1) := by decide +kernel
theorem dX5_zero_4 : decode cX5_zero 4 = .ok (.ifCond .ne 7, 3) := by decide +kernel
theorem dX5_zero_7 : decode cX5_zero 7 = .ok (.iconst 1, 1) := by decide +kernel
theorem dX5_zero_8 : decode cX5_zero 8 = .ok (.goto 4, 3) := by decide +kernel
theorem dX5_zero_11 : decode cX5_zero 11 = .ok (.iconst 0, 1) := by decide +kernel
theorem dX5_zero_12 : decode cX5_zero 12 = .ok (.ireturn, 1) := by decide +kernel
theorem dX5_less_0 : decode cX5_less 0 = .ok (.iload_n 0, 1) := by decide +kernel
theorem dX5_less_1 : decode cX5_less 1 = .ok (.invokestatic 46, 3) := by decide +kernel
theorem dX5_less_4 : decode cX5_less 4 = .ok (.ifCond .ne 25, 3) := by decide +kernel
theorem dX5_less_7 : decode cX5_less 7 = .ok (.iload_n 1, 1) := by decide +kernel
theorem dX5_less_8 : decode cX5_less 8 = .ok (.invokestatic 46, 3) := by decide +kernel
theorem dX5_less_11 : decode cX5_less 11 = .ok (.ifCond .ne 18, 3) := by decide +kernel
theorem dX5_less_14 : decode cX5_less 14 = .ok (.iload_n 0, 1) := by decide +kernel
theorem dX5_less_15 : decode cX5_less 15 = .ok (.invokestatic 49, 3) := by decide +kernel
theorem dX5_less_18 : decode cX5_less 18 = .ok (.iload_n 1, 1) := by decide +kernel
theorem dX5_less_19 : decode cX5_less 19 = .ok (.invokestatic 49, 3) := by decide +kernel
theorem dX5_less_22 : decode cX5_less 22 = .ok (.if_icmp .ge 7, 3) := by decide +kernel
theorem dX5_less_25 : decode cX5_less 25 = .ok (.iconst 1, 1) := by decide +kernel
theorem dX5_less_26 : decode cX5_less 26 = .ok (.goto 4, 3) := by decide +kernel
theorem dX5_less_29 : decode cX5_less 29 = .ok (.iconst 0, 1) := by decide +kernel
theorem dX5_less_30 : decode cX5_less 30 = .ok (.ireturn, 1) := by decide +kernel
theorem dX5_truth_0 : decode cX5_truth 0 = .ok (.iload_n 0, 1) := by decide +kernel
theorem dX5_truth_1 : decode cX5_truth 1 = .ok (.ifCond .eq 7, 3) := by decide +kernel
theorem dX5_truth_4 : decode cX5_truth 4 = .ok (.iconst 1, 1) := by decide +kernel
theorem dX5_truth_5 : decode cX5_truth 5 = .ok (.goto 4, 3) := by decide +kernel
theorem dX5_truth_8 : decode cX5_truth 8 = .ok (.iconst 0, 1) := by decide +kernel
theorem dX5_truth_9 : decode cX5_truth 9 = .ok (.ireturn, 1) := by decide +kernel
theorem dX5_equal_0 : decode cX5_equal 0 = .ok (.iload_n 0, 1) := by decide +kernel
theorem dX5_equal_1 : decode cX5_equal 1 = .ok (.invokestatic 46, 3) := by decide +kernel
theorem dX5_equal_4 : decode cX5_equal 4 = .ok (.ifCond .ne 33, 3) := by decide +kernel
theorem dX5_equal_7 : decode cX5_equal 7 = .ok (.iload_n 1, 1) := by decide +kernel
theorem dX5_equal_8 : decode cX5_equal 8 = .ok (.invokestatic 46, 3) := by decide +kernel
theorem dX5_equal_11 : decode cX5_equal 11 = .ok (.ifCond .ne 26, 3) := by decide +kernel
theorem dX5_equal_14 : decode cX5_equal 14 = .ok (.iload_n 0, 1) := by decide +kernel
theorem dX5_equal_15 : decode cX5_equal 15 = .ok (.iload_n 1, 1) := by decide +kernel
theorem dX5_equal_16 : decode cX5_equal 16 = .ok (.if_icmp .eq 17, 3) := by decide +kernel
theorem dX5_equal_19 : decode cX5_equal 19 = .ok (.iload_n 0, 1) := by decide +kernel
theorem dX5_equal_20 : decode cX5_equal 20 = .ok (.invokestatic 55, 3) := by decide +kernel
theorem dX5_equal_23 : decode cX5_equal 23 = .ok (.ifCond .eq 14, 3) := by decide +kernel
theorem dX5_equal_26 : decode cX5_equal 26 = .ok (.iload_n 1, 1) := by decide +kernel
theorem dX5_equal_27 : decode cX5_equal 27 = .ok (.invokestatic 55, 3) := by decide +kernel
theorem dX5_equal_30 : decode cX5_equal 30 = .ok (.ifCond .eq 7, 3) := by decide +kernel
theorem dX5_equal_33 : decode cX5_equal 33 = .ok (.iconst 1, 1) := by decide +kernel
theorem dX5_equal_34 : decode cX5_equal 34 = .ok (.goto 4, 3) := by decide +kernel
theorem dX5_equal_37 : decode cX5_equal 37 = .ok (.iconst 0, 1) := by decide +kernel
theorem dX5_equal_38 : decode cX5_equal 38 = .ok (.ireturn, 1) := by decide +kernel
theorem dX5_allHold_0 : decode cX5_allHold 0 = .ok (.iconst 1, 1) := by decide +kernel
theorem dX5_allHold_1 : decode cX5_allHold 1 = .ok (.istore_n 1, 1) := by decide +kernel
theorem dX5_allHold_2 : decode cX5_allHold 2 = .ok (.iconst 0, 1) := by decide +kernel
theorem dX5_allHold_3 : decode cX5_allHold 3 = .ok (.istore_n 2, 1) := by decide +kernel
theorem dX5_allHold_4 : decode cX5_allHold 4 = .ok (.iload_n 2, 1) := by decide +kernel
theorem dX5_allHold_5 : decode cX5_allHold 5 = .ok (.aload_n 0, 1) := by decide +kernel
theorem dX5_allHold_6 : decode cX5_allHold 6 = .ok (.getfield 99, 3) := by decide +kernel
theorem dX5_allHold_9 : decode cX5_allHold 9 = .ok (.if_icmp .ge 34, 3) := by decide +kernel
theorem dX5_allHold_12 : decode cX5_allHold 12 = .ok (.iload_n 1, 1) := by decide +kernel
theorem dX5_allHold_13 : decode cX5_allHold 13 = .ok (.ifCond .eq 22, 3) := by decide +kernel
theorem dX5_allHold_16 : decode cX5_allHold 16 = .ok (.aload_n 0, 1) := by decide +kernel
theorem dX5_allHold_17 : decode cX5_allHold 17 = .ok (.getfield 31, 3) := by decide +kernel
theorem dX5_allHold_20 : decode cX5_allHold 20 = .ok (.aload_n 0, 1) := by decide +kernel
theorem dX5_allHold_21 : decode cX5_allHold 21 = .ok (.getfield 22, 3) := by decide +kernel
theorem dX5_allHold_24 : decode cX5_allHold 24 = .ok (.iload_n 2, 1) := by decide +kernel
theorem dX5_allHold_25 : decode cX5_allHold 25 = .ok (.iaload, 1) := by decide +kernel
theorem dX5_allHold_26 : decode cX5_allHold 26 = .ok (.iaload, 1) := by decide +kernel
theorem dX5_allHold_27 : decode cX5_allHold 27 = .ok (.iconst 1, 1) := by decide +kernel
theorem dX5_allHold_28 : decode cX5_allHold 28 = .ok (.if_icmp .ne 7, 3) := by decide +kernel
theorem dX5_allHold_31 : decode cX5_allHold 31 = .ok (.iconst 1, 1) := by decide +kernel
theorem dX5_allHold_32 : decode cX5_allHold 32 = .ok (.goto 4, 3) := by decide +kernel
theorem dX5_allHold_35 : decode cX5_allHold 35 = .ok (.iconst 0, 1) := by decide +kernel
theorem dX5_allHold_36 : decode cX5_allHold 36 = .ok (.istore_n 1, 1) := by decide +kernel
theorem dX5_allHold_37 : decode cX5_allHold 37 = .ok (.iinc 2 1, 3) := by decide +kernel
theorem dX5_allHold_40 : decode cX5_allHold 40 = .ok (.goto (-36), 3) := by decide +kernel
theorem dX5_allHold_43 : decode cX5_allHold 43 = .ok (.iload_n 1, 1) := by decide +kernel
theorem dX5_allHold_44 : decode cX5_allHold 44 = .ok (.ireturn, 1) := by decide +kernel
theorem dX5_model_0 : decode cX5_model 0 = .ok (.aload_n 0, 1) := by decide +kernel
theorem dX5_model_1 : decode cX5_model 1 = .ok (.iload_n 1, 1) := by decide +kernel
theorem dX5_model_2 : decode cX5_model 2 = .ok (.iconst 2, 1) := by decide +kernel
theorem dX5_model_3 : decode cX5_model 3 = .ok (.invokestatic 79, 3) := by decide +kernel
theorem dX5_model_6 : decode cX5_model 6 = .ok (.ifCond .eq 7, 3) := by decide +kernel
theorem dX5_model_9 : decode cX5_model 9 = .ok (.iconst 1, 1) := by decide +kernel
theorem dX5_model_10 : decode cX5_model 10 = .ok (.goto 15, 3) := by decide +kernel
theorem dX5_model_13 : decode cX5_model 13 = .ok (.aload_n 0, 1) := by decide +kernel
theorem dX5_model_14 : decode cX5_model 14 = .ok (.getfield 108, 3) := by decide +kernel
theorem dX5_model_17 : decode cX5_model 17 = .ok (.ifCond .eq 7, 3) := by decide +kernel
theorem dX5_model_20 : decode cX5_model 20 = .ok (.iconst 0, 1) := by decide +kernel
theorem dX5_model_21 : decode cX5_model 21 = .ok (.goto 4, 3) := by decide +kernel
theorem dX5_model_24 : decode cX5_model 24 = .ok (.iconst 2, 1) := by decide +kernel
theorem dX5_model_25 : decode cX5_model 25 = .ok (.putfield 34, 3) := by decide +kernel
theorem dX5_model_28 : decode cX5_model 28 = .ok (.aload_n 0, 1) := by decide +kernel
theorem dX5_model_29 : decode cX5_model 29 = .ok (.getfield 34, 3) := by decide +kernel
theorem dX5_model_32 : decode cX5_model 32 = .ok (.ifCond .le 7, 3) := by decide +kernel
theorem dX5_model_35 : decode cX5_model 35 = .ok (.iconst 0, 1) := by decide +kernel
theorem dX5_model_36 : decode cX5_model 36 = .ok (.goto 9, 3) := by decide +kernel
theorem dX5_model_39 : decode cX5_model 39 = .ok (.aload_n 0, 1) := by decide +kernel
theorem dX5_model_40 : decode cX5_model 40 = .ok (.getfield 28, 3) := by decide +kernel
theorem dX5_model_43 : decode cX5_model 43 = .ok (.iload_n 1, 1) := by decide +kernel
theorem dX5_model_44 : decode cX5_model 44 = .ok (.iaload, 1) := by decide +kernel
theorem dX5_model_45 : decode cX5_model 45 = .ok (.ireturn, 1) := by decide +kernel
theorem dX5_value_0 : decode cX5_value 0 = .ok (.aload_n 0, 1) := by decide +kernel
theorem dX5_value_1 : decode cX5_value 1 = .ok (.iload_n 1, 1) := by decide +kernel
theorem dX5_value_2 : decode cX5_value 2 = .ok (.aload_n 0, 1) := by decide +kernel
theorem dX5_value_3 : decode cX5_value 3 = .ok (.getfield 76, 3) := by decide +kernel
theorem dX5_value_6 : decode cX5_value 6 = .ok (.invokestatic 79, 3) := by decide +kernel
theorem dX5_value_9 : decode cX5_value 9 = .ok (.ifCond .eq 7, 3) := by decide +kernel
theorem dX5_value_12 : decode cX5_value 12 = .ok (.iconst 1, 1) := by decide +kernel
theorem dX5_value_13 : decode cX5_value 13 = .ok (.goto 15, 3) := by decide +kernel
theorem dX5_value_16 : decode cX5_value 16 = .ok (.aload_n 0, 1) := by decide +kernel
theorem dX5_value_17 : decode cX5_value 17 = .ok (.getfield 108, 3) := by decide +kernel
theorem dX5_value_20 : decode cX5_value 20 = .ok (.ifCond .eq 7, 3) := by decide +kernel
theorem dX5_value_23 : decode cX5_value 23 = .ok (.iconst 0, 1) := by decide +kernel
theorem dX5_value_24 : decode cX5_value 24 = .ok (.goto 4, 3) := by decide +kernel
theorem dX5_value_27 : decode cX5_value 27 = .ok (.iconst 2, 1) := by decide +kernel
theorem dX5_value_28 : decode cX5_value 28 = .ok (.putfield 34, 3) := by decide +kernel
theorem dX5_value_31 : decode cX5_value 31 = .ok (.aload_n 0, 1) := by decide +kernel
theorem dX5_value_32 : decode cX5_value 32 = .ok (.getfield 34, 3) := by decide +kernel
theorem dX5_value_35 : decode cX5_value 35 = .ok (.ifCond .le 5, 3) := by decide +kernel
theorem dX5_value_38 : decode cX5_value 38 = .ok (.iconst 0, 1) := by decide +kernel
theorem dX5_value_39 : decode cX5_value 39 = .ok (.ireturn, 1) := by decide +kernel
theorem dX5_value_40 : decode cX5_value 40 = .ok (.aload_n 0, 1) := by decide +kernel
theorem dX5_value_41 : decode cX5_value 41 = .ok (.aload_n 0, 1) := by decide +kernel
theorem dX5_value_42 : decode cX5_value 42 = .ok (.getfield 28, 3) := by decide +kernel
theorem dX5_value_45 : decode cX5_value 45 = .ok (.iconst 0, 1) := by decide +kernel
theorem dX5_value_46 : decode cX5_value 46 = .ok (.iaload, 1) := by decide +kernel
theorem dX5_value_47 : decode cX5_value 47 = .ok (.aload_n 0, 1) := by decide +kernel
theorem dX5_value_48 : decode cX5_value 48 = .ok (.getfield 28, 3) := by decide +kernel
theorem dX5_value_51 : decode cX5_value 51 = .ok (.iconst 1, 1) := by decide +kernel
theorem dX5_value_52 : decode cX5_value 52 = .ok (.iaload, 1) := by decide +kernel
theorem dX5_value_53 : decode cX5_value 53 = .ok (.invokevirtual 112, 3) := by decide +kernel
theorem dX5_value_56 : decode cX5_value 56 = .ok (.aload_n 0, 1) := by decide +kernel
theorem dX5_value_57 : decode cX5_value 57 = .ok (.getfield 31, 3) := by decide +kernel
theorem dX5_value_60 : decode cX5_value 60 = .ok (.iload_n 1, 1) := by decide +kernel
theorem dX5_value_61 : decode cX5_value 61 = .ok (.iaload, 1) := by decide +kernel
theorem dX5_value_62 : decode cX5_value 62 = .ok (.ireturn, 1) := by decide +kernel
theorem dX5_reckon_0 : decode cX5_reckon 0 = .ok (.aload_n 0, 1) := by decide +kernel
theorem dX5_reckon_1 : decode cX5_reckon 1 = .ok (.iload_n 1, 1) := by decide +kernel
theorem dX5_reckon_2 : decode cX5_reckon 2 = .ok (.iconst 2, 1) := by decide +kernel
theorem dX5_reckon_3 : decode cX5_reckon 3 = .ok (.if_icmp .lt 33, 3) := by decide +kernel
theorem dX5_reckon_6 : decode cX5_reckon 6 = .ok (.iload_n 1, 1) := by decide +kernel
theorem dX5_reckon_7 : decode cX5_reckon 7 = .ok (.bipush 16, 2) := by decide +kernel
theorem dX5_reckon_9 : decode cX5_reckon 9 = .ok (.if_icmp .gt 27, 3) := by decide +kernel
theorem dX5_reckon_12 : decode cX5_reckon 12 = .ok (.iload_n 1, 1) := by decide +kernel
theorem dX5_reckon_13 : decode cX5_reckon 13 = .ok (.bipush 9, 2) := by decide +kernel
theorem dX5_reckon_15 : decode cX5_reckon 15 = .ok (.if_icmp .eq 21, 3) := by decide +kernel
theorem dX5_reckon_18 : decode cX5_reckon 18 = .ok (.iload_n 2, 1) := by decide +kernel
theorem dX5_reckon_19 : decode cX5_reckon 19 = .ok (.bipush 32, 2) := by decide +kernel
theorem dX5_reckon_21 : decode cX5_reckon 21 = .ok (.invokestatic 79, 3) := by decide +kernel
theorem dX5_reckon_24 : decode cX5_reckon 24 = .ok (.ifCond .ne 12, 3) := by decide +kernel
theorem dX5_reckon_27 : decode cX5_reckon 27 = .ok (.iload_n 3, 1) := by decide +kernel
theorem dX5_reckon_28 : decode cX5_reckon 28 = .ok (.bipush 32, 2) := by decide +kernel
theorem dX5_reckon_30 : decode cX5_reckon 30 = .ok (.invokestatic 79, 3) := by decide +kernel
theorem dX5_reckon_33 : decode cX5_reckon 33 = .ok (.ifCond .eq 7, 3) := by decide +kernel
theorem dX5_reckon_36 : decode cX5_reckon 36 = .ok (.iconst 1, 1) := by decide +kernel
theorem dX5_reckon_37 : decode cX5_reckon 37 = .ok (.goto 4, 3) := by decide +kernel
theorem dX5_reckon_40 : decode cX5_reckon 40 = .ok (.iconst 0, 1) := by decide +kernel
theorem dX5_reckon_41 : decode cX5_reckon 41 = .ok (.putfield 34, 3) := by decide +kernel
theorem dX5_reckon_44 : decode cX5_reckon 44 = .ok (.aload_n 0, 1) := by decide +kernel
theorem dX5_reckon_45 : decode cX5_reckon 45 = .ok (.getfield 34, 3) := by decide +kernel
theorem dX5_reckon_48 : decode cX5_reckon 48 = .ok (.ifCond .le 7, 3) := by decide +kernel
theorem dX5_reckon_51 : decode cX5_reckon 51 = .ok (.iconst 0, 1) := by decide +kernel
theorem dX5_reckon_52 : decode cX5_reckon 52 = .ok (.goto 9, 3) := by decide +kernel
theorem dX5_reckon_55 : decode cX5_reckon 55 = .ok (.iload_n 1, 1) := by decide +kernel
theorem dX5_reckon_56 : decode cX5_reckon 56 = .ok (.iload_n 2, 1) := by decide +kernel
theorem dX5_reckon_57 : decode cX5_reckon 57 = .ok (.iload_n 3, 1) := by decide +kernel
theorem dX5_reckon_58 : decode cX5_reckon 58 = .ok (.invokestatic 95, 3) := by decide +kernel
theorem dX5_reckon_61 : decode cX5_reckon 61 = .ok (.ireturn, 1) := by decide +kernel
theorem dX5_terms_0 : decode cX5_terms 0 = .ok (.aload_n 0, 1) := by decide +kernel
theorem dX5_terms_1 : decode cX5_terms 1 = .ok (.iconst 0, 1) := by decide +kernel
theorem dX5_terms_2 : decode cX5_terms 2 = .ok (.putfield 34, 3) := by decide +kernel
theorem dX5_terms_5 : decode cX5_terms 5 = .ok (.aload_n 0, 1) := by decide +kernel
theorem dX5_terms_6 : decode cX5_terms 6 = .ok (.getfield 76, 3) := by decide +kernel
theorem dX5_terms_9 : decode cX5_terms 9 = .ok (.ireturn, 1) := by decide +kernel
theorem dX5_claims_0 : decode cX5_claims 0 = .ok (.aload_n 0, 1) := by decide +kernel
theorem dX5_claims_1 : decode cX5_claims 1 = .ok (.iconst 0, 1) := by decide +kernel
theorem dX5_claims_2 : decode cX5_claims 2 = .ok (.putfield 34, 3) := by decide +kernel
theorem dX5_claims_5 : decode cX5_claims 5 = .ok (.aload_n 0, 1) := by decide +kernel
theorem dX5_claims_6 : decode cX5_claims 6 = .ok (.getfield 99, 3) := by decide +kernel
theorem dX5_claims_9 : decode cX5_claims 9 = .ok (.ireturn, 1) := by decide +kernel
theorem dX5_level_0 : decode cX5_level 0 = .ok (.aload_n 0, 1) := by decide +kernel
theorem dX5_level_1 : decode cX5_level 1 = .ok (.iconst 0, 1) := by decide +kernel
theorem dX5_level_2 : decode cX5_level 2 = .ok (.putfield 34, 3) := by decide +kernel
theorem dX5_level_5 : decode cX5_level 5 = .ok (.aload_n 0, 1) := by decide +kernel
theorem dX5_level_6 : decode cX5_level 6 = .ok (.getfield 102, 3) := by decide +kernel
theorem dX5_level_9 : decode cX5_level 9 = .ok (.ireturn, 1) := by decide +kernel
theorem dX5_checks_0 : decode cX5_checks 0 = .ok (.aload_n 0, 1) := by decide +kernel
theorem dX5_checks_1 : decode cX5_checks 1 = .ok (.iconst 0, 1) := by decide +kernel
theorem dX5_checks_2 : decode cX5_checks 2 = .ok (.putfield 34, 3) := by decide +kernel
theorem dX5_checks_5 : decode cX5_checks 5 = .ok (.aload_n 0, 1) := by decide +kernel
theorem dX5_checks_6 : decode cX5_checks 6 = .ok (.getfield 105, 3) := by decide +kernel
theorem dX5_checks_9 : decode cX5_checks 9 = .ok (.ireturn, 1) := by decide +kernel
end
section
theorem dL_term_0 : decode cL_term 0 = .ok (.aload 5, 2) := by decide +kernel
theorem dL_term_2 : decode cL_term 2 = .ok (.iconst 0, 1) := by decide +kernel
theorem dL_term_3 : decode cL_term 3 = .ok (.aload_n 0, 1) := by decide +kernel
theorem dL_term_4 : decode cL_term 4 = .ok (.iload_n 1, 1) := by decide +kernel
theorem dL_term_5 : decode cL_term 5 = .ok (.iload_n 2, 1) := by decide +kernel
theorem dL_term_6 : decode cL_term 6 = .ok (.iload_n 3, 1) := by decide +kernel
theorem dL_term_7 : decode cL_term 7 = .ok (.iload 4, 2) := by decide +kernel
theorem dL_term_9 : decode cL_term 9 = .ok (.invokevirtual 7, 3) := by decide +kernel
theorem dL_term_12 : decode cL_term 12 = .ok (.i2l, 1) := by decide +kernel
theorem dL_term_13 : decode cL_term 13 = .ok (.lastore, 1) := by decide +kernel
theorem dL_term_14 : decode cL_term 14 = .ok (.goto 11, 3) := by decide +kernel
theorem dL_term_17 : decode cL_term 17 = .ok (.astore 6, 2) := by decide +kernel
theorem dL_term_19 : decode cL_term 19 = .ok (.iconst 1, 1) := by decide +kernel
theorem dL_term_20 : decode cL_term 20 = .ok (.ireturn, 1) := by decide +kernel
theorem dL_term_21 : decode cL_term 21 = .ok (.astore 6, 2) := by decide +kernel
theorem dL_term_23 : decode cL_term 23 = .ok (.iconst 2, 1) := by decide +kernel
theorem dL_term_24 : decode cL_term 24 = .ok (.ireturn, 1) := by decide +kernel
theorem dL_term_25 : decode cL_term 25 = .ok (.iconst 0, 1) := by decide +kernel
theorem dL_term_26 : decode cL_term 26 = .ok (.ireturn, 1) := by decide +kernel
theorem dL_claim_0 : decode cL_claim 0 = .ok (.aload_n 2, 1) := by decide +kernel
theorem dL_claim_1 : decode cL_claim 1 = .ok (.iconst 0, 1) := by decide +kernel
theorem dL_claim_2 : decode cL_claim 2 = .ok (.aload_n 0, 1) := by decide +kernel
theorem dL_claim_3 : decode cL_claim 3 = .ok (.iload_n 1, 1) := by decide +kernel
theorem dL_claim_4 : decode cL_claim 4 = .ok (.invokevirtual 17, 3) := by decide +kernel
theorem dL_claim_7 : decode cL_claim 7 = .ok (.i2l, 1) := by decide +kernel
theorem dL_claim_8 : decode cL_claim 8 = .ok (.lastore, 1) := by decide +kernel
theorem dL_claim_9 : decode cL_claim 9 = .ok (.goto 9, 3) := by decide +kernel
theorem dL_claim_12 : decode cL_claim 12 = .ok (.astore_n 3, 1) := by decide +kernel
theorem dL_claim_13 : decode cL_claim 13 = .ok (.iconst 1, 1) := by decide +kernel
theorem dL_claim_14 : decode cL_claim 14 = .ok (.ireturn, 1) := by decide +kernel
theorem dL_claim_15 : decode cL_claim 15 = .ok (.astore_n 3, 1) := by decide +kernel
theorem dL_claim_16 : decode cL_claim 16 = .ok (.iconst 2, 1) := by decide +kernel
theorem dL_claim_17 : decode cL_claim 17 = .ok (.ireturn, 1) := by decide +kernel
theorem dL_claim_18 : decode cL_claim 18 = .ok (.iconst 0, 1) := by decide +kernel
theorem dL_claim_19 : decode cL_claim 19 = .ok (.ireturn, 1) := by decide +kernel
theorem dL_open_0 : decode cL_open 0 = .ok (.aload_n 1, 1) := by decide +kernel
theorem dL_open_1 : decode cL_open 1 = .ok (.iconst 0, 1) := by decide +kernel
theorem dL_open_2 : decode cL_open 2 = .ok (.aload_n 0, 1) := by decide +kernel
theorem dL_open_3 : decode cL_open 3 = .ok (.invokevirtual 21, 3) := by decide +kernel
theorem dL_open_6 : decode cL_open 6 = .ok (.i2l, 1) := by decide +kernel
theorem dL_open_7 : decode cL_open 7 = .ok (.lastore, 1) := by decide +kernel
theorem dL_open_8 : decode cL_open 8 = .ok (.goto 6, 3) := by decide +kernel
theorem dL_open_11 : decode cL_open 11 = .ok (.astore_n 2, 1) := by decide +kernel
theorem dL_open_12 : decode cL_open 12 = .ok (.iconst 1, 1) := by decide +kernel
theorem dL_open_13 : decode cL_open 13 = .ok (.ireturn, 1) := by decide +kernel
theorem dL_open_14 : decode cL_open 14 = .ok (.iconst 0, 1) := by decide +kernel
theorem dL_open_15 : decode cL_open 15 = .ok (.ireturn, 1) := by decide +kernel
theorem dL_close_0 : decode cL_close 0 = .ok (.aload_n 1, 1) := by decide +kernel
theorem dL_close_1 : decode cL_close 1 = .ok (.iconst 0, 1) := by decide +kernel
theorem dL_close_2 : decode cL_close 2 = .ok (.aload_n 0, 1) := by decide +kernel
theorem dL_close_3 : decode cL_close 3 = .ok (.invokevirtual 25, 3) := by decide +kernel
theorem dL_close_6 : decode cL_close 6 = .ok (.i2l, 1) := by decide +kernel
theorem dL_close_7 : decode cL_close 7 = .ok (.lastore, 1) := by decide +kernel
theorem dL_close_8 : decode cL_close 8 = .ok (.goto 6, 3) := by decide +kernel
theorem dL_close_11 : decode cL_close 11 = .ok (.astore_n 2, 1) := by decide +kernel
theorem dL_close_12 : decode cL_close 12 = .ok (.iconst 1, 1) := by decide +kernel
theorem dL_close_13 : decode cL_close 13 = .ok (.ireturn, 1) := by decide +kernel
theorem dL_close_14 : decode cL_close 14 = .ok (.iconst 0, 1) := by decide +kernel
theorem dL_close_15 : decode cL_close 15 = .ok (.ireturn, 1) := by decide +kernel
theorem dL_model_0 : decode cL_model 0 = .ok (.aload_n 2, 1) := by decide +kernel
theorem dL_model_1 : decode cL_model 1 = .ok (.iconst 0, 1) := by decide +kernel
theorem dL_model_2 : decode cL_model 2 = .ok (.aload_n 0, 1) := by decide +kernel
theorem dL_model_3 : decode cL_model 3 = .ok (.iload_n 1, 1) := by decide +kernel
theorem dL_model_4 : decode cL_model 4 = .ok (.invokevirtual 28, 3) := by decide +kernel
theorem dL_model_7 : decode cL_model 7 = .ok (.i2l, 1) := by decide +kernel
theorem dL_model_8 : decode cL_model 8 = .ok (.lastore, 1) := by decide +kernel
theorem dL_model_9 : decode cL_model 9 = .ok (.goto 9, 3) := by decide +kernel
theorem dL_model_12 : decode cL_model 12 = .ok (.astore_n 3, 1) := by decide +kernel
theorem dL_model_13 : decode cL_model 13 = .ok (.iconst 1, 1) := by decide +kernel
theorem dL_model_14 : decode cL_model 14 = .ok (.ireturn, 1) := by decide +kernel
theorem dL_model_15 : decode cL_model 15 = .ok (.astore_n 3, 1) := by decide +kernel
theorem dL_model_16 : decode cL_model 16 = .ok (.iconst 2, 1) := by decide +kernel
theorem dL_model_17 : decode cL_model 17 = .ok (.ireturn, 1) := by decide +kernel
theorem dL_model_18 : decode cL_model 18 = .ok (.iconst 0, 1) := by decide +kernel
theorem dL_model_19 : decode cL_model 19 = .ok (.ireturn, 1) := by decide +kernel
theorem dL_value_0 : decode cL_value 0 = .ok (.aload_n 2, 1) := by decide +kernel
theorem dL_value_1 : decode cL_value 1 = .ok (.iconst 0, 1) := by decide +kernel
theorem dL_value_2 : decode cL_value 2 = .ok (.aload_n 0, 1) := by decide +kernel
theorem dL_value_3 : decode cL_value 3 = .ok (.iload_n 1, 1) := by decide +kernel
theorem dL_value_4 : decode cL_value 4 = .ok (.invokevirtual 33, 3) := by decide +kernel
theorem dL_value_7 : decode cL_value 7 = .ok (.i2l, 1) := by decide +kernel
theorem dL_value_8 : decode cL_value 8 = .ok (.lastore, 1) := by decide +kernel
theorem dL_value_9 : decode cL_value 9 = .ok (.goto 9, 3) := by decide +kernel
theorem dL_value_12 : decode cL_value 12 = .ok (.astore_n 3, 1) := by decide +kernel
theorem dL_value_13 : decode cL_value 13 = .ok (.iconst 1, 1) := by decide +kernel
theorem dL_value_14 : decode cL_value 14 = .ok (.ireturn, 1) := by decide +kernel
theorem dL_value_15 : decode cL_value 15 = .ok (.astore_n 3, 1) := by decide +kernel
theorem dL_value_16 : decode cL_value 16 = .ok (.iconst 2, 1) := by decide +kernel
theorem dL_value_17 : decode cL_value 17 = .ok (.ireturn, 1) := by decide +kernel
theorem dL_value_18 : decode cL_value 18 = .ok (.iconst 0, 1) := by decide +kernel
theorem dL_value_19 : decode cL_value 19 = .ok (.ireturn, 1) := by decide +kernel
theorem dL_reckon_0 : decode cL_reckon 0 = .ok (.aload 4, 2) := by decide +kernel
theorem dL_reckon_2 : decode cL_reckon 2 = .ok (.iconst 0, 1) := by decide +kernel
theorem dL_reckon_3 : decode cL_reckon 3 = .ok (.aload_n 0, 1) := by decide +kernel
theorem dL_reckon_4 : decode cL_reckon 4 = .ok (.iload_n 1, 1) := by decide +kernel
theorem dL_reckon_5 : decode cL_reckon 5 = .ok (.iload_n 2, 1) := by decide +kernel
theorem dL_reckon_6 : decode cL_reckon 6 = .ok (.iload_n 3, 1) := by decide +kernel
theorem dL_reckon_7 : decode cL_reckon 7 = .ok (.invokevirtual 36, 3) := by decide +kernel
theorem dL_reckon_10 : decode cL_reckon 10 = .ok (.i2l, 1) := by decide +kernel
theorem dL_reckon_11 : decode cL_reckon 11 = .ok (.lastore, 1) := by decide +kernel
theorem dL_reckon_12 : decode cL_reckon 12 = .ok (.goto 7, 3) := by decide +kernel
theorem dL_reckon_15 : decode cL_reckon 15 = .ok (.astore 5, 2) := by decide +kernel
theorem dL_reckon_17 : decode cL_reckon 17 = .ok (.iconst 1, 1) := by decide +kernel
theorem dL_reckon_18 : decode cL_reckon 18 = .ok (.ireturn, 1) := by decide +kernel
theorem dL_reckon_19 : decode cL_reckon 19 = .ok (.iconst 0, 1) := by decide +kernel
theorem dL_reckon_20 : decode cL_reckon 20 = .ok (.ireturn, 1) := by decide +kernel
theorem dL_law_0 : decode cL_law 0 = .ok (.new 8, 3) := by decide +kernel
theorem dL_law_3 : decode cL_law 3 = .ok (.dup, 1) := by decide +kernel
theorem dL_law_4 : decode cL_law 4 = .ok (.invokespecial 40, 3) := by decide +kernel
theorem dL_law_7 : decode cL_law 7 = .ok (.astore_n 1, 1) := by decide +kernel
theorem dL_law_8 : decode cL_law 8 = .ok (.new 41, 3) := by decide +kernel
theorem dL_law_11 : decode cL_law 11 = .ok (.dup, 1) := by decide +kernel
theorem dL_law_12 : decode cL_law 12 = .ok (.invokespecial 43, 3) := by decide +kernel
theorem dL_law_15 : decode cL_law 15 = .ok (.astore_n 2, 1) := by decide +kernel
theorem dL_law_16 : decode cL_law 16 = .ok (.iconst 1, 1) := by decide +kernel
theorem dL_law_17 : decode cL_law 17 = .ok (.newarray .long, 2) := by decide +kernel
theorem dL_law_19 : decode cL_law 19 = .ok (.astore_n 3, 1) := by decide +kernel
theorem dL_law_20 : decode cL_law 20 = .ok (.iconst 0, 1) := by decide +kernel
theorem dL_law_21 : decode cL_law 21 = .ok (.istore 4, 2) := by decide +kernel
theorem dL_law_23 : decode cL_law 23 = .ok (.iload 4, 2) := by decide +kernel
theorem dL_law_25 : decode cL_law 25 = .ok (.aload_n 0, 1) := by decide +kernel
theorem dL_law_26 : decode cL_law 26 = .ok (.arraylength, 1) := by decide +kernel
theorem dL_law_27 : decode cL_law 27 = .ok (.iconst 5, 1) := by decide +kernel
theorem dL_law_28 : decode cL_law 28 = .ok (.isub, 1) := by decide +kernel
theorem dL_law_29 : decode cL_law 29 = .ok (.if_icmp .gt 570, 3) := by decide +kernel
theorem dL_law_32 : decode cL_law 32 = .ok (.aload_n 0, 1) := by decide +kernel
theorem dL_law_33 : decode cL_law 33 = .ok (.iload 4, 2) := by decide +kernel
theorem dL_law_35 : decode cL_law 35 = .ok (.iaload, 1) := by decide +kernel
theorem dL_law_36 : decode cL_law 36 = .ok (.bipush 15, 2) := by decide +kernel
theorem dL_law_38 : decode cL_law 38 = .ok (.iand, 1) := by decide +kernel
theorem dL_law_39 : decode cL_law 39 = .ok (.tableswitch 554 0 11 #[61, 153, 209, 253, 297, 310, 366, 422, 502, 515, 528, 541], 61) := by decide +kernel
theorem dL_law_100 : decode cL_law 100 = .ok (.aload_n 1, 1) := by decide +kernel
theorem dL_law_101 : decode cL_law 101 = .ok (.aload_n 0, 1) := by decide +kernel
theorem dL_law_102 : decode cL_law 102 = .ok (.iload 4, 2) := by decide +kernel
theorem dL_law_104 : decode cL_law 104 = .ok (.iconst 1, 1) := by decide +kernel
theorem dL_law_105 : decode cL_law 105 = .ok (.iadd, 1) := by decide +kernel
theorem dL_law_106 : decode cL_law 106 = .ok (.iaload, 1) := by decide +kernel
theorem dL_law_107 : decode cL_law 107 = .ok (.aload_n 0, 1) := by decide +kernel
theorem dL_law_108 : decode cL_law 108 = .ok (.iload 4, 2) := by decide +kernel
theorem dL_law_110 : decode cL_law 110 = .ok (.iconst 2, 1) := by decide +kernel
theorem dL_law_111 : decode cL_law 111 = .ok (.iadd, 1) := by decide +kernel
theorem dL_law_112 : decode cL_law 112 = .ok (.iaload, 1) := by decide +kernel
theorem dL_law_113 : decode cL_law 113 = .ok (.aload_n 0, 1) := by decide +kernel
theorem dL_law_114 : decode cL_law 114 = .ok (.iload 4, 2) := by decide +kernel
theorem dL_law_116 : decode cL_law 116 = .ok (.iconst 3, 1) := by decide +kernel
theorem dL_law_117 : decode cL_law 117 = .ok (.iadd, 1) := by decide +kernel
theorem dL_law_118 : decode cL_law 118 = .ok (.iaload, 1) := by decide +kernel
theorem dL_law_119 : decode cL_law 119 = .ok (.aload_n 0, 1) := by decide +kernel
theorem dL_law_120 : decode cL_law 120 = .ok (.iload 4, 2) := by decide +kernel
theorem dL_law_122 : decode cL_law 122 = .ok (.iconst 4, 1) := by decide +kernel
theorem dL_law_123 : decode cL_law 123 = .ok (.iadd, 1) := by decide +kernel
theorem dL_law_124 : decode cL_law 124 = .ok (.iaload, 1) := by decide +kernel
theorem dL_law_125 : decode cL_law 125 = .ok (.aload_n 3, 1) := by decide +kernel
theorem dL_law_126 : decode cL_law 126 = .ok (.invokestatic 44, 3) := by decide +kernel
theorem dL_law_129 : decode cL_law 129 = .ok (.istore 5, 2) := by decide +kernel
theorem dL_law_131 : decode cL_law 131 = .ok (.aload_n 2, 1) := by decide +kernel
theorem dL_law_132 : decode cL_law 132 = .ok (.aload_n 0, 1) := by decide +kernel
theorem dL_law_133 : decode cL_law 133 = .ok (.iload 4, 2) := by decide +kernel
theorem dL_law_135 : decode cL_law 135 = .ok (.iconst 1, 1) := by decide +kernel
theorem dL_law_136 : decode cL_law 136 = .ok (.iadd, 1) := by decide +kernel
theorem dL_law_137 : decode cL_law 137 = .ok (.iaload, 1) := by decide +kernel
theorem dL_law_138 : decode cL_law 138 = .ok (.aload_n 0, 1) := by decide +kernel
theorem dL_law_139 : decode cL_law 139 = .ok (.iload 4, 2) := by decide +kernel
theorem dL_law_141 : decode cL_law 141 = .ok (.iconst 2, 1) := by decide +kernel
theorem dL_law_142 : decode cL_law 142 = .ok (.iadd, 1) := by decide +kernel
theorem dL_law_143 : decode cL_law 143 = .ok (.iaload, 1) := by decide +kernel
theorem dL_law_144 : decode cL_law 144 = .ok (.aload_n 0, 1) := by decide +kernel
theorem dL_law_145 : decode cL_law 145 = .ok (.iload 4, 2) := by decide +kernel
theorem dL_law_147 : decode cL_law 147 = .ok (.iconst 3, 1) := by decide +kernel
theorem dL_law_148 : decode cL_law 148 = .ok (.iadd, 1) := by decide +kernel
theorem dL_law_149 : decode cL_law 149 = .ok (.iaload, 1) := by decide +kernel
theorem dL_law_150 : decode cL_law 150 = .ok (.aload_n 0, 1) := by decide +kernel
theorem dL_law_151 : decode cL_law 151 = .ok (.iload 4, 2) := by decide +kernel
theorem dL_law_153 : decode cL_law 153 = .ok (.iconst 4, 1) := by decide +kernel
theorem dL_law_154 : decode cL_law 154 = .ok (.iadd, 1) := by decide +kernel
theorem dL_law_155 : decode cL_law 155 = .ok (.iaload, 1) := by decide +kernel
theorem dL_law_156 : decode cL_law 156 = .ok (.invokevirtual 49, 3) := by decide +kernel
theorem dL_law_159 : decode cL_law 159 = .ok (.istore 6, 2) := by decide +kernel
theorem dL_law_161 : decode cL_law 161 = .ok (.aload_n 2, 1) := by decide +kernel
theorem dL_law_162 : decode cL_law 162 = .ok (.invokevirtual 50, 3) := by decide +kernel
theorem dL_law_165 : decode cL_law 165 = .ok (.iload 5, 2) := by decide +kernel
theorem dL_law_167 : decode cL_law 167 = .ok (.if_icmp .eq 5, 3) := by decide +kernel
theorem dL_law_170 : decode cL_law 170 = .ok (.iconst 0, 1) := by decide +kernel
theorem dL_law_171 : decode cL_law 171 = .ok (.ireturn, 1) := by decide +kernel
theorem dL_law_172 : decode cL_law 172 = .ok (.iload 5, 2) := by decide +kernel
theorem dL_law_174 : decode cL_law 174 = .ok (.ifCond .ne 15, 3) := by decide +kernel
theorem dL_law_177 : decode cL_law 177 = .ok (.aload_n 3, 1) := by decide +kernel
theorem dL_law_178 : decode cL_law 178 = .ok (.iconst 0, 1) := by decide +kernel
theorem dL_law_179 : decode cL_law 179 = .ok (.laload, 1) := by decide +kernel
theorem dL_law_180 : decode cL_law 180 = .ok (.iload 6, 2) := by decide +kernel
theorem dL_law_182 : decode cL_law 182 = .ok (.i2l, 1) := by decide +kernel
theorem dL_law_183 : decode cL_law 183 = .ok (.lcmp, 1) := by decide +kernel
theorem dL_law_184 : decode cL_law 184 = .ok (.ifCond .eq 5, 3) := by decide +kernel
theorem dL_law_187 : decode cL_law 187 = .ok (.iconst 0, 1) := by decide +kernel
theorem dL_law_188 : decode cL_law 188 = .ok (.ireturn, 1) := by decide +kernel
theorem dL_law_189 : decode cL_law 189 = .ok (.goto 404, 3) := by decide +kernel
theorem dL_law_192 : decode cL_law 192 = .ok (.aload_n 1, 1) := by decide +kernel
theorem dL_law_193 : decode cL_law 193 = .ok (.aload_n 0, 1) := by decide +kernel
theorem dL_law_194 : decode cL_law 194 = .ok (.iload 4, 2) := by decide +kernel
theorem dL_law_196 : decode cL_law 196 = .ok (.iconst 1, 1) := by decide +kernel
theorem dL_law_197 : decode cL_law 197 = .ok (.iadd, 1) := by decide +kernel
theorem dL_law_198 : decode cL_law 198 = .ok (.iaload, 1) := by decide +kernel
theorem dL_law_199 : decode cL_law 199 = .ok (.aload_n 3, 1) := by decide +kernel
theorem dL_law_200 : decode cL_law 200 = .ok (.invokestatic 53, 3) := by decide +kernel
theorem dL_law_203 : decode cL_law 203 = .ok (.istore 5, 2) := by decide +kernel
theorem dL_law_205 : decode cL_law 205 = .ok (.aload_n 2, 1) := by decide +kernel
theorem dL_law_206 : decode cL_law 206 = .ok (.aload_n 0, 1) := by decide +kernel
theorem dL_law_207 : decode cL_law 207 = .ok (.iload 4, 2) := by decide +kernel
theorem dL_law_209 : decode cL_law 209 = .ok (.iconst 1, 1) := by decide +kernel
theorem dL_law_210 : decode cL_law 210 = .ok (.iadd, 1) := by decide +kernel
theorem dL_law_211 : decode cL_law 211 = .ok (.iaload, 1) := by decide +kernel
theorem dL_law_212 : decode cL_law 212 = .ok (.invokevirtual 56, 3) := by decide +kernel
theorem dL_law_215 : decode cL_law 215 = .ok (.istore 6, 2) := by decide +kernel
theorem dL_law_217 : decode cL_law 217 = .ok (.aload_n 2, 1) := by decide +kernel
theorem dL_law_218 : decode cL_law 218 = .ok (.invokevirtual 50, 3) := by decide +kernel
theorem dL_law_221 : decode cL_law 221 = .ok (.iload 5, 2) := by decide +kernel
theorem dL_law_223 : decode cL_law 223 = .ok (.if_icmp .eq 5, 3) := by decide +kernel
theorem dL_law_226 : decode cL_law 226 = .ok (.iconst 0, 1) := by decide +kernel
theorem dL_law_227 : decode cL_law 227 = .ok (.ireturn, 1) := by decide +kernel
theorem dL_law_228 : decode cL_law 228 = .ok (.iload 5, 2) := by decide +kernel
theorem dL_law_230 : decode cL_law 230 = .ok (.ifCond .ne 15, 3) := by decide +kernel
theorem dL_law_233 : decode cL_law 233 = .ok (.aload_n 3, 1) := by decide +kernel
theorem dL_law_234 : decode cL_law 234 = .ok (.iconst 0, 1) := by decide +kernel
theorem dL_law_235 : decode cL_law 235 = .ok (.laload, 1) := by decide +kernel
theorem dL_law_236 : decode cL_law 236 = .ok (.iload 6, 2) := by decide +kernel
theorem dL_law_238 : decode cL_law 238 = .ok (.i2l, 1) := by decide +kernel
theorem dL_law_239 : decode cL_law 239 = .ok (.lcmp, 1) := by decide +kernel
theorem dL_law_240 : decode cL_law 240 = .ok (.ifCond .eq 5, 3) := by decide +kernel
theorem dL_law_243 : decode cL_law 243 = .ok (.iconst 0, 1) := by decide +kernel
theorem dL_law_244 : decode cL_law 244 = .ok (.ireturn, 1) := by decide +kernel
theorem dL_law_245 : decode cL_law 245 = .ok (.goto 348, 3) := by decide +kernel
theorem dL_law_248 : decode cL_law 248 = .ok (.aload_n 1, 1) := by decide +kernel
theorem dL_law_249 : decode cL_law 249 = .ok (.aload_n 3, 1) := by decide +kernel
theorem dL_law_250 : decode cL_law 250 = .ok (.invokestatic 57, 3) := by decide +kernel
theorem dL_law_253 : decode cL_law 253 = .ok (.istore 5, 2) := by decide +kernel
theorem dL_law_255 : decode cL_law 255 = .ok (.aload_n 2, 1) := by decide +kernel
theorem dL_law_256 : decode cL_law 256 = .ok (.invokevirtual 60, 3) := by decide +kernel
theorem dL_law_259 : decode cL_law 259 = .ok (.istore 6, 2) := by decide +kernel
theorem dL_law_261 : decode cL_law 261 = .ok (.aload_n 2, 1) := by decide +kernel
theorem dL_law_262 : decode cL_law 262 = .ok (.invokevirtual 50, 3) := by decide +kernel
theorem dL_law_265 : decode cL_law 265 = .ok (.iload 5, 2) := by decide +kernel
theorem dL_law_267 : decode cL_law 267 = .ok (.if_icmp .eq 5, 3) := by decide +kernel
theorem dL_law_270 : decode cL_law 270 = .ok (.iconst 0, 1) := by decide +kernel
theorem dL_law_271 : decode cL_law 271 = .ok (.ireturn, 1) := by decide +kernel
theorem dL_law_272 : decode cL_law 272 = .ok (.iload 5, 2) := by decide +kernel
theorem dL_law_274 : decode cL_law 274 = .ok (.ifCond .ne 15, 3) := by decide +kernel
theorem dL_law_277 : decode cL_law 277 = .ok (.aload_n 3, 1) := by decide +kernel
theorem dL_law_278 : decode cL_law 278 = .ok (.iconst 0, 1) := by decide +kernel
theorem dL_law_279 : decode cL_law 279 = .ok (.laload, 1) := by decide +kernel
theorem dL_law_280 : decode cL_law 280 = .ok (.iload 6, 2) := by decide +kernel
theorem dL_law_282 : decode cL_law 282 = .ok (.i2l, 1) := by decide +kernel
theorem dL_law_283 : decode cL_law 283 = .ok (.lcmp, 1) := by decide +kernel
theorem dL_law_284 : decode cL_law 284 = .ok (.ifCond .eq 5, 3) := by decide +kernel
theorem dL_law_287 : decode cL_law 287 = .ok (.iconst 0, 1) := by decide +kernel
theorem dL_law_288 : decode cL_law 288 = .ok (.ireturn, 1) := by decide +kernel
theorem dL_law_289 : decode cL_law 289 = .ok (.goto 304, 3) := by decide +kernel
theorem dL_law_292 : decode cL_law 292 = .ok (.aload_n 1, 1) := by decide +kernel
theorem dL_law_293 : decode cL_law 293 = .ok (.aload_n 3, 1) := by decide +kernel
theorem dL_law_294 : decode cL_law 294 = .ok (.invokestatic 61, 3) := by decide +kernel
theorem dL_law_297 : decode cL_law 297 = .ok (.istore 5, 2) := by decide +kernel
theorem dL_law_299 : decode cL_law 299 = .ok (.aload_n 2, 1) := by decide +kernel
theorem dL_law_300 : decode cL_law 300 = .ok (.invokevirtual 63, 3) := by decide +kernel
theorem dL_law_303 : decode cL_law 303 = .ok (.istore 6, 2) := by decide +kernel
theorem dL_law_305 : decode cL_law 305 = .ok (.aload_n 2, 1) := by decide +kernel
theorem dL_law_306 : decode cL_law 306 = .ok (.invokevirtual 50, 3) := by decide +kernel
theorem dL_law_309 : decode cL_law 309 = .ok (.iload 5, 2) := by decide +kernel
theorem dL_law_311 : decode cL_law 311 = .ok (.if_icmp .eq 5, 3) := by decide +kernel
theorem dL_law_314 : decode cL_law 314 = .ok (.iconst 0, 1) := by decide +kernel
theorem dL_law_315 : decode cL_law 315 = .ok (.ireturn, 1) := by decide +kernel
theorem dL_law_316 : decode cL_law 316 = .ok (.iload 5, 2) := by decide +kernel
theorem dL_law_318 : decode cL_law 318 = .ok (.ifCond .ne 15, 3) := by decide +kernel
theorem dL_law_321 : decode cL_law 321 = .ok (.aload_n 3, 1) := by decide +kernel
theorem dL_law_322 : decode cL_law 322 = .ok (.iconst 0, 1) := by decide +kernel
theorem dL_law_323 : decode cL_law 323 = .ok (.laload, 1) := by decide +kernel
theorem dL_law_324 : decode cL_law 324 = .ok (.iload 6, 2) := by decide +kernel
theorem dL_law_326 : decode cL_law 326 = .ok (.i2l, 1) := by decide +kernel
theorem dL_law_327 : decode cL_law 327 = .ok (.lcmp, 1) := by decide +kernel
theorem dL_law_328 : decode cL_law 328 = .ok (.ifCond .eq 5, 3) := by decide +kernel
theorem dL_law_331 : decode cL_law 331 = .ok (.iconst 0, 1) := by decide +kernel
theorem dL_law_332 : decode cL_law 332 = .ok (.ireturn, 1) := by decide +kernel
theorem dL_law_333 : decode cL_law 333 = .ok (.goto 260, 3) := by decide +kernel
theorem dL_law_336 : decode cL_law 336 = .ok (.aload_n 1, 1) := by decide +kernel
theorem dL_law_337 : decode cL_law 337 = .ok (.invokevirtual 64, 3) := by decide +kernel
theorem dL_law_340 : decode cL_law 340 = .ok (.aload_n 2, 1) := by decide +kernel
theorem dL_law_341 : decode cL_law 341 = .ok (.invokevirtual 68, 3) := by decide +kernel
theorem dL_law_344 : decode cL_law 344 = .ok (.if_icmp .eq 249, 3) := by decide +kernel
theorem dL_law_347 : decode cL_law 347 = .ok (.iconst 0, 1) := by decide +kernel
theorem dL_law_348 : decode cL_law 348 = .ok (.ireturn, 1) := by decide +kernel
theorem dL_law_349 : decode cL_law 349 = .ok (.aload_n 1, 1) := by decide +kernel
theorem dL_law_350 : decode cL_law 350 = .ok (.aload_n 0, 1) := by decide +kernel
theorem dL_law_351 : decode cL_law 351 = .ok (.iload 4, 2) := by decide +kernel
theorem dL_law_353 : decode cL_law 353 = .ok (.iconst 1, 1) := by decide +kernel
theorem dL_law_354 : decode cL_law 354 = .ok (.iadd, 1) := by decide +kernel
theorem dL_law_355 : decode cL_law 355 = .ok (.iaload, 1) := by decide +kernel
theorem dL_law_356 : decode cL_law 356 = .ok (.aload_n 3, 1) := by decide +kernel
theorem dL_law_357 : decode cL_law 357 = .ok (.invokestatic 69, 3) := by decide +kernel
theorem dL_law_360 : decode cL_law 360 = .ok (.istore 5, 2) := by decide +kernel
theorem dL_law_362 : decode cL_law 362 = .ok (.aload_n 2, 1) := by decide +kernel
theorem dL_law_363 : decode cL_law 363 = .ok (.aload_n 0, 1) := by decide +kernel
theorem dL_law_364 : decode cL_law 364 = .ok (.iload 4, 2) := by decide +kernel
theorem dL_law_366 : decode cL_law 366 = .ok (.iconst 1, 1) := by decide +kernel
theorem dL_law_367 : decode cL_law 367 = .ok (.iadd, 1) := by decide +kernel
theorem dL_law_368 : decode cL_law 368 = .ok (.iaload, 1) := by decide +kernel
theorem dL_law_369 : decode cL_law 369 = .ok (.invokevirtual 71, 3) := by decide +kernel
theorem dL_law_372 : decode cL_law 372 = .ok (.istore 6, 2) := by decide +kernel
theorem dL_law_374 : decode cL_law 374 = .ok (.aload_n 2, 1) := by decide +kernel
theorem dL_law_375 : decode cL_law 375 = .ok (.invokevirtual 50, 3) := by decide +kernel
theorem dL_law_378 : decode cL_law 378 = .ok (.iload 5, 2) := by decide +kernel
theorem dL_law_380 : decode cL_law 380 = .ok (.if_icmp .eq 5, 3) := by decide +kernel
theorem dL_law_383 : decode cL_law 383 = .ok (.iconst 0, 1) := by decide +kernel
theorem dL_law_384 : decode cL_law 384 = .ok (.ireturn, 1) := by decide +kernel
theorem dL_law_385 : decode cL_law 385 = .ok (.iload 5, 2) := by decide +kernel
theorem dL_law_387 : decode cL_law 387 = .ok (.ifCond .ne 15, 3) := by decide +kernel
theorem dL_law_390 : decode cL_law 390 = .ok (.aload_n 3, 1) := by decide +kernel
theorem dL_law_391 : decode cL_law 391 = .ok (.iconst 0, 1) := by decide +kernel
theorem dL_law_392 : decode cL_law 392 = .ok (.laload, 1) := by decide +kernel
theorem dL_law_393 : decode cL_law 393 = .ok (.iload 6, 2) := by decide +kernel
theorem dL_law_395 : decode cL_law 395 = .ok (.i2l, 1) := by decide +kernel
theorem dL_law_396 : decode cL_law 396 = .ok (.lcmp, 1) := by decide +kernel
theorem dL_law_397 : decode cL_law 397 = .ok (.ifCond .eq 5, 3) := by decide +kernel
theorem dL_law_400 : decode cL_law 400 = .ok (.iconst 0, 1) := by decide +kernel
theorem dL_law_401 : decode cL_law 401 = .ok (.ireturn, 1) := by decide +kernel
theorem dL_law_402 : decode cL_law 402 = .ok (.goto 191, 3) := by decide +kernel
theorem dL_law_405 : decode cL_law 405 = .ok (.aload_n 1, 1) := by decide +kernel
theorem dL_law_406 : decode cL_law 406 = .ok (.aload_n 0, 1) := by decide +kernel
theorem dL_law_407 : decode cL_law 407 = .ok (.iload 4, 2) := by decide +kernel
theorem dL_law_409 : decode cL_law 409 = .ok (.iconst 1, 1) := by decide +kernel
theorem dL_law_410 : decode cL_law 410 = .ok (.iadd, 1) := by decide +kernel
theorem dL_law_411 : decode cL_law 411 = .ok (.iaload, 1) := by decide +kernel
theorem dL_law_412 : decode cL_law 412 = .ok (.aload_n 3, 1) := by decide +kernel
theorem dL_law_413 : decode cL_law 413 = .ok (.invokestatic 72, 3) := by decide +kernel
theorem dL_law_416 : decode cL_law 416 = .ok (.istore 5, 2) := by decide +kernel
theorem dL_law_418 : decode cL_law 418 = .ok (.aload_n 2, 1) := by decide +kernel
theorem dL_law_419 : decode cL_law 419 = .ok (.aload_n 0, 1) := by decide +kernel
theorem dL_law_420 : decode cL_law 420 = .ok (.iload 4, 2) := by decide +kernel
theorem dL_law_422 : decode cL_law 422 = .ok (.iconst 1, 1) := by decide +kernel
theorem dL_law_423 : decode cL_law 423 = .ok (.iadd, 1) := by decide +kernel
theorem dL_law_424 : decode cL_law 424 = .ok (.iaload, 1) := by decide +kernel
theorem dL_law_425 : decode cL_law 425 = .ok (.invokevirtual 74, 3) := by decide +kernel
theorem dL_law_428 : decode cL_law 428 = .ok (.istore 6, 2) := by decide +kernel
theorem dL_law_430 : decode cL_law 430 = .ok (.aload_n 2, 1) := by decide +kernel
theorem dL_law_431 : decode cL_law 431 = .ok (.invokevirtual 50, 3) := by decide +kernel
theorem dL_law_434 : decode cL_law 434 = .ok (.iload 5, 2) := by decide +kernel
theorem dL_law_436 : decode cL_law 436 = .ok (.if_icmp .eq 5, 3) := by decide +kernel
theorem dL_law_439 : decode cL_law 439 = .ok (.iconst 0, 1) := by decide +kernel
theorem dL_law_440 : decode cL_law 440 = .ok (.ireturn, 1) := by decide +kernel
theorem dL_law_441 : decode cL_law 441 = .ok (.iload 5, 2) := by decide +kernel
theorem dL_law_443 : decode cL_law 443 = .ok (.ifCond .ne 15, 3) := by decide +kernel
theorem dL_law_446 : decode cL_law 446 = .ok (.aload_n 3, 1) := by decide +kernel
theorem dL_law_447 : decode cL_law 447 = .ok (.iconst 0, 1) := by decide +kernel
theorem dL_law_448 : decode cL_law 448 = .ok (.laload, 1) := by decide +kernel
theorem dL_law_449 : decode cL_law 449 = .ok (.iload 6, 2) := by decide +kernel
theorem dL_law_451 : decode cL_law 451 = .ok (.i2l, 1) := by decide +kernel
theorem dL_law_452 : decode cL_law 452 = .ok (.lcmp, 1) := by decide +kernel
theorem dL_law_453 : decode cL_law 453 = .ok (.ifCond .eq 5, 3) := by decide +kernel
theorem dL_law_456 : decode cL_law 456 = .ok (.iconst 0, 1) := by decide +kernel
theorem dL_law_457 : decode cL_law 457 = .ok (.ireturn, 1) := by decide +kernel
theorem dL_law_458 : decode cL_law 458 = .ok (.goto 135, 3) := by decide +kernel
theorem dL_law_461 : decode cL_law 461 = .ok (.aload_n 1, 1) := by decide +kernel
theorem dL_law_462 : decode cL_law 462 = .ok (.aload_n 0, 1) := by decide +kernel
theorem dL_law_463 : decode cL_law 463 = .ok (.iload 4, 2) := by decide +kernel
theorem dL_law_465 : decode cL_law 465 = .ok (.iconst 1, 1) := by decide +kernel
theorem dL_law_466 : decode cL_law 466 = .ok (.iadd, 1) := by decide +kernel
theorem dL_law_467 : decode cL_law 467 = .ok (.iaload, 1) := by decide +kernel
theorem dL_law_468 : decode cL_law 468 = .ok (.aload_n 0, 1) := by decide +kernel
theorem dL_law_469 : decode cL_law 469 = .ok (.iload 4, 2) := by decide +kernel
theorem dL_law_471 : decode cL_law 471 = .ok (.iconst 2, 1) := by decide +kernel
theorem dL_law_472 : decode cL_law 472 = .ok (.iadd, 1) := by decide +kernel
theorem dL_law_473 : decode cL_law 473 = .ok (.iaload, 1) := by decide +kernel
theorem dL_law_474 : decode cL_law 474 = .ok (.aload_n 0, 1) := by decide +kernel
theorem dL_law_475 : decode cL_law 475 = .ok (.iload 4, 2) := by decide +kernel
theorem dL_law_477 : decode cL_law 477 = .ok (.iconst 3, 1) := by decide +kernel
theorem dL_law_478 : decode cL_law 478 = .ok (.iadd, 1) := by decide +kernel
theorem dL_law_479 : decode cL_law 479 = .ok (.iaload, 1) := by decide +kernel
theorem dL_law_480 : decode cL_law 480 = .ok (.aload_n 3, 1) := by decide +kernel
theorem dL_law_481 : decode cL_law 481 = .ok (.invokestatic 75, 3) := by decide +kernel
theorem dL_law_484 : decode cL_law 484 = .ok (.istore 5, 2) := by decide +kernel
theorem dL_law_486 : decode cL_law 486 = .ok (.aload_n 2, 1) := by decide +kernel
theorem dL_law_487 : decode cL_law 487 = .ok (.aload_n 0, 1) := by decide +kernel
theorem dL_law_488 : decode cL_law 488 = .ok (.iload 4, 2) := by decide +kernel
theorem dL_law_490 : decode cL_law 490 = .ok (.iconst 1, 1) := by decide +kernel
theorem dL_law_491 : decode cL_law 491 = .ok (.iadd, 1) := by decide +kernel
theorem dL_law_492 : decode cL_law 492 = .ok (.iaload, 1) := by decide +kernel
theorem dL_law_493 : decode cL_law 493 = .ok (.aload_n 0, 1) := by decide +kernel
theorem dL_law_494 : decode cL_law 494 = .ok (.iload 4, 2) := by decide +kernel
theorem dL_law_496 : decode cL_law 496 = .ok (.iconst 2, 1) := by decide +kernel
theorem dL_law_497 : decode cL_law 497 = .ok (.iadd, 1) := by decide +kernel
theorem dL_law_498 : decode cL_law 498 = .ok (.iaload, 1) := by decide +kernel
theorem dL_law_499 : decode cL_law 499 = .ok (.aload_n 0, 1) := by decide +kernel
theorem dL_law_500 : decode cL_law 500 = .ok (.iload 4, 2) := by decide +kernel
theorem dL_law_502 : decode cL_law 502 = .ok (.iconst 3, 1) := by decide +kernel
theorem dL_law_503 : decode cL_law 503 = .ok (.iadd, 1) := by decide +kernel
theorem dL_law_504 : decode cL_law 504 = .ok (.iaload, 1) := by decide +kernel
theorem dL_law_505 : decode cL_law 505 = .ok (.invokevirtual 78, 3) := by decide +kernel
theorem dL_law_508 : decode cL_law 508 = .ok (.istore 6, 2) := by decide +kernel
theorem dL_law_510 : decode cL_law 510 = .ok (.aload_n 2, 1) := by decide +kernel
theorem dL_law_511 : decode cL_law 511 = .ok (.invokevirtual 50, 3) := by decide +kernel
theorem dL_law_514 : decode cL_law 514 = .ok (.iload 5, 2) := by decide +kernel
theorem dL_law_516 : decode cL_law 516 = .ok (.if_icmp .eq 5, 3) := by decide +kernel
theorem dL_law_519 : decode cL_law 519 = .ok (.iconst 0, 1) := by decide +kernel
theorem dL_law_520 : decode cL_law 520 = .ok (.ireturn, 1) := by decide +kernel
theorem dL_law_521 : decode cL_law 521 = .ok (.iload 5, 2) := by decide +kernel
theorem dL_law_523 : decode cL_law 523 = .ok (.ifCond .ne 15, 3) := by decide +kernel
theorem dL_law_526 : decode cL_law 526 = .ok (.aload_n 3, 1) := by decide +kernel
theorem dL_law_527 : decode cL_law 527 = .ok (.iconst 0, 1) := by decide +kernel
theorem dL_law_528 : decode cL_law 528 = .ok (.laload, 1) := by decide +kernel
theorem dL_law_529 : decode cL_law 529 = .ok (.iload 6, 2) := by decide +kernel
theorem dL_law_531 : decode cL_law 531 = .ok (.i2l, 1) := by decide +kernel
theorem dL_law_532 : decode cL_law 532 = .ok (.lcmp, 1) := by decide +kernel
theorem dL_law_533 : decode cL_law 533 = .ok (.ifCond .eq 5, 3) := by decide +kernel
theorem dL_law_536 : decode cL_law 536 = .ok (.iconst 0, 1) := by decide +kernel
theorem dL_law_537 : decode cL_law 537 = .ok (.ireturn, 1) := by decide +kernel
theorem dL_law_538 : decode cL_law 538 = .ok (.goto 55, 3) := by decide +kernel
theorem dL_law_541 : decode cL_law 541 = .ok (.aload_n 1, 1) := by decide +kernel
theorem dL_law_542 : decode cL_law 542 = .ok (.invokevirtual 79, 3) := by decide +kernel
theorem dL_law_545 : decode cL_law 545 = .ok (.aload_n 2, 1) := by decide +kernel
theorem dL_law_546 : decode cL_law 546 = .ok (.invokevirtual 82, 3) := by decide +kernel
theorem dL_law_549 : decode cL_law 549 = .ok (.if_icmp .eq 44, 3) := by decide +kernel
theorem dL_law_552 : decode cL_law 552 = .ok (.iconst 0, 1) := by decide +kernel
theorem dL_law_553 : decode cL_law 553 = .ok (.ireturn, 1) := by decide +kernel
theorem dL_law_554 : decode cL_law 554 = .ok (.aload_n 1, 1) := by decide +kernel
theorem dL_law_555 : decode cL_law 555 = .ok (.invokevirtual 83, 3) := by decide +kernel
theorem dL_law_558 : decode cL_law 558 = .ok (.aload_n 2, 1) := by decide +kernel
theorem dL_law_559 : decode cL_law 559 = .ok (.invokevirtual 86, 3) := by decide +kernel
theorem dL_law_562 : decode cL_law 562 = .ok (.if_icmp .eq 31, 3) := by decide +kernel
theorem dL_law_565 : decode cL_law 565 = .ok (.iconst 0, 1) := by decide +kernel
theorem dL_law_566 : decode cL_law 566 = .ok (.ireturn, 1) := by decide +kernel
theorem dL_law_567 : decode cL_law 567 = .ok (.aload_n 1, 1) := by decide +kernel
theorem dL_law_568 : decode cL_law 568 = .ok (.invokevirtual 87, 3) := by decide +kernel
theorem dL_law_571 : decode cL_law 571 = .ok (.aload_n 2, 1) := by decide +kernel
theorem dL_law_572 : decode cL_law 572 = .ok (.invokevirtual 90, 3) := by decide +kernel
theorem dL_law_575 : decode cL_law 575 = .ok (.if_icmp .eq 18, 3) := by decide +kernel
theorem dL_law_578 : decode cL_law 578 = .ok (.iconst 0, 1) := by decide +kernel
theorem dL_law_579 : decode cL_law 579 = .ok (.ireturn, 1) := by decide +kernel
theorem dL_law_580 : decode cL_law 580 = .ok (.aload_n 1, 1) := by decide +kernel
theorem dL_law_581 : decode cL_law 581 = .ok (.invokevirtual 91, 3) := by decide +kernel
theorem dL_law_584 : decode cL_law 584 = .ok (.aload_n 2, 1) := by decide +kernel
theorem dL_law_585 : decode cL_law 585 = .ok (.invokevirtual 94, 3) := by decide +kernel
theorem dL_law_588 : decode cL_law 588 = .ok (.if_icmp .eq 5, 3) := by decide +kernel
theorem dL_law_591 : decode cL_law 591 = .ok (.iconst 0, 1) := by decide +kernel
theorem dL_law_592 : decode cL_law 592 = .ok (.ireturn, 1) := by decide +kernel
theorem dL_law_593 : decode cL_law 593 = .ok (.iinc 4 5, 3) := by decide +kernel
theorem dL_law_596 : decode cL_law 596 = .ok (.goto (-573), 3) := by decide +kernel
theorem dL_law_599 : decode cL_law 599 = .ok (.iconst 1, 1) := by decide +kernel
theorem dL_law_600 : decode cL_law 600 = .ok (.ireturn, 1) := by decide +kernel
end
section
/-! small rows for switches and booleans -/
theorem sw_out {x : Int32} (lo hi : Nat) (hh : hi < 2 ^ 31) (h : ∀ j : Nat, lo ≤ j → j ≤ hi → x ≠ nI j) : x.toInt < (lo : Int) ∨ (hi : Int) < x.toInt := by
  by_cases h1 : x.toInt < (lo : Int)
  · exact Or.inl h1
  · by_cases h2 : (hi : Int) < x.toInt
    · exact Or.inr h2
    · exfalso
      refine h x.toInt.toNat (by omega) (by omega) (Int32.toInt_inj.mp ?_)
      rw [nI_toInt (by omega)]
      omega
theorem sw_b {r : Int32} (h : r = 0 ∨ r = 1) : narrow .boolean (.int r) = .int r := by rcases h with rfl | rfl <;> rfl
set_option maxHeartbeats 4000000 in
set_option maxRecDepth 100000 in
theorem ctX1_isNan (l : Launch) (x : Int32) : Met l yX1_isNan wsX1_isNan ({ frames := 0, cells := 0, slots := 0, locals := 0 }) (va_Pc [.int x] (fun _ => True)) (vp_Si (fun r => r = pu_nan x)) 0 0 (fun _ => False) := by
  refine Met.ofW (cc := cX1_isNan) (maxL := 1) (ret := (some .boolean)) (by decide) rfl ?_
  intro p e s m args below meth c s₁ B hml hv
  obtain ⟨rfl, -⟩ := hv
  have hx := B.exec
  have hb := B.bytes
  have hr := B.returns
  have hts := atoms_spec (ws := wsX1_isNan) B.pre
  have hown : s.vm.findClass RX1 = some m.cls := findClass_of_methodNamed B.named
  have hlocks := B.notSynchronized
  have hl := lv_entry ([.int x]) (n := 1) (Nat.le_of_ble_eq_true rfl)
  rw [lg_entry_eq]
  generalize (lg_sl ([.int x]) ++ List.replicate (1 - (lg_sl ([.int x])).length) Slot.unset).toArray = ls at hl ⊢
  have hl : lv_has ls 1 [(0, .int x)] := hl
  refine lv_iload_n hx hb dX1_isNan_0 rfl (lv_at hl 0 rfl) ?_
  refine lv_bipush (v := 15) hx hb dX1_isNan_1 (by decide) ?_
  refine lv_iand hx hb dX1_isNan_3 ?_
  refine lv_bipush (v := 12) hx hb dX1_isNan_4 (by decide) ?_
  refine lv_icmp_le (tgt := 13) hx hb dX1_isNan_6 (by decide) (fun h1 => ?_) (fun h1 => ?_)
  · skip
    have h1b := Int32.not_lt.mpr h1
    refine lv_iconst (v := 0) hx hb dX1_isNan_13 (by decide) ?_
    exact W.zret (v := 0) hx hb hr (rfl) (fun t ht hW => ⟨0, rfl, by first | (simp only [pu_nan, h1, h1b, ↓reduceIte, not_true_eq_false, not_false_eq_true, and_true, true_and, and_false, false_and, or_true, true_or, or_false, false_or, and_self, or_self]; done) | (simp [pu_nan, h1, h1b]; done) | (simp_all [pu_nan]; done), ht⟩) (fun q hq => by cases hq) dX1_isNan_14
  · skip
    have h1b := Int32.not_le.mp h1
    refine lv_iconst (v := 1) hx hb dX1_isNan_9 (by decide) ?_
    refine lv_goto (tgt := 14) hx hb dX1_isNan_10 (by decide) ?_
    exact W.zret (v := 1) hx hb hr (rfl) (fun t ht hW => ⟨1, rfl, by first | (simp only [pu_nan, h1, h1b, ↓reduceIte, not_true_eq_false, not_false_eq_true, and_true, true_and, and_false, false_and, or_true, true_or, or_false, false_or, and_self, or_self]; done) | (simp [pu_nan, h1, h1b]; done) | (simp_all [pu_nan]; done), ht⟩) (fun q hq => by cases hq) dX1_isNan_14
set_option maxHeartbeats 4000000 in
set_option maxRecDepth 100000 in
theorem ctX1_isInfinite (l : Launch) (x : Int32) : Met l yX1_isInfinite wsX1_isInfinite ({ frames := 0, cells := 0, slots := 0, locals := 0 }) (va_Pc [.int x] (fun _ => True)) (vp_Si (fun r => r = pu_inf x)) 0 0 (fun _ => False) := by
  refine Met.ofW (cc := cX1_isInfinite) (maxL := 1) (ret := (some .boolean)) (by decide) rfl ?_
  intro p e s m args below meth c s₁ B hml hv
  obtain ⟨rfl, -⟩ := hv
  have hx := B.exec
  have hb := B.bytes
  have hr := B.returns
  have hts := atoms_spec (ws := wsX1_isInfinite) B.pre
  have hown : s.vm.findClass RX1 = some m.cls := findClass_of_methodNamed B.named
  have hlocks := B.notSynchronized
  have hl := lv_entry ([.int x]) (n := 1) (Nat.le_of_ble_eq_true rfl)
  rw [lg_entry_eq]
  generalize (lg_sl ([.int x]) ++ List.replicate (1 - (lg_sl ([.int x])).length) Slot.unset).toArray = ls at hl ⊢
  have hl : lv_has ls 1 [(0, .int x)] := hl
  refine lv_iload_n hx hb dX1_isInfinite_0 rfl (lv_at hl 0 rfl) ?_
  refine lv_bipush (v := 15) hx hb dX1_isInfinite_1 (by decide) ?_
  refine lv_iand hx hb dX1_isInfinite_3 ?_
  refine lv_bipush (v := 12) hx hb dX1_isInfinite_4 (by decide) ?_
  refine lv_icmp_ne (tgt := 13) hx hb dX1_isInfinite_6 (by decide) (fun h1 => ?_) (fun h1 => ?_)
  · skip
    refine lv_iconst (v := 0) hx hb dX1_isInfinite_13 (by decide) ?_
    exact W.zret (v := 0) hx hb hr (rfl) (fun t ht hW => ⟨0, rfl, by first | (simp only [pu_inf, h1, ↓reduceIte, not_true_eq_false, not_false_eq_true, and_true, true_and, and_false, false_and, or_true, true_or, or_false, false_or, and_self, or_self]; done) | (simp [pu_inf, h1]; done) | (simp_all [pu_inf]; done), ht⟩) (fun q hq => by cases hq) dX1_isInfinite_14
  · skip
    refine lv_iconst (v := 1) hx hb dX1_isInfinite_9 (by decide) ?_
    refine lv_goto (tgt := 14) hx hb dX1_isInfinite_10 (by decide) ?_
    exact W.zret (v := 1) hx hb hr (rfl) (fun t ht hW => ⟨1, rfl, by first | (simp only [pu_inf, h1, ↓reduceIte, not_true_eq_false, not_false_eq_true, and_true, true_and, and_false, false_and, or_true, true_or, or_false, false_or, and_self, or_self]; done) | (simp [pu_inf, h1]; done) | (simp_all [pu_inf]; done), ht⟩) (fun q hq => by cases hq) dX1_isInfinite_14
set_option maxHeartbeats 4000000 in
set_option maxRecDepth 100000 in
theorem ctX1_isZero (l : Launch) (x : Int32) : Met l yX1_isZero wsX1_isZero ({ frames := 0, cells := 0, slots := 0, locals := 0 }) (va_Pc [.int x] (fun _ => True)) (vp_Si (fun r => r = pu_zer x)) 0 0 (fun _ => False) := by
  refine Met.ofW (cc := cX1_isZero) (maxL := 1) (ret := (some .boolean)) (by decide) rfl ?_
  intro p e s m args below meth c s₁ B hml hv
  obtain ⟨rfl, -⟩ := hv
  have hx := B.exec
  have hb := B.bytes
  have hr := B.returns
  have hts := atoms_spec (ws := wsX1_isZero) B.pre
  have hown : s.vm.findClass RX1 = some m.cls := findClass_of_methodNamed B.named
  have hlocks := B.notSynchronized
  have hl := lv_entry ([.int x]) (n := 1) (Nat.le_of_ble_eq_true rfl)
  rw [lg_entry_eq]
  generalize (lg_sl ([.int x]) ++ List.replicate (1 - (lg_sl ([.int x])).length) Slot.unset).toArray = ls at hl ⊢
  have hl : lv_has ls 1 [(0, .int x)] := hl
  refine lv_iload_n hx hb dX1_isZero_0 rfl (lv_at hl 0 rfl) ?_
  refine lv_bipush (v := 15) hx hb dX1_isZero_1 (by decide) ?_
  refine lv_iand hx hb dX1_isZero_3 ?_
  refine lv_if_ne (tgt := 11) hx hb dX1_isZero_4 (by decide) (fun h1 => ?_) (fun h1 => ?_)
  · skip
    refine lv_iconst (v := 0) hx hb dX1_isZero_11 (by decide) ?_
    exact W.zret (v := 0) hx hb hr (rfl) (fun t ht hW => ⟨0, rfl, by first | (simp only [pu_zer, h1, ↓reduceIte, not_true_eq_false, not_false_eq_true, and_true, true_and, and_false, false_and, or_true, true_or, or_false, false_or, and_self, or_self]; done) | (simp [pu_zer, h1]; done) | (simp_all [pu_zer]; done), ht⟩) (fun q hq => by cases hq) dX1_isZero_12
  · skip
    refine lv_iconst (v := 1) hx hb dX1_isZero_7 (by decide) ?_
    refine lv_goto (tgt := 12) hx hb dX1_isZero_8 (by decide) ?_
    exact W.zret (v := 1) hx hb hr (rfl) (fun t ht hW => ⟨1, rfl, by first | (simp only [pu_zer, h1, ↓reduceIte, not_true_eq_false, not_false_eq_true, and_true, true_and, and_false, false_and, or_true, true_or, or_false, false_or, and_self, or_self]; done) | (simp [pu_zer, h1]; done) | (simp_all [pu_zer]; done), ht⟩) (fun q hq => by cases hq) dX1_isZero_12
set_option maxHeartbeats 4000000 in
set_option maxRecDepth 100000 in
theorem ctX1_negate (l : Launch) (x : Int32) : Met l yX1_negate wsX1_negate ({ frames := 0, cells := 0, slots := 0, locals := 0 }) (va_Pc [.int x] (fun _ => True)) (vp_Si (fun r => r = pu_neg x)) 0 0 (fun _ => False) := by
  refine Met.ofW (cc := cX1_negate) (maxL := 1) (ret := (some .int)) (by decide) rfl ?_
  intro p e s m args below meth c s₁ B hml hv
  obtain ⟨rfl, -⟩ := hv
  have hx := B.exec
  have hb := B.bytes
  have hr := B.returns
  have hts := atoms_spec (ws := wsX1_negate) B.pre
  have hown : s.vm.findClass RX1 = some m.cls := findClass_of_methodNamed B.named
  have hlocks := B.notSynchronized
  have hl := lv_entry ([.int x]) (n := 1) (Nat.le_of_ble_eq_true rfl)
  rw [lg_entry_eq]
  generalize (lg_sl ([.int x]) ++ List.replicate (1 - (lg_sl ([.int x])).length) Slot.unset).toArray = ls at hl ⊢
  have hl : lv_has ls 1 [(0, .int x)] := hl
  refine lv_iload_n hx hb dX1_negate_0 rfl (lv_at hl 0 rfl) ?_
  refine lv_bipush (v := 16) hx hb dX1_negate_1 (by decide) ?_
  refine lv_ixor hx hb dX1_negate_3 ?_
  exact W.iret (v := x ^^^ 16) hx hb hr (fun t ht hW => ⟨x ^^^ 16, rfl, by first | (simp only [pu_neg, ↓reduceIte, not_true_eq_false, not_false_eq_true, and_true, true_and, and_false, false_and, or_true, true_or, or_false, false_or, and_self, or_self]; done) | (simp [pu_neg]; done) | (simp_all [pu_neg]; done), ht⟩) (fun q hq => by cases hq) dX1_negate_4
set_option maxHeartbeats 4000000 in
set_option maxRecDepth 100000 in
theorem ctX1_signedQuarters (l : Launch) (x : Int32) : Met l yX1_signedQuarters wsX1_signedQuarters ({ frames := 0, cells := 0, slots := 0, locals := 0 }) (va_Pc [.int x] (fun _ => True)) (vp_Si (fun r => r = pu_sq x)) 0 0 (fun _ => False) := by
  refine Met.ofW (cc := cX1_signedQuarters) (maxL := 3) (ret := (some .int)) (by decide) rfl ?_
  intro p e s m args below meth c s₁ B hml hv
  obtain ⟨rfl, -⟩ := hv
  have hx := B.exec
  have hb := B.bytes
  have hr := B.returns
  have hts := atoms_spec (ws := wsX1_signedQuarters) B.pre
  have hown : s.vm.findClass RX1 = some m.cls := findClass_of_methodNamed B.named
  have hlocks := B.notSynchronized
  have hl := lv_entry ([.int x]) (n := 3) (Nat.le_of_ble_eq_true rfl)
  rw [lg_entry_eq]
  generalize (lg_sl ([.int x]) ++ List.replicate (3 - (lg_sl ([.int x])).length) Slot.unset).toArray = ls at hl ⊢
  have hl : lv_has ls 3 [(0, .int x)] := hl
  refine lv_iload_n hx hb dX1_signedQuarters_0 rfl (lv_at hl 0 rfl) ?_
  refine lv_bipush (v := 15) hx hb dX1_signedQuarters_1 (by decide) ?_
  refine lv_iand hx hb dX1_signedQuarters_3 ?_
  refine lv_istore_n (lv' := [(1, .int (x &&& 15)), (0, .int x)]) hx hb dX1_signedQuarters_4 rfl hl (by decide) rfl (fun ls hl => ?_)
  refine lv_iload_n hx hb dX1_signedQuarters_5 rfl (lv_at hl 0 rfl) ?_
  refine lv_bipush (v := 8) hx hb dX1_signedQuarters_6 (by decide) ?_
  refine lv_icmp_ge (tgt := 15) hx hb dX1_signedQuarters_8 (by decide) (fun h1 => ?_) (fun h1 => ?_)
  · skip
    have h1b := Int32.not_lt.mpr h1
    refine lv_iconst (v := 2) hx hb dX1_signedQuarters_15 (by decide) ?_
    refine lv_iload_n hx hb dX1_signedQuarters_16 rfl (lv_at hl 0 rfl) ?_
    refine lv_imul hx hb dX1_signedQuarters_17 ?_
    refine lv_bipush (v := 8) hx hb dX1_signedQuarters_18 (by decide) ?_
    refine lv_isub hx hb dX1_signedQuarters_20 ?_
    refine lv_istore_n (lv' := [(2, .int ((2 * (x &&& 15)) - 8)), (1, .int (x &&& 15)), (0, .int x)]) hx hb dX1_signedQuarters_21 rfl hl (by decide) rfl (fun ls hl => ?_)
    refine lv_iload_n hx hb dX1_signedQuarters_22 rfl (lv_at hl 2 rfl) ?_
    refine lv_bipush (v := 16) hx hb dX1_signedQuarters_23 (by decide) ?_
    refine lv_iand hx hb dX1_signedQuarters_25 ?_
    refine lv_if_ne (tgt := 33) hx hb dX1_signedQuarters_26 (by decide) (fun h2 => ?_) (fun h2 => ?_)
    · skip
      refine lv_iload_n hx hb dX1_signedQuarters_33 rfl (lv_at hl 0 rfl) ?_
      refine lv_ineg hx hb dX1_signedQuarters_34 ?_
      exact W.iret (v := -((2 * (x &&& 15)) - 8)) hx hb hr (fun t ht hW => ⟨-((2 * (x &&& 15)) - 8), rfl, by first | (simp only [pu_sq, pu_mag, h1, h1b, h2, ↓reduceIte, not_true_eq_false, not_false_eq_true, and_true, true_and, and_false, false_and, or_true, true_or, or_false, false_or, and_self, or_self]; done) | (simp [pu_sq, pu_mag, h1, h1b, h2]; done) | (simp_all [pu_sq, pu_mag]; done), ht⟩) (fun q hq => by cases hq) dX1_signedQuarters_35
    · skip
      refine lv_iload_n hx hb dX1_signedQuarters_29 rfl (lv_at hl 0 rfl) ?_
      refine lv_goto (tgt := 35) hx hb dX1_signedQuarters_30 (by decide) ?_
      exact W.iret (v := (2 * (x &&& 15)) - 8) hx hb hr (fun t ht hW => ⟨(2 * (x &&& 15)) - 8, rfl, by first | (simp only [pu_sq, pu_mag, h1, h1b, h2, ↓reduceIte, not_true_eq_false, not_false_eq_true, and_true, true_and, and_false, false_and, or_true, true_or, or_false, false_or, and_self, or_self]; done) | (simp [pu_sq, pu_mag, h1, h1b, h2]; done) | (simp_all [pu_sq, pu_mag]; done), ht⟩) (fun q hq => by cases hq) dX1_signedQuarters_35
  · skip
    have h1b := Int32.not_le.mp h1
    refine lv_iload_n hx hb dX1_signedQuarters_11 rfl (lv_at hl 0 rfl) ?_
    refine lv_goto (tgt := 21) hx hb dX1_signedQuarters_12 (by decide) ?_
    refine lv_istore_n (lv' := [(2, .int (x &&& 15)), (1, .int (x &&& 15)), (0, .int x)]) hx hb dX1_signedQuarters_21 rfl hl (by decide) rfl (fun ls hl => ?_)
    refine lv_iload_n hx hb dX1_signedQuarters_22 rfl (lv_at hl 2 rfl) ?_
    refine lv_bipush (v := 16) hx hb dX1_signedQuarters_23 (by decide) ?_
    refine lv_iand hx hb dX1_signedQuarters_25 ?_
    refine lv_if_ne (tgt := 33) hx hb dX1_signedQuarters_26 (by decide) (fun h3 => ?_) (fun h3 => ?_)
    · skip
      refine lv_iload_n hx hb dX1_signedQuarters_33 rfl (lv_at hl 0 rfl) ?_
      refine lv_ineg hx hb dX1_signedQuarters_34 ?_
      exact W.iret (v := -(x &&& 15)) hx hb hr (fun t ht hW => ⟨-(x &&& 15), rfl, by first | (simp only [pu_sq, pu_mag, h1, h1b, h3, ↓reduceIte, not_true_eq_false, not_false_eq_true, and_true, true_and, and_false, false_and, or_true, true_or, or_false, false_or, and_self, or_self]; done) | (simp [pu_sq, pu_mag, h1, h1b, h3]; done) | (simp_all [pu_sq, pu_mag]; done), ht⟩) (fun q hq => by cases hq) dX1_signedQuarters_35
    · skip
      refine lv_iload_n hx hb dX1_signedQuarters_29 rfl (lv_at hl 0 rfl) ?_
      refine lv_goto (tgt := 35) hx hb dX1_signedQuarters_30 (by decide) ?_
      exact W.iret (v := x &&& 15) hx hb hr (fun t ht hW => ⟨x &&& 15, rfl, by first | (simp only [pu_sq, pu_mag, h1, h1b, h3, ↓reduceIte, not_true_eq_false, not_false_eq_true, and_true, true_and, and_false, false_and, or_true, true_or, or_false, false_or, and_self, or_self]; done) | (simp [pu_sq, pu_mag, h1, h1b, h3]; done) | (simp_all [pu_sq, pu_mag]; done), ht⟩) (fun q hq => by cases hq) dX1_signedQuarters_35
set_option maxHeartbeats 4000000 in
set_option maxRecDepth 100000 in
theorem ctX1_rounded (l : Launch) (s0 : Int32) : Met l yX1_rounded wsX1_rounded ({ frames := 0, cells := 0, slots := 0, locals := 0 }) (va_Pc [.int s0] (fun _ => True)) (vp_Si (fun r => r = pu_rnd s0)) 0 0 (fun _ => False) := by
  refine Met.ofW (cc := cX1_rounded) (maxL := 5) (ret := (some .int)) (by decide) rfl ?_
  intro p e s m args below meth c s₁ B hml hv
  obtain ⟨rfl, -⟩ := hv
  have hx := B.exec
  have hb := B.bytes
  have hr := B.returns
  have hts := atoms_spec (ws := wsX1_rounded) B.pre
  have hown : s.vm.findClass RX1 = some m.cls := findClass_of_methodNamed B.named
  have hlocks := B.notSynchronized
  have hl := lv_entry ([.int s0]) (n := 5) (Nat.le_of_ble_eq_true rfl)
  rw [lg_entry_eq]
  generalize (lg_sl ([.int s0]) ++ List.replicate (5 - (lg_sl ([.int s0])).length) Slot.unset).toArray = ls at hl ⊢
  have hl : lv_has ls 5 [(0, .int s0)] := hl
  refine lv_iload_n hx hb dX1_rounded_0 rfl (lv_at hl 0 rfl) ?_
  refine lv_bipush (v := 32) hx hb dX1_rounded_1 (by decide) ?_
  refine lv_icmp_ge (tgt := 10) hx hb dX1_rounded_3 (by decide) (fun h1 => ?_) (fun h1 => ?_)
  · skip
    have h1b := Int32.not_lt.mpr h1
    refine lv_iconst (v := 0) hx hb dX1_rounded_10 (by decide) ?_
    refine lv_istore_n (lv' := [(1, .int 0), (0, .int s0)]) hx hb dX1_rounded_11 rfl hl (by decide) rfl (fun ls hl => ?_)
    refine lv_iload_n hx hb dX1_rounded_12 rfl (lv_at hl 0 rfl) ?_
    refine lv_if_eq (tgt := 20) hx hb dX1_rounded_13 (by decide) (fun _ => ?_) (fun h2 => absurd (by decide) h2)
    refine lv_bipush (v := 8) hx hb dX1_rounded_20 (by decide) ?_
    refine lv_istore_n (lv' := [(2, .int 8), (1, .int 0), (0, .int s0)]) hx hb dX1_rounded_22 rfl hl (by decide) rfl (fun ls hl => ?_)
    refine lv_iload_n hx hb dX1_rounded_23 rfl (lv_at hl 2 rfl) ?_
    refine lv_iload_n hx hb dX1_rounded_24 rfl (lv_at hl 0 rfl) ?_
    refine lv_idiv hx hb dX1_rounded_25 (by decide) ?_
    refine lv_iload_n hx hb dX1_rounded_26 rfl (lv_at hl 1 rfl) ?_
    refine lv_if_eq (tgt := 34) hx hb dX1_rounded_27 (by decide) (fun _ => ?_) (fun h3 => absurd (by decide) h3)
    refine lv_iconst (v := 4) hx hb dX1_rounded_34 (by decide) ?_
    refine lv_iadd hx hb dX1_rounded_35 ?_
    refine lv_istore_n (lv' := [(3, .int ((s0 / 8) + 4)), (2, .int 8), (1, .int 0), (0, .int s0)]) hx hb dX1_rounded_36 rfl hl (by decide) rfl (fun ls hl => ?_)
    refine lv_iconst (v := 2) hx hb dX1_rounded_37 (by decide) ?_
    refine lv_iload_n hx hb dX1_rounded_38 rfl (lv_at hl 3 rfl) ?_
    refine lv_iload_n hx hb dX1_rounded_39 rfl (lv_at hl 1 rfl) ?_
    refine lv_irem hx hb dX1_rounded_40 (by decide) ?_
    refine lv_imul hx hb dX1_rounded_41 ?_
    refine lv_istore (lv' := [(4, .int (2 * (s0 - s0 / 8 * 8))), (3, .int ((s0 / 8) + 4)), (2, .int 8), (1, .int 0), (0, .int s0)]) hx hb dX1_rounded_42 hl (by decide) rfl (fun ls hl => ?_)
    refine lv_iload hx hb dX1_rounded_44 (lv_at hl 0 rfl) ?_
    refine lv_iload_n hx hb dX1_rounded_46 rfl (lv_at hl 2 rfl) ?_
    refine lv_icmp_gt (tgt := 63) hx hb dX1_rounded_47 (by decide) (fun h4 => ?_) (fun h4 => ?_)
    · skip
      have h4b := Int32.not_le.mpr h4
      refine lv_iinc (k := 1) (v := (s0 / 8) + 4 + 1) (lv' := [(3, .int ((s0 / 8) + 4 + 1)), (4, .int (2 * (s0 - s0 / 8 * 8))), (2, .int 8), (1, .int 0), (0, .int s0)]) hx hb dX1_rounded_63 hl rfl (rfl) (by decide) rfl (fun ls hl => ?_)
      refine lv_iload_n hx hb dX1_rounded_66 rfl (lv_at hl 0 rfl) ?_
      refine lv_bipush (v := 12) hx hb dX1_rounded_67 (by decide) ?_
      refine lv_icmp_ge (tgt := 76) hx hb dX1_rounded_69 (by decide) (fun h5 => ?_) (fun h5 => ?_)
      · skip
        have h5b := Int32.not_lt.mpr h5
        refine lv_bipush (v := 12) hx hb dX1_rounded_76 (by decide) ?_
        exact W.iret (v := 12) hx hb hr (fun t ht hW => ⟨12, rfl, by first | (simp only [pu_rnd, pu_up, pu_num, pu_twi, pu_stp, show ¬ (4 : Int32) < 4 from by decide, show ¬ (8 : Int32) < 8 from by decide, h1, h1b, h4, h4b, h5, h5b, ↓reduceIte, not_true_eq_false, not_false_eq_true, and_true, true_and, and_false, false_and, or_true, true_or, or_false, false_or, and_self, or_self]; done) | (simp [pu_rnd, pu_up, pu_num, pu_twi, pu_stp, show ¬ (4 : Int32) < 4 from by decide, show ¬ (8 : Int32) < 8 from by decide, h1, h1b, h4, h4b, h5, h5b]; done) | (simp_all [pu_rnd, pu_up, pu_num, pu_twi, pu_stp, show ¬ (4 : Int32) < 4 from by decide, show ¬ (8 : Int32) < 8 from by decide]; done), ht⟩) (fun q hq => by cases hq) dX1_rounded_78
      · skip
        have h5b := Int32.not_le.mp h5
        refine lv_iload_n hx hb dX1_rounded_72 rfl (lv_at hl 0 rfl) ?_
        refine lv_goto (tgt := 78) hx hb dX1_rounded_73 (by decide) ?_
        exact W.iret (v := (s0 / 8) + 4 + 1) hx hb hr (fun t ht hW => ⟨(s0 / 8) + 4 + 1, rfl, by first | (simp only [pu_rnd, pu_up, pu_num, pu_twi, pu_stp, show ¬ (4 : Int32) < 4 from by decide, show ¬ (8 : Int32) < 8 from by decide, h1, h1b, h4, h4b, h5, h5b, ↓reduceIte, not_true_eq_false, not_false_eq_true, and_true, true_and, and_false, false_and, or_true, true_or, or_false, false_or, and_self, or_self]; done) | (simp [pu_rnd, pu_up, pu_num, pu_twi, pu_stp, show ¬ (4 : Int32) < 4 from by decide, show ¬ (8 : Int32) < 8 from by decide, h1, h1b, h4, h4b, h5, h5b]; done) | (simp_all [pu_rnd, pu_up, pu_num, pu_twi, pu_stp, show ¬ (4 : Int32) < 4 from by decide, show ¬ (8 : Int32) < 8 from by decide]; done), ht⟩) (fun q hq => by cases hq) dX1_rounded_78
    · skip
      have h4b := Int32.not_lt.mp h4
      refine lv_iload hx hb dX1_rounded_50 (lv_at hl 0 rfl) ?_
      refine lv_iload_n hx hb dX1_rounded_52 rfl (lv_at hl 2 rfl) ?_
      refine lv_icmp_ne (tgt := 66) hx hb dX1_rounded_53 (by decide) (fun h6 => ?_) (fun h6 => ?_)
      · skip
        refine lv_iload_n hx hb dX1_rounded_66 rfl (lv_at hl 1 rfl) ?_
        refine lv_bipush (v := 12) hx hb dX1_rounded_67 (by decide) ?_
        refine lv_icmp_ge (tgt := 76) hx hb dX1_rounded_69 (by decide) (fun h7 => ?_) (fun h7 => ?_)
        · skip
          have h7b := Int32.not_lt.mpr h7
          refine lv_bipush (v := 12) hx hb dX1_rounded_76 (by decide) ?_
          exact W.iret (v := 12) hx hb hr (fun t ht hW => ⟨12, rfl, by first | (simp only [pu_rnd, pu_up, pu_num, pu_twi, pu_stp, show ¬ (4 : Int32) < 4 from by decide, show ¬ (8 : Int32) < 8 from by decide, h1, h1b, h4, h4b, h6, h7, h7b, ↓reduceIte, not_true_eq_false, not_false_eq_true, and_true, true_and, and_false, false_and, or_true, true_or, or_false, false_or, and_self, or_self]; done) | (simp [pu_rnd, pu_up, pu_num, pu_twi, pu_stp, show ¬ (4 : Int32) < 4 from by decide, show ¬ (8 : Int32) < 8 from by decide, h1, h1b, h4, h4b, h6, h7, h7b]; done) | (simp_all [pu_rnd, pu_up, pu_num, pu_twi, pu_stp, show ¬ (4 : Int32) < 4 from by decide, show ¬ (8 : Int32) < 8 from by decide]; done), ht⟩) (fun q hq => by cases hq) dX1_rounded_78
        · skip
          have h7b := Int32.not_le.mp h7
          refine lv_iload_n hx hb dX1_rounded_72 rfl (lv_at hl 1 rfl) ?_
          refine lv_goto (tgt := 78) hx hb dX1_rounded_73 (by decide) ?_
          exact W.iret (v := (s0 / 8) + 4) hx hb hr (fun t ht hW => ⟨(s0 / 8) + 4, rfl, by first | (simp only [pu_rnd, pu_up, pu_num, pu_twi, pu_stp, show ¬ (4 : Int32) < 4 from by decide, show ¬ (8 : Int32) < 8 from by decide, h1, h1b, h4, h4b, h6, h7, h7b, ↓reduceIte, not_true_eq_false, not_false_eq_true, and_true, true_and, and_false, false_and, or_true, true_or, or_false, false_or, and_self, or_self]; done) | (simp [pu_rnd, pu_up, pu_num, pu_twi, pu_stp, show ¬ (4 : Int32) < 4 from by decide, show ¬ (8 : Int32) < 8 from by decide, h1, h1b, h4, h4b, h6, h7, h7b]; done) | (simp_all [pu_rnd, pu_up, pu_num, pu_twi, pu_stp, show ¬ (4 : Int32) < 4 from by decide, show ¬ (8 : Int32) < 8 from by decide]; done), ht⟩) (fun q hq => by cases hq) dX1_rounded_78
      · skip
        refine lv_iload_n hx hb dX1_rounded_56 rfl (lv_at hl 1 rfl) ?_
        refine lv_iconst (v := 2) hx hb dX1_rounded_57 (by decide) ?_
        refine lv_irem hx hb dX1_rounded_58 (by decide) ?_
        refine lv_iconst (v := 1) hx hb dX1_rounded_59 (by decide) ?_
        refine lv_icmp_ne (tgt := 66) hx hb dX1_rounded_60 (by decide) (fun h8 => ?_) (fun h8 => ?_)
        · skip
          refine lv_iload_n hx hb dX1_rounded_66 rfl (lv_at hl 1 rfl) ?_
          refine lv_bipush (v := 12) hx hb dX1_rounded_67 (by decide) ?_
          refine lv_icmp_ge (tgt := 76) hx hb dX1_rounded_69 (by decide) (fun h9 => ?_) (fun h9 => ?_)
          · skip
            have h9b := Int32.not_lt.mpr h9
            refine lv_bipush (v := 12) hx hb dX1_rounded_76 (by decide) ?_
            exact W.iret (v := 12) hx hb hr (fun t ht hW => ⟨12, rfl, by first | (simp only [pu_rnd, pu_up, pu_num, pu_twi, pu_stp, show ¬ (4 : Int32) < 4 from by decide, show ¬ (8 : Int32) < 8 from by decide, h1, h1b, h4, h4b, h6, h8, h9, h9b, ↓reduceIte, not_true_eq_false, not_false_eq_true, and_true, true_and, and_false, false_and, or_true, true_or, or_false, false_or, and_self, or_self]; done) | (simp [pu_rnd, pu_up, pu_num, pu_twi, pu_stp, show ¬ (4 : Int32) < 4 from by decide, show ¬ (8 : Int32) < 8 from by decide, h1, h1b, h4, h4b, h6, h8, h9, h9b]; done) | (simp_all [pu_rnd, pu_up, pu_num, pu_twi, pu_stp, show ¬ (4 : Int32) < 4 from by decide, show ¬ (8 : Int32) < 8 from by decide]; done), ht⟩) (fun q hq => by cases hq) dX1_rounded_78
          · skip
            have h9b := Int32.not_le.mp h9
            refine lv_iload_n hx hb dX1_rounded_72 rfl (lv_at hl 1 rfl) ?_
            refine lv_goto (tgt := 78) hx hb dX1_rounded_73 (by decide) ?_
            exact W.iret (v := (s0 / 8) + 4) hx hb hr (fun t ht hW => ⟨(s0 / 8) + 4, rfl, by first | (simp only [pu_rnd, pu_up, pu_num, pu_twi, pu_stp, show ¬ (4 : Int32) < 4 from by decide, show ¬ (8 : Int32) < 8 from by decide, h1, h1b, h4, h4b, h6, h8, h9, h9b, ↓reduceIte, not_true_eq_false, not_false_eq_true, and_true, true_and, and_false, false_and, or_true, true_or, or_false, false_or, and_self, or_self]; done) | (simp [pu_rnd, pu_up, pu_num, pu_twi, pu_stp, show ¬ (4 : Int32) < 4 from by decide, show ¬ (8 : Int32) < 8 from by decide, h1, h1b, h4, h4b, h6, h8, h9, h9b]; done) | (simp_all [pu_rnd, pu_up, pu_num, pu_twi, pu_stp, show ¬ (4 : Int32) < 4 from by decide, show ¬ (8 : Int32) < 8 from by decide]; done), ht⟩) (fun q hq => by cases hq) dX1_rounded_78
        · skip
          refine lv_iinc (k := 1) (v := (s0 / 8) + 4 + 1) (lv' := [(3, .int ((s0 / 8) + 4 + 1)), (4, .int (2 * (s0 - s0 / 8 * 8))), (2, .int 8), (1, .int 0), (0, .int s0)]) hx hb dX1_rounded_63 hl rfl (rfl) (by decide) rfl (fun ls hl => ?_)
          refine lv_iload_n hx hb dX1_rounded_66 rfl (lv_at hl 0 rfl) ?_
          refine lv_bipush (v := 12) hx hb dX1_rounded_67 (by decide) ?_
          refine lv_icmp_ge (tgt := 76) hx hb dX1_rounded_69 (by decide) (fun h10 => ?_) (fun h10 => ?_)
          · skip
            have h10b := Int32.not_lt.mpr h10
            refine lv_bipush (v := 12) hx hb dX1_rounded_76 (by decide) ?_
            exact W.iret (v := 12) hx hb hr (fun t ht hW => ⟨12, rfl, by first | (simp only [pu_rnd, pu_up, pu_num, pu_twi, pu_stp, show ¬ (4 : Int32) < 4 from by decide, show ¬ (8 : Int32) < 8 from by decide, h1, h1b, h4, h4b, h6, h8, h10, h10b, ↓reduceIte, not_true_eq_false, not_false_eq_true, and_true, true_and, and_false, false_and, or_true, true_or, or_false, false_or, and_self, or_self]; done) | (simp [pu_rnd, pu_up, pu_num, pu_twi, pu_stp, show ¬ (4 : Int32) < 4 from by decide, show ¬ (8 : Int32) < 8 from by decide, h1, h1b, h4, h4b, h6, h8, h10, h10b]; done) | (simp_all [pu_rnd, pu_up, pu_num, pu_twi, pu_stp, show ¬ (4 : Int32) < 4 from by decide, show ¬ (8 : Int32) < 8 from by decide]; done), ht⟩) (fun q hq => by cases hq) dX1_rounded_78
          · skip
            have h10b := Int32.not_le.mp h10
            refine lv_iload_n hx hb dX1_rounded_72 rfl (lv_at hl 0 rfl) ?_
            refine lv_goto (tgt := 78) hx hb dX1_rounded_73 (by decide) ?_
            exact W.iret (v := (s0 / 8) + 4 + 1) hx hb hr (fun t ht hW => ⟨(s0 / 8) + 4 + 1, rfl, by first | (simp only [pu_rnd, pu_up, pu_num, pu_twi, pu_stp, show ¬ (4 : Int32) < 4 from by decide, show ¬ (8 : Int32) < 8 from by decide, h1, h1b, h4, h4b, h6, h8, h10, h10b, ↓reduceIte, not_true_eq_false, not_false_eq_true, and_true, true_and, and_false, false_and, or_true, true_or, or_false, false_or, and_self, or_self]; done) | (simp [pu_rnd, pu_up, pu_num, pu_twi, pu_stp, show ¬ (4 : Int32) < 4 from by decide, show ¬ (8 : Int32) < 8 from by decide, h1, h1b, h4, h4b, h6, h8, h10, h10b]; done) | (simp_all [pu_rnd, pu_up, pu_num, pu_twi, pu_stp, show ¬ (4 : Int32) < 4 from by decide, show ¬ (8 : Int32) < 8 from by decide]; done), ht⟩) (fun q hq => by cases hq) dX1_rounded_78
  · skip
    have h1b := Int32.not_le.mp h1
    refine lv_iconst (v := 1) hx hb dX1_rounded_6 (by decide) ?_
    refine lv_goto (tgt := 11) hx hb dX1_rounded_7 (by decide) ?_
    refine lv_istore_n (lv' := [(1, .int 1), (0, .int s0)]) hx hb dX1_rounded_11 rfl hl (by decide) rfl (fun ls hl => ?_)
    refine lv_iload_n hx hb dX1_rounded_12 rfl (lv_at hl 0 rfl) ?_
    refine lv_if_eq (tgt := 20) hx hb dX1_rounded_13 (by decide) (fun h11 => absurd h11 (by decide)) (fun _ => ?_)
    refine lv_iconst (v := 4) hx hb dX1_rounded_16 (by decide) ?_
    refine lv_goto (tgt := 22) hx hb dX1_rounded_17 (by decide) ?_
    refine lv_istore_n (lv' := [(2, .int 4), (1, .int 1), (0, .int s0)]) hx hb dX1_rounded_22 rfl hl (by decide) rfl (fun ls hl => ?_)
    refine lv_iload_n hx hb dX1_rounded_23 rfl (lv_at hl 2 rfl) ?_
    refine lv_iload_n hx hb dX1_rounded_24 rfl (lv_at hl 0 rfl) ?_
    refine lv_idiv hx hb dX1_rounded_25 (by decide) ?_
    refine lv_iload_n hx hb dX1_rounded_26 rfl (lv_at hl 1 rfl) ?_
    refine lv_if_eq (tgt := 34) hx hb dX1_rounded_27 (by decide) (fun h12 => absurd h12 (by decide)) (fun _ => ?_)
    refine lv_iconst (v := 0) hx hb dX1_rounded_30 (by decide) ?_
    refine lv_goto (tgt := 35) hx hb dX1_rounded_31 (by decide) ?_
    refine lv_iadd hx hb dX1_rounded_35 ?_
    refine lv_istore_n (lv' := [(3, .int ((s0 / 4) + 0)), (2, .int 4), (1, .int 1), (0, .int s0)]) hx hb dX1_rounded_36 rfl hl (by decide) rfl (fun ls hl => ?_)
    refine lv_iconst (v := 2) hx hb dX1_rounded_37 (by decide) ?_
    refine lv_iload_n hx hb dX1_rounded_38 rfl (lv_at hl 3 rfl) ?_
    refine lv_iload_n hx hb dX1_rounded_39 rfl (lv_at hl 1 rfl) ?_
    refine lv_irem hx hb dX1_rounded_40 (by decide) ?_
    refine lv_imul hx hb dX1_rounded_41 ?_
    refine lv_istore (lv' := [(4, .int (2 * (s0 - s0 / 4 * 4))), (3, .int ((s0 / 4) + 0)), (2, .int 4), (1, .int 1), (0, .int s0)]) hx hb dX1_rounded_42 hl (by decide) rfl (fun ls hl => ?_)
    refine lv_iload hx hb dX1_rounded_44 (lv_at hl 0 rfl) ?_
    refine lv_iload_n hx hb dX1_rounded_46 rfl (lv_at hl 2 rfl) ?_
    refine lv_icmp_gt (tgt := 63) hx hb dX1_rounded_47 (by decide) (fun h13 => ?_) (fun h13 => ?_)
    · skip
      have h13b := Int32.not_le.mpr h13
      refine lv_iinc (k := 1) (v := (s0 / 4) + 0 + 1) (lv' := [(3, .int ((s0 / 4) + 0 + 1)), (4, .int (2 * (s0 - s0 / 4 * 4))), (2, .int 4), (1, .int 1), (0, .int s0)]) hx hb dX1_rounded_63 hl rfl (rfl) (by decide) rfl (fun ls hl => ?_)
      refine lv_iload_n hx hb dX1_rounded_66 rfl (lv_at hl 0 rfl) ?_
      refine lv_bipush (v := 12) hx hb dX1_rounded_67 (by decide) ?_
      refine lv_icmp_ge (tgt := 76) hx hb dX1_rounded_69 (by decide) (fun h14 => ?_) (fun h14 => ?_)
      · skip
        have h14b := Int32.not_lt.mpr h14
        refine lv_bipush (v := 12) hx hb dX1_rounded_76 (by decide) ?_
        exact W.iret (v := 12) hx hb hr (fun t ht hW => ⟨12, rfl, by first | (simp only [pu_rnd, pu_up, pu_num, pu_twi, pu_stp, show ¬ (4 : Int32) < 4 from by decide, show ¬ (8 : Int32) < 8 from by decide, h1, h1b, h13, h13b, h14, h14b, ↓reduceIte, not_true_eq_false, not_false_eq_true, and_true, true_and, and_false, false_and, or_true, true_or, or_false, false_or, and_self, or_self]; done) | (simp [pu_rnd, pu_up, pu_num, pu_twi, pu_stp, show ¬ (4 : Int32) < 4 from by decide, show ¬ (8 : Int32) < 8 from by decide, h1, h1b, h13, h13b, h14, h14b]; done) | (simp_all [pu_rnd, pu_up, pu_num, pu_twi, pu_stp, show ¬ (4 : Int32) < 4 from by decide, show ¬ (8 : Int32) < 8 from by decide]; done), ht⟩) (fun q hq => by cases hq) dX1_rounded_78
      · skip
        have h14b := Int32.not_le.mp h14
        refine lv_iload_n hx hb dX1_rounded_72 rfl (lv_at hl 0 rfl) ?_
        refine lv_goto (tgt := 78) hx hb dX1_rounded_73 (by decide) ?_
        exact W.iret (v := (s0 / 4) + 0 + 1) hx hb hr (fun t ht hW => ⟨(s0 / 4) + 0 + 1, rfl, by first | (simp only [pu_rnd, pu_up, pu_num, pu_twi, pu_stp, show ¬ (4 : Int32) < 4 from by decide, show ¬ (8 : Int32) < 8 from by decide, h1, h1b, h13, h13b, h14, h14b, ↓reduceIte, not_true_eq_false, not_false_eq_true, and_true, true_and, and_false, false_and, or_true, true_or, or_false, false_or, and_self, or_self]; done) | (simp [pu_rnd, pu_up, pu_num, pu_twi, pu_stp, show ¬ (4 : Int32) < 4 from by decide, show ¬ (8 : Int32) < 8 from by decide, h1, h1b, h13, h13b, h14, h14b]; done) | (simp_all [pu_rnd, pu_up, pu_num, pu_twi, pu_stp, show ¬ (4 : Int32) < 4 from by decide, show ¬ (8 : Int32) < 8 from by decide]; done), ht⟩) (fun q hq => by cases hq) dX1_rounded_78
    · skip
      have h13b := Int32.not_lt.mp h13
      refine lv_iload hx hb dX1_rounded_50 (lv_at hl 0 rfl) ?_
      refine lv_iload_n hx hb dX1_rounded_52 rfl (lv_at hl 2 rfl) ?_
      refine lv_icmp_ne (tgt := 66) hx hb dX1_rounded_53 (by decide) (fun h15 => ?_) (fun h15 => ?_)
      · skip
        refine lv_iload_n hx hb dX1_rounded_66 rfl (lv_at hl 1 rfl) ?_
        refine lv_bipush (v := 12) hx hb dX1_rounded_67 (by decide) ?_
        refine lv_icmp_ge (tgt := 76) hx hb dX1_rounded_69 (by decide) (fun h16 => ?_) (fun h16 => ?_)
        · skip
          have h16b := Int32.not_lt.mpr h16
          refine lv_bipush (v := 12) hx hb dX1_rounded_76 (by decide) ?_
          exact W.iret (v := 12) hx hb hr (fun t ht hW => ⟨12, rfl, by first | (simp only [pu_rnd, pu_up, pu_num, pu_twi, pu_stp, show ¬ (4 : Int32) < 4 from by decide, show ¬ (8 : Int32) < 8 from by decide, h1, h1b, h13, h13b, h15, h16, h16b, ↓reduceIte, not_true_eq_false, not_false_eq_true, and_true, true_and, and_false, false_and, or_true, true_or, or_false, false_or, and_self, or_self]; done) | (simp [pu_rnd, pu_up, pu_num, pu_twi, pu_stp, show ¬ (4 : Int32) < 4 from by decide, show ¬ (8 : Int32) < 8 from by decide, h1, h1b, h13, h13b, h15, h16, h16b]; done) | (simp_all [pu_rnd, pu_up, pu_num, pu_twi, pu_stp, show ¬ (4 : Int32) < 4 from by decide, show ¬ (8 : Int32) < 8 from by decide]; done), ht⟩) (fun q hq => by cases hq) dX1_rounded_78
        · skip
          have h16b := Int32.not_le.mp h16
          refine lv_iload_n hx hb dX1_rounded_72 rfl (lv_at hl 1 rfl) ?_
          refine lv_goto (tgt := 78) hx hb dX1_rounded_73 (by decide) ?_
          exact W.iret (v := (s0 / 4) + 0) hx hb hr (fun t ht hW => ⟨(s0 / 4) + 0, rfl, by first | (simp only [pu_rnd, pu_up, pu_num, pu_twi, pu_stp, show ¬ (4 : Int32) < 4 from by decide, show ¬ (8 : Int32) < 8 from by decide, h1, h1b, h13, h13b, h15, h16, h16b, ↓reduceIte, not_true_eq_false, not_false_eq_true, and_true, true_and, and_false, false_and, or_true, true_or, or_false, false_or, and_self, or_self]; done) | (simp [pu_rnd, pu_up, pu_num, pu_twi, pu_stp, show ¬ (4 : Int32) < 4 from by decide, show ¬ (8 : Int32) < 8 from by decide, h1, h1b, h13, h13b, h15, h16, h16b]; done) | (simp_all [pu_rnd, pu_up, pu_num, pu_twi, pu_stp, show ¬ (4 : Int32) < 4 from by decide, show ¬ (8 : Int32) < 8 from by decide]; done), ht⟩) (fun q hq => by cases hq) dX1_rounded_78
      · skip
        refine lv_iload_n hx hb dX1_rounded_56 rfl (lv_at hl 1 rfl) ?_
        refine lv_iconst (v := 2) hx hb dX1_rounded_57 (by decide) ?_
        refine lv_irem hx hb dX1_rounded_58 (by decide) ?_
        refine lv_iconst (v := 1) hx hb dX1_rounded_59 (by decide) ?_
        refine lv_icmp_ne (tgt := 66) hx hb dX1_rounded_60 (by decide) (fun h17 => ?_) (fun h17 => ?_)
        · skip
          refine lv_iload_n hx hb dX1_rounded_66 rfl (lv_at hl 1 rfl) ?_
          refine lv_bipush (v := 12) hx hb dX1_rounded_67 (by decide) ?_
          refine lv_icmp_ge (tgt := 76) hx hb dX1_rounded_69 (by decide) (fun h18 => ?_) (fun h18 => ?_)
          · skip
            have h18b := Int32.not_lt.mpr h18
            refine lv_bipush (v := 12) hx hb dX1_rounded_76 (by decide) ?_
            exact W.iret (v := 12) hx hb hr (fun t ht hW => ⟨12, rfl, by first | (simp only [pu_rnd, pu_up, pu_num, pu_twi, pu_stp, show ¬ (4 : Int32) < 4 from by decide, show ¬ (8 : Int32) < 8 from by decide, h1, h1b, h13, h13b, h15, h17, h18, h18b, ↓reduceIte, not_true_eq_false, not_false_eq_true, and_true, true_and, and_false, false_and, or_true, true_or, or_false, false_or, and_self, or_self]; done) | (simp [pu_rnd, pu_up, pu_num, pu_twi, pu_stp, show ¬ (4 : Int32) < 4 from by decide, show ¬ (8 : Int32) < 8 from by decide, h1, h1b, h13, h13b, h15, h17, h18, h18b]; done) | (simp_all [pu_rnd, pu_up, pu_num, pu_twi, pu_stp, show ¬ (4 : Int32) < 4 from by decide, show ¬ (8 : Int32) < 8 from by decide]; done), ht⟩) (fun q hq => by cases hq) dX1_rounded_78
          · skip
            have h18b := Int32.not_le.mp h18
            refine lv_iload_n hx hb dX1_rounded_72 rfl (lv_at hl 1 rfl) ?_
            refine lv_goto (tgt := 78) hx hb dX1_rounded_73 (by decide) ?_
            exact W.iret (v := (s0 / 4) + 0) hx hb hr (fun t ht hW => ⟨(s0 / 4) + 0, rfl, by first | (simp only [pu_rnd, pu_up, pu_num, pu_twi, pu_stp, show ¬ (4 : Int32) < 4 from by decide, show ¬ (8 : Int32) < 8 from by decide, h1, h1b, h13, h13b, h15, h17, h18, h18b, ↓reduceIte, not_true_eq_false, not_false_eq_true, and_true, true_and, and_false, false_and, or_true, true_or, or_false, false_or, and_self, or_self]; done) | (simp [pu_rnd, pu_up, pu_num, pu_twi, pu_stp, show ¬ (4 : Int32) < 4 from by decide, show ¬ (8 : Int32) < 8 from by decide, h1, h1b, h13, h13b, h15, h17, h18, h18b]; done) | (simp_all [pu_rnd, pu_up, pu_num, pu_twi, pu_stp, show ¬ (4 : Int32) < 4 from by decide, show ¬ (8 : Int32) < 8 from by decide]; done), ht⟩) (fun q hq => by cases hq) dX1_rounded_78
        · skip
          refine lv_iinc (k := 1) (v := (s0 / 4) + 0 + 1) (lv' := [(3, .int ((s0 / 4) + 0 + 1)), (4, .int (2 * (s0 - s0 / 4 * 4))), (2, .int 4), (1, .int 1), (0, .int s0)]) hx hb dX1_rounded_63 hl rfl (rfl) (by decide) rfl (fun ls hl => ?_)
          refine lv_iload_n hx hb dX1_rounded_66 rfl (lv_at hl 0 rfl) ?_
          refine lv_bipush (v := 12) hx hb dX1_rounded_67 (by decide) ?_
          refine lv_icmp_ge (tgt := 76) hx hb dX1_rounded_69 (by decide) (fun h19 => ?_) (fun h19 => ?_)
          · skip
            have h19b := Int32.not_lt.mpr h19
            refine lv_bipush (v := 12) hx hb dX1_rounded_76 (by decide) ?_
            exact W.iret (v := 12) hx hb hr (fun t ht hW => ⟨12, rfl, by first | (simp only [pu_rnd, pu_up, pu_num, pu_twi, pu_stp, show ¬ (4 : Int32) < 4 from by decide, show ¬ (8 : Int32) < 8 from by decide, h1, h1b, h13, h13b, h15, h17, h19, h19b, ↓reduceIte, not_true_eq_false, not_false_eq_true, and_true, true_and, and_false, false_and, or_true, true_or, or_false, false_or, and_self, or_self]; done) | (simp [pu_rnd, pu_up, pu_num, pu_twi, pu_stp, show ¬ (4 : Int32) < 4 from by decide, show ¬ (8 : Int32) < 8 from by decide, h1, h1b, h13, h13b, h15, h17, h19, h19b]; done) | (simp_all [pu_rnd, pu_up, pu_num, pu_twi, pu_stp, show ¬ (4 : Int32) < 4 from by decide, show ¬ (8 : Int32) < 8 from by decide]; done), ht⟩) (fun q hq => by cases hq) dX1_rounded_78
          · skip
            have h19b := Int32.not_le.mp h19
            refine lv_iload_n hx hb dX1_rounded_72 rfl (lv_at hl 0 rfl) ?_
            refine lv_goto (tgt := 78) hx hb dX1_rounded_73 (by decide) ?_
            exact W.iret (v := (s0 / 4) + 0 + 1) hx hb hr (fun t ht hW => ⟨(s0 / 4) + 0 + 1, rfl, by first | (simp only [pu_rnd, pu_up, pu_num, pu_twi, pu_stp, show ¬ (4 : Int32) < 4 from by decide, show ¬ (8 : Int32) < 8 from by decide, h1, h1b, h13, h13b, h15, h17, h19, h19b, ↓reduceIte, not_true_eq_false, not_false_eq_true, and_true, true_and, and_false, false_and, or_true, true_or, or_false, false_or, and_self, or_self]; done) | (simp [pu_rnd, pu_up, pu_num, pu_twi, pu_stp, show ¬ (4 : Int32) < 4 from by decide, show ¬ (8 : Int32) < 8 from by decide, h1, h1b, h13, h13b, h15, h17, h19, h19b]; done) | (simp_all [pu_rnd, pu_up, pu_num, pu_twi, pu_stp, show ¬ (4 : Int32) < 4 from by decide, show ¬ (8 : Int32) < 8 from by decide]; done), ht⟩) (fun q hq => by cases hq) dX1_rounded_78
set_option maxHeartbeats 4000000 in
set_option maxRecDepth 100000 in
theorem ctX1_isEqual (l : Launch) (x y : Int32) : Met l yX1_isEqual wsX1_isEqual ({ frames := 1, cells := 0, slots := 0, locals := 20 }) (va_Pc [.int x, .int y] (fun _ => True)) (vp_Si (fun r => r = pu_eq x y)) 0 0 (fun _ => False) := by
  refine Met.ofW (cc := cX1_isEqual) (maxL := 2) (ret := (some .boolean)) (by decide) rfl ?_
  intro p e s m args below meth c s₁ B hml hv
  obtain ⟨rfl, -⟩ := hv
  have hx := B.exec
  have hb := B.bytes
  have hr := B.returns
  have hts := atoms_spec (ws := wsX1_isEqual) B.pre
  have hown : s.vm.findClass RX1 = some m.cls := findClass_of_methodNamed B.named
  have hlocks := B.notSynchronized
  have hl := lv_entry ([.int x, .int y]) (n := 2) (Nat.le_of_ble_eq_true rfl)
  rw [lg_entry_eq]
  generalize (lg_sl ([.int x, .int y]) ++ List.replicate (2 - (lg_sl ([.int x, .int y])).length) Slot.unset).toArray = ls at hl ⊢
  have hl : lv_has ls 2 [(0, .int x), (1, .int y)] := hl
  refine lv_iload_n hx hb dX1_isEqual_0 rfl (lv_at hl 0 rfl) ?_
  refine vp_callSi (W.runS (As := [.int x]) (rest := []) ⟨hx, hb, hml, hown, hts⟩ (ctX1_isNan l x) (va_cwS 1 hts (wA_wsS wm_ml_X1_22 wm_st_X1_isNan wm_in_X1 wm_cd_X1_isNan) rfl rfl rfl (by decide +kernel) ⟨Nat.le_of_ble_eq_true rfl, Nat.le_of_ble_eq_true rfl⟩) ⟨fun a U g mk q => q, fun U hU hW => ⟨rfl, trivial⟩⟩ rfl rfl hl.1 rfl (lv_room (Nat.le_of_ble_eq_true rfl)) dX1_isEqual_1 ⟨Nat.zero_le _, Nat.zero_le _⟩) (fun r1 er1 => ?_)
  subst er1
  refine lv_if_ne (tgt := 37) hx hb dX1_isEqual_4 (by decide) (fun h2 => ?_) (fun h2 => ?_)
  · skip
    refine lv_iconst (v := 0) hx hb dX1_isEqual_37 (by decide) ?_
    exact W.zret (v := 0) hx hb hr (rfl) (fun t ht hW => ⟨0, rfl, by first | (simp only [pu_eq, h2, ↓reduceIte, not_true_eq_false, not_false_eq_true, and_true, true_and, and_false, false_and, or_true, true_or, or_false, false_or, and_self, or_self]; done) | (simp [pu_eq, h2]; done) | (simp_all [pu_eq]; done), ht⟩) (fun q hq => by cases hq) dX1_isEqual_38
  · skip
    refine lv_iload_n hx hb dX1_isEqual_7 rfl (lv_at hl 1 rfl) ?_
    refine vp_callSi (W.runS (As := [.int y]) (rest := []) ⟨hx, hb, hml, hown, hts⟩ (ctX1_isNan l y) (va_cwS 1 hts (wA_wsS wm_ml_X1_22 wm_st_X1_isNan wm_in_X1 wm_cd_X1_isNan) rfl rfl rfl (by decide +kernel) ⟨Nat.le_of_ble_eq_true rfl, Nat.le_of_ble_eq_true rfl⟩) ⟨fun a U g mk q => q, fun U hU hW => ⟨rfl, trivial⟩⟩ rfl rfl hl.1 rfl (lv_room (Nat.le_of_ble_eq_true rfl)) dX1_isEqual_8 ⟨Nat.zero_le _, Nat.zero_le _⟩) (fun r3 er3 => ?_)
    subst er3
    refine lv_if_ne (tgt := 37) hx hb dX1_isEqual_11 (by decide) (fun h4 => ?_) (fun h4 => ?_)
    · skip
      refine lv_iconst (v := 0) hx hb dX1_isEqual_37 (by decide) ?_
      exact W.zret (v := 0) hx hb hr (rfl) (fun t ht hW => ⟨0, rfl, by first | (simp only [pu_eq, h2, h4, ↓reduceIte, not_true_eq_false, not_false_eq_true, and_true, true_and, and_false, false_and, or_true, true_or, or_false, false_or, and_self, or_self]; done) | (simp [pu_eq, h2, h4]; done) | (simp_all [pu_eq]; done), ht⟩) (fun q hq => by cases hq) dX1_isEqual_38
    · skip
      refine lv_iload_n hx hb dX1_isEqual_14 rfl (lv_at hl 0 rfl) ?_
      refine lv_iload_n hx hb dX1_isEqual_15 rfl (lv_at hl 1 rfl) ?_
      refine lv_icmp_eq (tgt := 33) hx hb dX1_isEqual_16 (by decide) (fun h5 => ?_) (fun h5 => ?_)
      · skip
        refine lv_iconst (v := 1) hx hb dX1_isEqual_33 (by decide) ?_
        refine lv_goto (tgt := 38) hx hb dX1_isEqual_34 (by decide) ?_
        exact W.zret (v := 1) hx hb hr (rfl) (fun t ht hW => ⟨1, rfl, by first | (simp only [pu_eq, h2, h4, h5, ↓reduceIte, not_true_eq_false, not_false_eq_true, and_true, true_and, and_false, false_and, or_true, true_or, or_false, false_or, and_self, or_self]; done) | (simp [pu_eq, h2, h4, h5]; done) | (simp_all [pu_eq]; done), ht⟩) (fun q hq => by cases hq) dX1_isEqual_38
      · skip
        refine lv_iload_n hx hb dX1_isEqual_19 rfl (lv_at hl 0 rfl) ?_
        refine vp_callSi (W.runS (As := [.int x]) (rest := []) ⟨hx, hb, hml, hown, hts⟩ (ctX1_isZero l x) (va_cwS 1 hts (wA_wsS wm_ml_X1_36 wm_st_X1_isZero wm_in_X1 wm_cd_X1_isZero) rfl rfl rfl (by decide +kernel) ⟨Nat.le_of_ble_eq_true rfl, Nat.le_of_ble_eq_true rfl⟩) ⟨fun a U g mk q => q, fun U hU hW => ⟨rfl, trivial⟩⟩ rfl rfl hl.1 rfl (lv_room (Nat.le_of_ble_eq_true rfl)) dX1_isEqual_20 ⟨Nat.zero_le _, Nat.zero_le _⟩) (fun r6 er6 => ?_)
        subst er6
        refine lv_if_eq (tgt := 37) hx hb dX1_isEqual_23 (by decide) (fun h7 => ?_) (fun h7 => ?_)
        · skip
          refine lv_iconst (v := 0) hx hb dX1_isEqual_37 (by decide) ?_
          exact W.zret (v := 0) hx hb hr (rfl) (fun t ht hW => ⟨0, rfl, by first | (simp only [pu_eq, h2, h4, h5, h7, ↓reduceIte, not_true_eq_false, not_false_eq_true, and_true, true_and, and_false, false_and, or_true, true_or, or_false, false_or, and_self, or_self]; done) | (simp [pu_eq, h2, h4, h5, h7]; done) | (simp_all [pu_eq]; done), ht⟩) (fun q hq => by cases hq) dX1_isEqual_38
        · skip
          refine lv_iload_n hx hb dX1_isEqual_26 rfl (lv_at hl 1 rfl) ?_
          refine vp_callSi (W.runS (As := [.int y]) (rest := []) ⟨hx, hb, hml, hown, hts⟩ (ctX1_isZero l y) (va_cwS 1 hts (wA_wsS wm_ml_X1_36 wm_st_X1_isZero wm_in_X1 wm_cd_X1_isZero) rfl rfl rfl (by decide +kernel) ⟨Nat.le_of_ble_eq_true rfl, Nat.le_of_ble_eq_true rfl⟩) ⟨fun a U g mk q => q, fun U hU hW => ⟨rfl, trivial⟩⟩ rfl rfl hl.1 rfl (lv_room (Nat.le_of_ble_eq_true rfl)) dX1_isEqual_27 ⟨Nat.zero_le _, Nat.zero_le _⟩) (fun r8 er8 => ?_)
          subst er8
          refine lv_if_eq (tgt := 37) hx hb dX1_isEqual_30 (by decide) (fun h9 => ?_) (fun h9 => ?_)
          · skip
            refine lv_iconst (v := 0) hx hb dX1_isEqual_37 (by decide) ?_
            exact W.zret (v := 0) hx hb hr (rfl) (fun t ht hW => ⟨0, rfl, by first | (simp only [pu_eq, h2, h4, h5, h7, h9, ↓reduceIte, not_true_eq_false, not_false_eq_true, and_true, true_and, and_false, false_and, or_true, true_or, or_false, false_or, and_self, or_self]; done) | (simp [pu_eq, h2, h4, h5, h7, h9]; done) | (simp_all [pu_eq]; done), ht⟩) (fun q hq => by cases hq) dX1_isEqual_38
          · skip
            refine lv_iconst (v := 1) hx hb dX1_isEqual_33 (by decide) ?_
            refine lv_goto (tgt := 38) hx hb dX1_isEqual_34 (by decide) ?_
            exact W.zret (v := 1) hx hb hr (rfl) (fun t ht hW => ⟨1, rfl, by first | (simp only [pu_eq, h2, h4, h5, h7, h9, ↓reduceIte, not_true_eq_false, not_false_eq_true, and_true, true_and, and_false, false_and, or_true, true_or, or_false, false_or, and_self, or_self]; done) | (simp [pu_eq, h2, h4, h5, h7, h9]; done) | (simp_all [pu_eq]; done), ht⟩) (fun q hq => by cases hq) dX1_isEqual_38
set_option maxHeartbeats 4000000 in
set_option maxRecDepth 100000 in
theorem ctX1_isLess (l : Launch) (x y : Int32) : Met l yX1_isLess wsX1_isLess ({ frames := 1, cells := 0, slots := 0, locals := 22 }) (va_Pc [.int x, .int y] (fun _ => True)) (vp_Si (fun r => r = pu_les x y)) 0 0 (fun _ => False) := by
  refine Met.ofW (cc := cX1_isLess) (maxL := 2) (ret := (some .boolean)) (by decide) rfl ?_
  intro p e s m args below meth c s₁ B hml hv
  obtain ⟨rfl, -⟩ := hv
  have hx := B.exec
  have hb := B.bytes
  have hr := B.returns
  have hts := atoms_spec (ws := wsX1_isLess) B.pre
  have hown : s.vm.findClass RX1 = some m.cls := findClass_of_methodNamed B.named
  have hlocks := B.notSynchronized
  have hl := lv_entry ([.int x, .int y]) (n := 2) (Nat.le_of_ble_eq_true rfl)
  rw [lg_entry_eq]
  generalize (lg_sl ([.int x, .int y]) ++ List.replicate (2 - (lg_sl ([.int x, .int y])).length) Slot.unset).toArray = ls at hl ⊢
  have hl : lv_has ls 2 [(0, .int x), (1, .int y)] := hl
  refine lv_iload_n hx hb dX1_isLess_0 rfl (lv_at hl 0 rfl) ?_
  refine vp_callSi (W.runS (As := [.int x]) (rest := []) ⟨hx, hb, hml, hown, hts⟩ (ctX1_isNan l x) (va_cwS 1 hts (wA_wsS wm_ml_X1_22 wm_st_X1_isNan wm_in_X1 wm_cd_X1_isNan) rfl rfl rfl (by decide +kernel) ⟨Nat.le_of_ble_eq_true rfl, Nat.le_of_ble_eq_true rfl⟩) ⟨fun a U g mk q => q, fun U hU hW => ⟨rfl, trivial⟩⟩ rfl rfl hl.1 rfl (lv_room (Nat.le_of_ble_eq_true rfl)) dX1_isLess_1 ⟨Nat.zero_le _, Nat.zero_le _⟩) (fun r1 er1 => ?_)
  subst er1
  refine lv_if_ne (tgt := 29) hx hb dX1_isLess_4 (by decide) (fun h2 => ?_) (fun h2 => ?_)
  · skip
    refine lv_iconst (v := 0) hx hb dX1_isLess_29 (by decide) ?_
    exact W.zret (v := 0) hx hb hr (rfl) (fun t ht hW => ⟨0, rfl, by first | (simp only [pu_les, h2, ↓reduceIte, not_true_eq_false, not_false_eq_true, and_true, true_and, and_false, false_and, or_true, true_or, or_false, false_or, and_self, or_self]; done) | (simp [pu_les, h2]; done) | (simp_all [pu_les]; done), ht⟩) (fun q hq => by cases hq) dX1_isLess_30
  · skip
    refine lv_iload_n hx hb dX1_isLess_7 rfl (lv_at hl 1 rfl) ?_
    refine vp_callSi (W.runS (As := [.int y]) (rest := []) ⟨hx, hb, hml, hown, hts⟩ (ctX1_isNan l y) (va_cwS 1 hts (wA_wsS wm_ml_X1_22 wm_st_X1_isNan wm_in_X1 wm_cd_X1_isNan) rfl rfl rfl (by decide +kernel) ⟨Nat.le_of_ble_eq_true rfl, Nat.le_of_ble_eq_true rfl⟩) ⟨fun a U g mk q => q, fun U hU hW => ⟨rfl, trivial⟩⟩ rfl rfl hl.1 rfl (lv_room (Nat.le_of_ble_eq_true rfl)) dX1_isLess_8 ⟨Nat.zero_le _, Nat.zero_le _⟩) (fun r3 er3 => ?_)
    subst er3
    refine lv_if_ne (tgt := 29) hx hb dX1_isLess_11 (by decide) (fun h4 => ?_) (fun h4 => ?_)
    · skip
      refine lv_iconst (v := 0) hx hb dX1_isLess_29 (by decide) ?_
      exact W.zret (v := 0) hx hb hr (rfl) (fun t ht hW => ⟨0, rfl, by first | (simp only [pu_les, h2, h4, ↓reduceIte, not_true_eq_false, not_false_eq_true, and_true, true_and, and_false, false_and, or_true, true_or, or_false, false_or, and_self, or_self]; done) | (simp [pu_les, h2, h4]; done) | (simp_all [pu_les]; done), ht⟩) (fun q hq => by cases hq) dX1_isLess_30
    · skip
      refine lv_iload_n hx hb dX1_isLess_14 rfl (lv_at hl 0 rfl) ?_
      refine vp_callSi (W.runS (As := [.int x]) (rest := []) ⟨hx, hb, hml, hown, hts⟩ (ctX1_signedQuarters l x) (va_cwS 1 hts (wA_wsS wm_ml_X1_39 wm_st_X1_signedQuarters wm_in_X1 wm_cd_X1_signedQuarters) rfl rfl rfl (by decide +kernel) ⟨Nat.le_of_ble_eq_true rfl, Nat.le_of_ble_eq_true rfl⟩) ⟨fun a U g mk q => q, fun U hU hW => ⟨rfl, trivial⟩⟩ rfl rfl hl.1 rfl (lv_room (Nat.le_of_ble_eq_true rfl)) dX1_isLess_15 ⟨Nat.zero_le _, Nat.zero_le _⟩) (fun r5 er5 => ?_)
      subst er5
      refine lv_iload_n hx hb dX1_isLess_18 rfl (lv_at hl 1 rfl) ?_
      refine vp_callSi (W.runS (As := [.int y]) (rest := [.int (pu_sq x)]) ⟨hx, hb, hml, hown, hts⟩ (ctX1_signedQuarters l y) (va_cwS 1 hts (wA_wsS wm_ml_X1_39 wm_st_X1_signedQuarters wm_in_X1 wm_cd_X1_signedQuarters) rfl rfl rfl (by decide +kernel) ⟨Nat.le_of_ble_eq_true rfl, Nat.le_of_ble_eq_true rfl⟩) ⟨fun a U g mk q => q, fun U hU hW => ⟨rfl, trivial⟩⟩ rfl rfl hl.1 rfl (lv_room (Nat.le_of_ble_eq_true rfl)) dX1_isLess_19 ⟨Nat.zero_le _, Nat.zero_le _⟩) (fun r6 er6 => ?_)
      subst er6
      refine lv_icmp_ge (tgt := 29) hx hb dX1_isLess_22 (by decide) (fun h7 => ?_) (fun h7 => ?_)
      · skip
        have h7b := Int32.not_lt.mpr h7
        refine lv_iconst (v := 0) hx hb dX1_isLess_29 (by decide) ?_
        exact W.zret (v := 0) hx hb hr (rfl) (fun t ht hW => ⟨0, rfl, by first | (simp only [pu_les, h2, h4, h7, h7b, ↓reduceIte, not_true_eq_false, not_false_eq_true, and_true, true_and, and_false, false_and, or_true, true_or, or_false, false_or, and_self, or_self]; done) | (simp [pu_les, h2, h4, h7, h7b]; done) | (simp_all [pu_les]; done), ht⟩) (fun q hq => by cases hq) dX1_isLess_30
      · skip
        have h7b := Int32.not_le.mp h7
        refine lv_iconst (v := 1) hx hb dX1_isLess_25 (by decide) ?_
        refine lv_goto (tgt := 30) hx hb dX1_isLess_26 (by decide) ?_
        exact W.zret (v := 1) hx hb hr (rfl) (fun t ht hW => ⟨1, rfl, by first | (simp only [pu_les, h2, h4, h7, h7b, ↓reduceIte, not_true_eq_false, not_false_eq_true, and_true, true_and, and_false, false_and, or_true, true_or, or_false, false_or, and_self, or_self]; done) | (simp [pu_les, h2, h4, h7, h7b]; done) | (simp_all [pu_les]; done), ht⟩) (fun q hq => by cases hq) dX1_isLess_30
end
section
set_option maxHeartbeats 4000000 in
set_option maxRecDepth 100000 in
theorem ctX1_add (l : Launch) (x y : Int32) : Met l yX1_add wsX1_add ({ frames := 1, cells := 0, slots := 0, locals := 24 }) (va_Pc [.int x, .int y] (fun _ => True)) (vp_Si (fun r => r = pu_add x y)) 0 0 (fun _ => False) := by
  refine Met.ofW (cc := cX1_add) (maxL := 3) (ret := (some .int)) (by decide) rfl ?_
  intro p e s m args below meth c s₁ B hml hv
  obtain ⟨rfl, -⟩ := hv
  have hx := B.exec
  have hb := B.bytes
  have hr := B.returns
  have hts := atoms_spec (ws := wsX1_add) B.pre
  have hown : s.vm.findClass RX1 = some m.cls := findClass_of_methodNamed B.named
  have hlocks := B.notSynchronized
  have hl := lv_entry ([.int x, .int y]) (n := 3) (Nat.le_of_ble_eq_true rfl)
  rw [lg_entry_eq]
  generalize (lg_sl ([.int x, .int y]) ++ List.replicate (3 - (lg_sl ([.int x, .int y])).length) Slot.unset).toArray = ls at hl ⊢
  have hl : lv_has ls 3 [(0, .int x), (1, .int y)] := hl
  refine lv_iload_n hx hb dX1_add_0 rfl (lv_at hl 0 rfl) ?_
  refine vp_callSi (W.runS (As := [.int x]) (rest := []) ⟨hx, hb, hml, hown, hts⟩ (ctX1_isNan l x) (va_cwS 1 hts (wA_wsS wm_ml_X1_22 wm_st_X1_isNan wm_in_X1 wm_cd_X1_isNan) rfl rfl rfl (by decide +kernel) ⟨Nat.le_of_ble_eq_true rfl, Nat.le_of_ble_eq_true rfl⟩) ⟨fun a U g mk q => q, fun U hU hW => ⟨rfl, trivial⟩⟩ rfl rfl hl.1 rfl (lv_room (Nat.le_of_ble_eq_true rfl)) dX1_add_1 ⟨Nat.zero_le _, Nat.zero_le _⟩) (fun r1 er1 => ?_)
  subst er1
  refine lv_if_ne (tgt := 14) hx hb dX1_add_4 (by decide) (fun h2 => ?_) (fun h2 => ?_)
  · skip
    refine lv_bipush (v := 13) hx hb dX1_add_14 (by decide) ?_
    exact W.iret (v := 13) hx hb hr (fun t ht hW => ⟨13, rfl, by first | (simp only [pu_add, pu_abs, h2, ↓reduceIte, not_true_eq_false, not_false_eq_true, and_true, true_and, and_false, false_and, or_true, true_or, or_false, false_or, and_self, or_self]; done) | (simp [pu_add, pu_abs, h2]; done) | (simp_all [pu_add, pu_abs]; done), ht⟩) (fun q hq => by cases hq) dX1_add_16
  · skip
    refine lv_iload_n hx hb dX1_add_7 rfl (lv_at hl 1 rfl) ?_
    refine vp_callSi (W.runS (As := [.int y]) (rest := []) ⟨hx, hb, hml, hown, hts⟩ (ctX1_isNan l y) (va_cwS 1 hts (wA_wsS wm_ml_X1_22 wm_st_X1_isNan wm_in_X1 wm_cd_X1_isNan) rfl rfl rfl (by decide +kernel) ⟨Nat.le_of_ble_eq_true rfl, Nat.le_of_ble_eq_true rfl⟩) ⟨fun a U g mk q => q, fun U hU hW => ⟨rfl, trivial⟩⟩ rfl rfl hl.1 rfl (lv_room (Nat.le_of_ble_eq_true rfl)) dX1_add_8 ⟨Nat.zero_le _, Nat.zero_le _⟩) (fun r3 er3 => ?_)
    subst er3
    refine lv_if_eq (tgt := 17) hx hb dX1_add_11 (by decide) (fun h4 => ?_) (fun h4 => ?_)
    · skip
      refine lv_iload_n hx hb dX1_add_17 rfl (lv_at hl 0 rfl) ?_
      refine vp_callSi (W.runS (As := [.int x]) (rest := []) ⟨hx, hb, hml, hown, hts⟩ (ctX1_isInfinite l x) (va_cwS 1 hts (wA_wsS wm_ml_X1_33 wm_st_X1_isInfinite wm_in_X1 wm_cd_X1_isInfinite) rfl rfl rfl (by decide +kernel) ⟨Nat.le_of_ble_eq_true rfl, Nat.le_of_ble_eq_true rfl⟩) ⟨fun a U g mk q => q, fun U hU hW => ⟨rfl, trivial⟩⟩ rfl rfl hl.1 rfl (lv_room (Nat.le_of_ble_eq_true rfl)) dX1_add_18 ⟨Nat.zero_le _, Nat.zero_le _⟩) (fun r5 er5 => ?_)
      subst er5
      refine lv_if_eq (tgt := 43) hx hb dX1_add_21 (by decide) (fun h6 => ?_) (fun h6 => ?_)
      · skip
        refine lv_iload_n hx hb dX1_add_43 rfl (lv_at hl 1 rfl) ?_
        refine vp_callSi (W.runS (As := [.int y]) (rest := []) ⟨hx, hb, hml, hown, hts⟩ (ctX1_isInfinite l y) (va_cwS 1 hts (wA_wsS wm_ml_X1_33 wm_st_X1_isInfinite wm_in_X1 wm_cd_X1_isInfinite) rfl rfl rfl (by decide +kernel) ⟨Nat.le_of_ble_eq_true rfl, Nat.le_of_ble_eq_true rfl⟩) ⟨fun a U g mk q => q, fun U hU hW => ⟨rfl, trivial⟩⟩ rfl rfl hl.1 rfl (lv_room (Nat.le_of_ble_eq_true rfl)) dX1_add_44 ⟨Nat.zero_le _, Nat.zero_le _⟩) (fun r7 er7 => ?_)
        subst er7
        refine lv_if_eq (tgt := 52) hx hb dX1_add_47 (by decide) (fun h8 => ?_) (fun h8 => ?_)
        · skip
          refine lv_iload_n hx hb dX1_add_52 rfl (lv_at hl 0 rfl) ?_
          refine vp_callSi (W.runS (As := [.int x]) (rest := []) ⟨hx, hb, hml, hown, hts⟩ (ctX1_signedQuarters l x) (va_cwS 1 hts (wA_wsS wm_ml_X1_39 wm_st_X1_signedQuarters wm_in_X1 wm_cd_X1_signedQuarters) rfl rfl rfl (by decide +kernel) ⟨Nat.le_of_ble_eq_true rfl, Nat.le_of_ble_eq_true rfl⟩) ⟨fun a U g mk q => q, fun U hU hW => ⟨rfl, trivial⟩⟩ rfl rfl hl.1 rfl (lv_room (Nat.le_of_ble_eq_true rfl)) dX1_add_53 ⟨Nat.zero_le _, Nat.zero_le _⟩) (fun r9 er9 => ?_)
          subst er9
          refine lv_iload_n hx hb dX1_add_56 rfl (lv_at hl 1 rfl) ?_
          refine vp_callSi (W.runS (As := [.int y]) (rest := [.int (pu_sq x)]) ⟨hx, hb, hml, hown, hts⟩ (ctX1_signedQuarters l y) (va_cwS 1 hts (wA_wsS wm_ml_X1_39 wm_st_X1_signedQuarters wm_in_X1 wm_cd_X1_signedQuarters) rfl rfl rfl (by decide +kernel) ⟨Nat.le_of_ble_eq_true rfl, Nat.le_of_ble_eq_true rfl⟩) ⟨fun a U g mk q => q, fun U hU hW => ⟨rfl, trivial⟩⟩ rfl rfl hl.1 rfl (lv_room (Nat.le_of_ble_eq_true rfl)) dX1_add_57 ⟨Nat.zero_le _, Nat.zero_le _⟩) (fun r10 er10 => ?_)
          subst er10
          refine lv_iadd hx hb dX1_add_60 ?_
          refine lv_istore_n (lv' := [(2, .int ((pu_sq x) + (pu_sq y))), (0, .int x), (1, .int y)]) hx hb dX1_add_61 rfl hl (by decide) rfl (fun ls hl => ?_)
          refine lv_iload_n hx hb dX1_add_62 rfl (lv_at hl 0 rfl) ?_
          refine lv_if_ne (tgt := 85) hx hb dX1_add_63 (by decide) (fun h11 => ?_) (fun h11 => ?_)
          · skip
            refine lv_iload_n hx hb dX1_add_85 rfl (lv_at hl 0 rfl) ?_
            refine lv_if_ge (tgt := 94) hx hb dX1_add_86 (by decide) (fun h12 => ?_) (fun h12 => ?_)
            · skip
              have h12b := Int32.not_lt.mpr h12
              refine lv_iconst (v := 0) hx hb dX1_add_94 (by decide) ?_
              refine lv_iconst (v := 4) hx hb dX1_add_95 (by decide) ?_
              refine lv_iload_n hx hb dX1_add_96 rfl (lv_at hl 0 rfl) ?_
              refine va_mabs hx hb (by rw [hml]; exact hl.1.symm) hown (hts _ (List.mem_cons_of_mem _ wm_ml_X1_42)) (hts _ (List.mem_cons_of_mem _ wm_st_abs)) (hts _ (List.mem_cons_of_mem _ wm_in_Math)) (hts _ (List.mem_cons_of_mem _ wm_cd_abs)) (Nat.le_of_ble_eq_true rfl) (Nat.le_of_ble_eq_true rfl) (Nat.zero_le _) (Nat.zero_le _) dX1_add_97 ?_
              refine lv_imul hx hb dX1_add_100 ?_
              refine vp_callSi (W.runS (As := [.int (4 * (if 0 ≤ ((pu_sq x) + (pu_sq y)) then ((pu_sq x) + (pu_sq y)) else 0 - ((pu_sq x) + (pu_sq y))))]) (rest := [.int 0]) ⟨hx, hb, hml, hown, hts⟩ (ctX1_rounded l (4 * (if 0 ≤ ((pu_sq x) + (pu_sq y)) then ((pu_sq x) + (pu_sq y)) else 0 - ((pu_sq x) + (pu_sq y))))) (va_cwS 1 hts (wA_wsS wm_ml_X1_47 wm_st_X1_rounded wm_in_X1 wm_cd_X1_rounded) rfl rfl rfl (by decide +kernel) ⟨Nat.le_of_ble_eq_true rfl, Nat.le_of_ble_eq_true rfl⟩) ⟨fun a U g mk q => q, fun U hU hW => ⟨rfl, trivial⟩⟩ rfl rfl hl.1 rfl (lv_room (Nat.le_of_ble_eq_true rfl)) dX1_add_101 ⟨Nat.zero_le _, Nat.zero_le _⟩) (fun r13 er13 => ?_)
              subst er13
              refine lv_ior hx hb dX1_add_104 ?_
              exact W.iret (v := 0 ||| (pu_rnd (4 * (if 0 ≤ ((pu_sq x) + (pu_sq y)) then ((pu_sq x) + (pu_sq y)) else 0 - ((pu_sq x) + (pu_sq y)))))) hx hb hr (fun t ht hW => ⟨0 ||| (pu_rnd (4 * (if 0 ≤ ((pu_sq x) + (pu_sq y)) then ((pu_sq x) + (pu_sq y)) else 0 - ((pu_sq x) + (pu_sq y))))), rfl, by first | (simp only [pu_add, pu_abs, h2, h4, h6, h8, h11, h12, h12b, ↓reduceIte, not_true_eq_false, not_false_eq_true, and_true, true_and, and_false, false_and, or_true, true_or, or_false, false_or, and_self, or_self]; done) | (simp [pu_add, pu_abs, h2, h4, h6, h8, h11, h12, h12b]; done) | (simp_all [pu_add, pu_abs]; done), ht⟩) (fun q hq => by cases hq) dX1_add_105
            · skip
              have h12b := Int32.not_le.mp h12
              refine lv_bipush (v := 16) hx hb dX1_add_89 (by decide) ?_
              refine lv_goto (tgt := 95) hx hb dX1_add_91 (by decide) ?_
              refine lv_iconst (v := 4) hx hb dX1_add_95 (by decide) ?_
              refine lv_iload_n hx hb dX1_add_96 rfl (lv_at hl 0 rfl) ?_
              refine va_mabs hx hb (by rw [hml]; exact hl.1.symm) hown (hts _ (List.mem_cons_of_mem _ wm_ml_X1_42)) (hts _ (List.mem_cons_of_mem _ wm_st_abs)) (hts _ (List.mem_cons_of_mem _ wm_in_Math)) (hts _ (List.mem_cons_of_mem _ wm_cd_abs)) (Nat.le_of_ble_eq_true rfl) (Nat.le_of_ble_eq_true rfl) (Nat.zero_le _) (Nat.zero_le _) dX1_add_97 ?_
              refine lv_imul hx hb dX1_add_100 ?_
              refine vp_callSi (W.runS (As := [.int (4 * (if 0 ≤ ((pu_sq x) + (pu_sq y)) then ((pu_sq x) + (pu_sq y)) else 0 - ((pu_sq x) + (pu_sq y))))]) (rest := [.int 16]) ⟨hx, hb, hml, hown, hts⟩ (ctX1_rounded l (4 * (if 0 ≤ ((pu_sq x) + (pu_sq y)) then ((pu_sq x) + (pu_sq y)) else 0 - ((pu_sq x) + (pu_sq y))))) (va_cwS 1 hts (wA_wsS wm_ml_X1_47 wm_st_X1_rounded wm_in_X1 wm_cd_X1_rounded) rfl rfl rfl (by decide +kernel) ⟨Nat.le_of_ble_eq_true rfl, Nat.le_of_ble_eq_true rfl⟩) ⟨fun a U g mk q => q, fun U hU hW => ⟨rfl, trivial⟩⟩ rfl rfl hl.1 rfl (lv_room (Nat.le_of_ble_eq_true rfl)) dX1_add_101 ⟨Nat.zero_le _, Nat.zero_le _⟩) (fun r14 er14 => ?_)
              subst er14
              refine lv_ior hx hb dX1_add_104 ?_
              exact W.iret (v := 16 ||| (pu_rnd (4 * (if 0 ≤ ((pu_sq x) + (pu_sq y)) then ((pu_sq x) + (pu_sq y)) else 0 - ((pu_sq x) + (pu_sq y)))))) hx hb hr (fun t ht hW => ⟨16 ||| (pu_rnd (4 * (if 0 ≤ ((pu_sq x) + (pu_sq y)) then ((pu_sq x) + (pu_sq y)) else 0 - ((pu_sq x) + (pu_sq y))))), rfl, by first | (simp only [pu_add, pu_abs, h2, h4, h6, h8, h11, h12, h12b, ↓reduceIte, not_true_eq_false, not_false_eq_true, and_true, true_and, and_false, false_and, or_true, true_or, or_false, false_or, and_self, or_self]; done) | (simp [pu_add, pu_abs, h2, h4, h6, h8, h11, h12, h12b]; done) | (simp_all [pu_add, pu_abs]; done), ht⟩) (fun q hq => by cases hq) dX1_add_105
          · skip
            refine lv_iload_n hx hb dX1_add_66 rfl (lv_at hl 1 rfl) ?_
            refine lv_bipush (v := 16) hx hb dX1_add_67 (by decide) ?_
            refine lv_icmp_ne (tgt := 83) hx hb dX1_add_69 (by decide) (fun h15 => ?_) (fun h15 => ?_)
            · skip
              refine lv_iconst (v := 0) hx hb dX1_add_83 (by decide) ?_
              exact W.iret (v := 0) hx hb hr (fun t ht hW => ⟨0, rfl, by first | (simp only [pu_add, pu_abs, h2, h4, h6, h8, h11, h15, ↓reduceIte, not_true_eq_false, not_false_eq_true, and_true, true_and, and_false, false_and, or_true, true_or, or_false, false_or, and_self, or_self]; done) | (simp [pu_add, pu_abs, h2, h4, h6, h8, h11, h15]; done) | (simp_all [pu_add, pu_abs]; done), ht⟩) (fun q hq => by cases hq) dX1_add_84
            · skip
              refine lv_iload_n hx hb dX1_add_72 rfl (lv_at hl 2 rfl) ?_
              refine lv_bipush (v := 16) hx hb dX1_add_73 (by decide) ?_
              refine lv_icmp_ne (tgt := 83) hx hb dX1_add_75 (by decide) (fun h16 => ?_) (fun h16 => ?_)
              · skip
                refine lv_iconst (v := 0) hx hb dX1_add_83 (by decide) ?_
                exact W.iret (v := 0) hx hb hr (fun t ht hW => ⟨0, rfl, by first | (simp only [pu_add, pu_abs, h2, h4, h6, h8, h11, h15, h16, ↓reduceIte, not_true_eq_false, not_false_eq_true, and_true, true_and, and_false, false_and, or_true, true_or, or_false, false_or, and_self, or_self]; done) | (simp [pu_add, pu_abs, h2, h4, h6, h8, h11, h15, h16]; done) | (simp_all [pu_add, pu_abs]; done), ht⟩) (fun q hq => by cases hq) dX1_add_84
              · skip
                refine lv_bipush (v := 16) hx hb dX1_add_78 (by decide) ?_
                refine lv_goto (tgt := 84) hx hb dX1_add_80 (by decide) ?_
                exact W.iret (v := 16) hx hb hr (fun t ht hW => ⟨16, rfl, by first | (simp only [pu_add, pu_abs, h2, h4, h6, h8, h11, h15, h16, ↓reduceIte, not_true_eq_false, not_false_eq_true, and_true, true_and, and_false, false_and, or_true, true_or, or_false, false_or, and_self, or_self]; done) | (simp [pu_add, pu_abs, h2, h4, h6, h8, h11, h15, h16]; done) | (simp_all [pu_add, pu_abs]; done), ht⟩) (fun q hq => by cases hq) dX1_add_84
        · skip
          refine lv_iload_n hx hb dX1_add_50 rfl (lv_at hl 1 rfl) ?_
          exact W.iret (v := y) hx hb hr (fun t ht hW => ⟨y, rfl, by first | (simp only [pu_add, pu_abs, h2, h4, h6, h8, ↓reduceIte, not_true_eq_false, not_false_eq_true, and_true, true_and, and_false, false_and, or_true, true_or, or_false, false_or, and_self, or_self]; done) | (simp [pu_add, pu_abs, h2, h4, h6, h8]; done) | (simp_all [pu_add, pu_abs]; done), ht⟩) (fun q hq => by cases hq) dX1_add_51
      · skip
        refine lv_iload_n hx hb dX1_add_24 rfl (lv_at hl 1 rfl) ?_
        refine vp_callSi (W.runS (As := [.int y]) (rest := []) ⟨hx, hb, hml, hown, hts⟩ (ctX1_isInfinite l y) (va_cwS 1 hts (wA_wsS wm_ml_X1_33 wm_st_X1_isInfinite wm_in_X1 wm_cd_X1_isInfinite) rfl rfl rfl (by decide +kernel) ⟨Nat.le_of_ble_eq_true rfl, Nat.le_of_ble_eq_true rfl⟩) ⟨fun a U g mk q => q, fun U hU hW => ⟨rfl, trivial⟩⟩ rfl rfl hl.1 rfl (lv_room (Nat.le_of_ble_eq_true rfl)) dX1_add_25 ⟨Nat.zero_le _, Nat.zero_le _⟩) (fun r17 er17 => ?_)
        subst er17
        refine lv_if_eq (tgt := 41) hx hb dX1_add_28 (by decide) (fun h18 => ?_) (fun h18 => ?_)
        · skip
          refine lv_iload_n hx hb dX1_add_41 rfl (lv_at hl 0 rfl) ?_
          exact W.iret (v := x) hx hb hr (fun t ht hW => ⟨x, rfl, by first | (simp only [pu_add, pu_abs, h2, h4, h6, h18, ↓reduceIte, not_true_eq_false, not_false_eq_true, and_true, true_and, and_false, false_and, or_true, true_or, or_false, false_or, and_self, or_self]; done) | (simp [pu_add, pu_abs, h2, h4, h6, h18]; done) | (simp_all [pu_add, pu_abs]; done), ht⟩) (fun q hq => by cases hq) dX1_add_42
        · skip
          refine lv_iload_n hx hb dX1_add_31 rfl (lv_at hl 0 rfl) ?_
          refine lv_iload_n hx hb dX1_add_32 rfl (lv_at hl 1 rfl) ?_
          refine lv_icmp_eq (tgt := 41) hx hb dX1_add_33 (by decide) (fun h19 => ?_) (fun h19 => ?_)
          · skip
            refine lv_iload_n hx hb dX1_add_41 rfl (lv_at hl 0 rfl) ?_
            exact W.iret (v := x) hx hb hr (fun t ht hW => ⟨x, rfl, by first | (simp only [pu_add, pu_abs, h2, h4, h6, h18, h19, ↓reduceIte, not_true_eq_false, not_false_eq_true, and_true, true_and, and_false, false_and, or_true, true_or, or_false, false_or, and_self, or_self]; done) | (simp [pu_add, pu_abs, h2, h4, h6, h18, h19]; done) | (simp_all [pu_add, pu_abs]; done), ht⟩) (fun q hq => by cases hq) dX1_add_42
          · skip
            refine lv_bipush (v := 13) hx hb dX1_add_36 (by decide) ?_
            refine lv_goto (tgt := 42) hx hb dX1_add_38 (by decide) ?_
            exact W.iret (v := 13) hx hb hr (fun t ht hW => ⟨13, rfl, by first | (simp only [pu_add, pu_abs, h2, h4, h6, h18, h19, ↓reduceIte, not_true_eq_false, not_false_eq_true, and_true, true_and, and_false, false_and, or_true, true_or, or_false, false_or, and_self, or_self]; done) | (simp [pu_add, pu_abs, h2, h4, h6, h18, h19]; done) | (simp_all [pu_add, pu_abs]; done), ht⟩) (fun q hq => by cases hq) dX1_add_42
    · skip
      refine lv_bipush (v := 13) hx hb dX1_add_14 (by decide) ?_
      exact W.iret (v := 13) hx hb hr (fun t ht hW => ⟨13, rfl, by first | (simp only [pu_add, pu_abs, h2, h4, ↓reduceIte, not_true_eq_false, not_false_eq_true, and_true, true_and, and_false, false_and, or_true, true_or, or_false, false_or, and_self, or_self]; done) | (simp [pu_add, pu_abs, h2, h4]; done) | (simp_all [pu_add, pu_abs]; done), ht⟩) (fun q hq => by cases hq) dX1_add_16
set_option maxHeartbeats 4000000 in
set_option maxRecDepth 100000 in
theorem ctX1_multiply (l : Launch) (x y : Int32) : Met l yX1_multiply wsX1_multiply ({ frames := 1, cells := 0, slots := 0, locals := 24 }) (va_Pc [.int x, .int y] (fun _ => True)) (vp_Si (fun r => r = pu_mul x y)) 0 0 (fun _ => False) := by
  refine Met.ofW (cc := cX1_multiply) (maxL := 3) (ret := (some .int)) (by decide) rfl ?_
  intro p e s m args below meth c s₁ B hml hv
  obtain ⟨rfl, -⟩ := hv
  have hx := B.exec
  have hb := B.bytes
  have hr := B.returns
  have hts := atoms_spec (ws := wsX1_multiply) B.pre
  have hown : s.vm.findClass RX1 = some m.cls := findClass_of_methodNamed B.named
  have hlocks := B.notSynchronized
  have hl := lv_entry ([.int x, .int y]) (n := 3) (Nat.le_of_ble_eq_true rfl)
  rw [lg_entry_eq]
  generalize (lg_sl ([.int x, .int y]) ++ List.replicate (3 - (lg_sl ([.int x, .int y])).length) Slot.unset).toArray = ls at hl ⊢
  have hl : lv_has ls 3 [(0, .int x), (1, .int y)] := hl
  refine lv_iload_n hx hb dX1_multiply_0 rfl (lv_at hl 0 rfl) ?_
  refine vp_callSi (W.runS (As := [.int x]) (rest := []) ⟨hx, hb, hml, hown, hts⟩ (ctX1_isNan l x) (va_cwS 1 hts (wA_wsS wm_ml_X1_22 wm_st_X1_isNan wm_in_X1 wm_cd_X1_isNan) rfl rfl rfl (by decide +kernel) ⟨Nat.le_of_ble_eq_true rfl, Nat.le_of_ble_eq_true rfl⟩) ⟨fun a U g mk q => q, fun U hU hW => ⟨rfl, trivial⟩⟩ rfl rfl hl.1 rfl (lv_room (Nat.le_of_ble_eq_true rfl)) dX1_multiply_1 ⟨Nat.zero_le _, Nat.zero_le _⟩) (fun r1 er1 => ?_)
  subst er1
  refine lv_if_ne (tgt := 42) hx hb dX1_multiply_4 (by decide) (fun h2 => ?_) (fun h2 => ?_)
  · skip
    refine lv_bipush (v := 13) hx hb dX1_multiply_42 (by decide) ?_
    exact W.iret (v := 13) hx hb hr (fun t ht hW => ⟨13, rfl, by first | (simp only [pu_mul, pu_abs, h2, ↓reduceIte, not_true_eq_false, not_false_eq_true, and_true, true_and, and_false, false_and, or_true, true_or, or_false, false_or, and_self, or_self]; done) | (simp [pu_mul, pu_abs, h2]; done) | (simp_all [pu_mul, pu_abs]; done), ht⟩) (fun q hq => by cases hq) dX1_multiply_44
  · skip
    refine lv_iload_n hx hb dX1_multiply_7 rfl (lv_at hl 1 rfl) ?_
    refine vp_callSi (W.runS (As := [.int y]) (rest := []) ⟨hx, hb, hml, hown, hts⟩ (ctX1_isNan l y) (va_cwS 1 hts (wA_wsS wm_ml_X1_22 wm_st_X1_isNan wm_in_X1 wm_cd_X1_isNan) rfl rfl rfl (by decide +kernel) ⟨Nat.le_of_ble_eq_true rfl, Nat.le_of_ble_eq_true rfl⟩) ⟨fun a U g mk q => q, fun U hU hW => ⟨rfl, trivial⟩⟩ rfl rfl hl.1 rfl (lv_room (Nat.le_of_ble_eq_true rfl)) dX1_multiply_8 ⟨Nat.zero_le _, Nat.zero_le _⟩) (fun r3 er3 => ?_)
    subst er3
    refine lv_if_ne (tgt := 42) hx hb dX1_multiply_11 (by decide) (fun h4 => ?_) (fun h4 => ?_)
    · skip
      refine lv_bipush (v := 13) hx hb dX1_multiply_42 (by decide) ?_
      exact W.iret (v := 13) hx hb hr (fun t ht hW => ⟨13, rfl, by first | (simp only [pu_mul, pu_abs, h2, h4, ↓reduceIte, not_true_eq_false, not_false_eq_true, and_true, true_and, and_false, false_and, or_true, true_or, or_false, false_or, and_self, or_self]; done) | (simp [pu_mul, pu_abs, h2, h4]; done) | (simp_all [pu_mul, pu_abs]; done), ht⟩) (fun q hq => by cases hq) dX1_multiply_44
    · skip
      refine lv_iload_n hx hb dX1_multiply_14 rfl (lv_at hl 0 rfl) ?_
      refine vp_callSi (W.runS (As := [.int x]) (rest := []) ⟨hx, hb, hml, hown, hts⟩ (ctX1_isInfinite l x) (va_cwS 1 hts (wA_wsS wm_ml_X1_33 wm_st_X1_isInfinite wm_in_X1 wm_cd_X1_isInfinite) rfl rfl rfl (by decide +kernel) ⟨Nat.le_of_ble_eq_true rfl, Nat.le_of_ble_eq_true rfl⟩) ⟨fun a U g mk q => q, fun U hU hW => ⟨rfl, trivial⟩⟩ rfl rfl hl.1 rfl (lv_room (Nat.le_of_ble_eq_true rfl)) dX1_multiply_15 ⟨Nat.zero_le _, Nat.zero_le _⟩) (fun r5 er5 => ?_)
      subst er5
      refine lv_if_eq (tgt := 28) hx hb dX1_multiply_18 (by decide) (fun h6 => ?_) (fun h6 => ?_)
      · skip
        refine lv_iload_n hx hb dX1_multiply_28 rfl (lv_at hl 0 rfl) ?_
        refine vp_callSi (W.runS (As := [.int x]) (rest := []) ⟨hx, hb, hml, hown, hts⟩ (ctX1_isZero l x) (va_cwS 1 hts (wA_wsS wm_ml_X1_36 wm_st_X1_isZero wm_in_X1 wm_cd_X1_isZero) rfl rfl rfl (by decide +kernel) ⟨Nat.le_of_ble_eq_true rfl, Nat.le_of_ble_eq_true rfl⟩) ⟨fun a U g mk q => q, fun U hU hW => ⟨rfl, trivial⟩⟩ rfl rfl hl.1 rfl (lv_room (Nat.le_of_ble_eq_true rfl)) dX1_multiply_29 ⟨Nat.zero_le _, Nat.zero_le _⟩) (fun r7 er7 => ?_)
        subst er7
        refine lv_if_eq (tgt := 45) hx hb dX1_multiply_32 (by decide) (fun h8 => ?_) (fun h8 => ?_)
        · skip
          refine lv_iload_n hx hb dX1_multiply_45 rfl (lv_at hl 0 rfl) ?_
          refine lv_iload_n hx hb dX1_multiply_46 rfl (lv_at hl 1 rfl) ?_
          refine lv_ixor hx hb dX1_multiply_47 ?_
          refine lv_bipush (v := 16) hx hb dX1_multiply_48 (by decide) ?_
          refine lv_iand hx hb dX1_multiply_50 ?_
          refine lv_istore_n (lv' := [(2, .int ((x ^^^ y) &&& 16)), (0, .int x), (1, .int y)]) hx hb dX1_multiply_51 rfl hl (by decide) rfl (fun ls hl => ?_)
          refine lv_iload_n hx hb dX1_multiply_52 rfl (lv_at hl 1 rfl) ?_
          refine vp_callSi (W.runS (As := [.int x]) (rest := []) ⟨hx, hb, hml, hown, hts⟩ (ctX1_isInfinite l x) (va_cwS 1 hts (wA_wsS wm_ml_X1_33 wm_st_X1_isInfinite wm_in_X1 wm_cd_X1_isInfinite) rfl rfl rfl (by decide +kernel) ⟨Nat.le_of_ble_eq_true rfl, Nat.le_of_ble_eq_true rfl⟩) ⟨fun a U g mk q => q, fun U hU hW => ⟨rfl, trivial⟩⟩ rfl rfl hl.1 rfl (lv_room (Nat.le_of_ble_eq_true rfl)) dX1_multiply_53 ⟨Nat.zero_le _, Nat.zero_le _⟩) (fun r9 er9 => ?_)
          subst er9
          refine lv_if_ne (tgt := 66) hx hb dX1_multiply_56 (by decide) (fun h10 => ?_) (fun h10 => ?_)
          · skip
            refine lv_iload_n hx hb dX1_multiply_66 rfl (lv_at hl 0 rfl) ?_
            refine lv_bipush (v := 12) hx hb dX1_multiply_67 (by decide) ?_
            refine lv_ior hx hb dX1_multiply_69 ?_
            exact W.iret (v := ((x ^^^ y) &&& 16) ||| 12) hx hb hr (fun t ht hW => ⟨((x ^^^ y) &&& 16) ||| 12, rfl, by first | (simp only [pu_mul, pu_abs, h2, h4, h6, h8, h10, ↓reduceIte, not_true_eq_false, not_false_eq_true, and_true, true_and, and_false, false_and, or_true, true_or, or_false, false_or, and_self, or_self]; done) | (simp [pu_mul, pu_abs, h2, h4, h6, h8, h10]; done) | (simp_all [pu_mul, pu_abs]; done), ht⟩) (fun q hq => by cases hq) dX1_multiply_70
          · skip
            refine lv_iload_n hx hb dX1_multiply_59 rfl (lv_at hl 2 rfl) ?_
            refine vp_callSi (W.runS (As := [.int y]) (rest := []) ⟨hx, hb, hml, hown, hts⟩ (ctX1_isInfinite l y) (va_cwS 1 hts (wA_wsS wm_ml_X1_33 wm_st_X1_isInfinite wm_in_X1 wm_cd_X1_isInfinite) rfl rfl rfl (by decide +kernel) ⟨Nat.le_of_ble_eq_true rfl, Nat.le_of_ble_eq_true rfl⟩) ⟨fun a U g mk q => q, fun U hU hW => ⟨rfl, trivial⟩⟩ rfl rfl hl.1 rfl (lv_room (Nat.le_of_ble_eq_true rfl)) dX1_multiply_60 ⟨Nat.zero_le _, Nat.zero_le _⟩) (fun r11 er11 => ?_)
            subst er11
            refine lv_if_eq (tgt := 71) hx hb dX1_multiply_63 (by decide) (fun h12 => ?_) (fun h12 => ?_)
            · skip
              refine lv_iload_n hx hb dX1_multiply_71 rfl (lv_at hl 0 rfl) ?_
              refine lv_iload_n hx hb dX1_multiply_72 rfl (lv_at hl 1 rfl) ?_
              refine vp_callSi (W.runS (As := [.int x]) (rest := [.int ((x ^^^ y) &&& 16)]) ⟨hx, hb, hml, hown, hts⟩ (ctX1_signedQuarters l x) (va_cwS 1 hts (wA_wsS wm_ml_X1_39 wm_st_X1_signedQuarters wm_in_X1 wm_cd_X1_signedQuarters) rfl rfl rfl (by decide +kernel) ⟨Nat.le_of_ble_eq_true rfl, Nat.le_of_ble_eq_true rfl⟩) ⟨fun a U g mk q => q, fun U hU hW => ⟨rfl, trivial⟩⟩ rfl rfl hl.1 rfl (lv_room (Nat.le_of_ble_eq_true rfl)) dX1_multiply_73 ⟨Nat.zero_le _, Nat.zero_le _⟩) (fun r13 er13 => ?_)
              subst er13
              refine lv_iload_n hx hb dX1_multiply_76 rfl (lv_at hl 2 rfl) ?_
              refine vp_callSi (W.runS (As := [.int y]) (rest := [.int (pu_sq x), .int ((x ^^^ y) &&& 16)]) ⟨hx, hb, hml, hown, hts⟩ (ctX1_signedQuarters l y) (va_cwS 1 hts (wA_wsS wm_ml_X1_39 wm_st_X1_signedQuarters wm_in_X1 wm_cd_X1_signedQuarters) rfl rfl rfl (by decide +kernel) ⟨Nat.le_of_ble_eq_true rfl, Nat.le_of_ble_eq_true rfl⟩) ⟨fun a U g mk q => q, fun U hU hW => ⟨rfl, trivial⟩⟩ rfl rfl hl.1 rfl (lv_room (Nat.le_of_ble_eq_true rfl)) dX1_multiply_77 ⟨Nat.zero_le _, Nat.zero_le _⟩) (fun r14 er14 => ?_)
              subst er14
              refine lv_imul hx hb dX1_multiply_80 ?_
              refine va_mabs hx hb (by rw [hml]; exact hl.1.symm) hown (hts _ (List.mem_cons_of_mem _ wm_ml_X1_42)) (hts _ (List.mem_cons_of_mem _ wm_st_abs)) (hts _ (List.mem_cons_of_mem _ wm_in_Math)) (hts _ (List.mem_cons_of_mem _ wm_cd_abs)) (Nat.le_of_ble_eq_true rfl) (Nat.le_of_ble_eq_true rfl) (Nat.zero_le _) (Nat.zero_le _) dX1_multiply_81 ?_
              refine vp_callSi (W.runS (As := [.int (if 0 ≤ ((pu_sq x) * (pu_sq y)) then ((pu_sq x) * (pu_sq y)) else 0 - ((pu_sq x) * (pu_sq y)))]) (rest := [.int ((x ^^^ y) &&& 16)]) ⟨hx, hb, hml, hown, hts⟩ (ctX1_rounded l (if 0 ≤ ((pu_sq x) * (pu_sq y)) then ((pu_sq x) * (pu_sq y)) else 0 - ((pu_sq x) * (pu_sq y)))) (va_cwS 1 hts (wA_wsS wm_ml_X1_47 wm_st_X1_rounded wm_in_X1 wm_cd_X1_rounded) rfl rfl rfl (by decide +kernel) ⟨Nat.le_of_ble_eq_true rfl, Nat.le_of_ble_eq_true rfl⟩) ⟨fun a U g mk q => q, fun U hU hW => ⟨rfl, trivial⟩⟩ rfl rfl hl.1 rfl (lv_room (Nat.le_of_ble_eq_true rfl)) dX1_multiply_84 ⟨Nat.zero_le _, Nat.zero_le _⟩) (fun r15 er15 => ?_)
              subst er15
              refine lv_ior hx hb dX1_multiply_87 ?_
              exact W.iret (v := ((x ^^^ y) &&& 16) ||| (pu_rnd (if 0 ≤ ((pu_sq x) * (pu_sq y)) then ((pu_sq x) * (pu_sq y)) else 0 - ((pu_sq x) * (pu_sq y))))) hx hb hr (fun t ht hW => ⟨((x ^^^ y) &&& 16) ||| (pu_rnd (if 0 ≤ ((pu_sq x) * (pu_sq y)) then ((pu_sq x) * (pu_sq y)) else 0 - ((pu_sq x) * (pu_sq y)))), rfl, by first | (simp only [pu_mul, pu_abs, h2, h4, h6, h8, h10, h12, ↓reduceIte, not_true_eq_false, not_false_eq_true, and_true, true_and, and_false, false_and, or_true, true_or, or_false, false_or, and_self, or_self]; done) | (simp [pu_mul, pu_abs, h2, h4, h6, h8, h10, h12]; done) | (simp_all [pu_mul, pu_abs]; done), ht⟩) (fun q hq => by cases hq) dX1_multiply_88
            · skip
              refine lv_iload_n hx hb dX1_multiply_66 rfl (lv_at hl 0 rfl) ?_
              refine lv_bipush (v := 12) hx hb dX1_multiply_67 (by decide) ?_
              refine lv_ior hx hb dX1_multiply_69 ?_
              exact W.iret (v := ((x ^^^ y) &&& 16) ||| 12) hx hb hr (fun t ht hW => ⟨((x ^^^ y) &&& 16) ||| 12, rfl, by first | (simp only [pu_mul, pu_abs, h2, h4, h6, h8, h10, h12, ↓reduceIte, not_true_eq_false, not_false_eq_true, and_true, true_and, and_false, false_and, or_true, true_or, or_false, false_or, and_self, or_self]; done) | (simp [pu_mul, pu_abs, h2, h4, h6, h8, h10, h12]; done) | (simp_all [pu_mul, pu_abs]; done), ht⟩) (fun q hq => by cases hq) dX1_multiply_70
        · skip
          refine lv_iload_n hx hb dX1_multiply_35 rfl (lv_at hl 1 rfl) ?_
          refine vp_callSi (W.runS (As := [.int y]) (rest := []) ⟨hx, hb, hml, hown, hts⟩ (ctX1_isInfinite l y) (va_cwS 1 hts (wA_wsS wm_ml_X1_33 wm_st_X1_isInfinite wm_in_X1 wm_cd_X1_isInfinite) rfl rfl rfl (by decide +kernel) ⟨Nat.le_of_ble_eq_true rfl, Nat.le_of_ble_eq_true rfl⟩) ⟨fun a U g mk q => q, fun U hU hW => ⟨rfl, trivial⟩⟩ rfl rfl hl.1 rfl (lv_room (Nat.le_of_ble_eq_true rfl)) dX1_multiply_36 ⟨Nat.zero_le _, Nat.zero_le _⟩) (fun r16 er16 => ?_)
          subst er16
          refine lv_if_eq (tgt := 45) hx hb dX1_multiply_39 (by decide) (fun h17 => ?_) (fun h17 => ?_)
          · skip
            refine lv_iload_n hx hb dX1_multiply_45 rfl (lv_at hl 0 rfl) ?_
            refine lv_iload_n hx hb dX1_multiply_46 rfl (lv_at hl 1 rfl) ?_
            refine lv_ixor hx hb dX1_multiply_47 ?_
            refine lv_bipush (v := 16) hx hb dX1_multiply_48 (by decide) ?_
            refine lv_iand hx hb dX1_multiply_50 ?_
            refine lv_istore_n (lv' := [(2, .int ((x ^^^ y) &&& 16)), (0, .int x), (1, .int y)]) hx hb dX1_multiply_51 rfl hl (by decide) rfl (fun ls hl => ?_)
            refine lv_iload_n hx hb dX1_multiply_52 rfl (lv_at hl 1 rfl) ?_
            refine vp_callSi (W.runS (As := [.int x]) (rest := []) ⟨hx, hb, hml, hown, hts⟩ (ctX1_isInfinite l x) (va_cwS 1 hts (wA_wsS wm_ml_X1_33 wm_st_X1_isInfinite wm_in_X1 wm_cd_X1_isInfinite) rfl rfl rfl (by decide +kernel) ⟨Nat.le_of_ble_eq_true rfl, Nat.le_of_ble_eq_true rfl⟩) ⟨fun a U g mk q => q, fun U hU hW => ⟨rfl, trivial⟩⟩ rfl rfl hl.1 rfl (lv_room (Nat.le_of_ble_eq_true rfl)) dX1_multiply_53 ⟨Nat.zero_le _, Nat.zero_le _⟩) (fun r18 er18 => ?_)
            subst er18
            refine lv_if_ne (tgt := 66) hx hb dX1_multiply_56 (by decide) (fun h19 => ?_) (fun h19 => ?_)
            · skip
              refine lv_iload_n hx hb dX1_multiply_66 rfl (lv_at hl 0 rfl) ?_
              refine lv_bipush (v := 12) hx hb dX1_multiply_67 (by decide) ?_
              refine lv_ior hx hb dX1_multiply_69 ?_
              exact W.iret (v := ((x ^^^ y) &&& 16) ||| 12) hx hb hr (fun t ht hW => ⟨((x ^^^ y) &&& 16) ||| 12, rfl, by first | (simp only [pu_mul, pu_abs, h2, h4, h6, h8, h17, h19, ↓reduceIte, not_true_eq_false, not_false_eq_true, and_true, true_and, and_false, false_and, or_true, true_or, or_false, false_or, and_self, or_self]; done) | (simp [pu_mul, pu_abs, h2, h4, h6, h8, h17, h19]; done) | (simp_all [pu_mul, pu_abs]; done), ht⟩) (fun q hq => by cases hq) dX1_multiply_70
            · skip
              refine lv_iload_n hx hb dX1_multiply_59 rfl (lv_at hl 2 rfl) ?_
              refine vp_callSi (W.runS (As := [.int y]) (rest := []) ⟨hx, hb, hml, hown, hts⟩ (ctX1_isInfinite l y) (va_cwS 1 hts (wA_wsS wm_ml_X1_33 wm_st_X1_isInfinite wm_in_X1 wm_cd_X1_isInfinite) rfl rfl rfl (by decide +kernel) ⟨Nat.le_of_ble_eq_true rfl, Nat.le_of_ble_eq_true rfl⟩) ⟨fun a U g mk q => q, fun U hU hW => ⟨rfl, trivial⟩⟩ rfl rfl hl.1 rfl (lv_room (Nat.le_of_ble_eq_true rfl)) dX1_multiply_60 ⟨Nat.zero_le _, Nat.zero_le _⟩) (fun r20 er20 => ?_)
              subst er20
              refine lv_if_eq (tgt := 71) hx hb dX1_multiply_63 (by decide) (fun h21 => ?_) (fun h21 => ?_)
              · skip
                refine lv_iload_n hx hb dX1_multiply_71 rfl (lv_at hl 0 rfl) ?_
                refine lv_iload_n hx hb dX1_multiply_72 rfl (lv_at hl 1 rfl) ?_
                refine vp_callSi (W.runS (As := [.int x]) (rest := [.int ((x ^^^ y) &&& 16)]) ⟨hx, hb, hml, hown, hts⟩ (ctX1_signedQuarters l x) (va_cwS 1 hts (wA_wsS wm_ml_X1_39 wm_st_X1_signedQuarters wm_in_X1 wm_cd_X1_signedQuarters) rfl rfl rfl (by decide +kernel) ⟨Nat.le_of_ble_eq_true rfl, Nat.le_of_ble_eq_true rfl⟩) ⟨fun a U g mk q => q, fun U hU hW => ⟨rfl, trivial⟩⟩ rfl rfl hl.1 rfl (lv_room (Nat.le_of_ble_eq_true rfl)) dX1_multiply_73 ⟨Nat.zero_le _, Nat.zero_le _⟩) (fun r22 er22 => ?_)
                subst er22
                refine lv_iload_n hx hb dX1_multiply_76 rfl (lv_at hl 2 rfl) ?_
                refine vp_callSi (W.runS (As := [.int y]) (rest := [.int (pu_sq x), .int ((x ^^^ y) &&& 16)]) ⟨hx, hb, hml, hown, hts⟩ (ctX1_signedQuarters l y) (va_cwS 1 hts (wA_wsS wm_ml_X1_39 wm_st_X1_signedQuarters wm_in_X1 wm_cd_X1_signedQuarters) rfl rfl rfl (by decide +kernel) ⟨Nat.le_of_ble_eq_true rfl, Nat.le_of_ble_eq_true rfl⟩) ⟨fun a U g mk q => q, fun U hU hW => ⟨rfl, trivial⟩⟩ rfl rfl hl.1 rfl (lv_room (Nat.le_of_ble_eq_true rfl)) dX1_multiply_77 ⟨Nat.zero_le _, Nat.zero_le _⟩) (fun r23 er23 => ?_)
                subst er23
                refine lv_imul hx hb dX1_multiply_80 ?_
                refine va_mabs hx hb (by rw [hml]; exact hl.1.symm) hown (hts _ (List.mem_cons_of_mem _ wm_ml_X1_42)) (hts _ (List.mem_cons_of_mem _ wm_st_abs)) (hts _ (List.mem_cons_of_mem _ wm_in_Math)) (hts _ (List.mem_cons_of_mem _ wm_cd_abs)) (Nat.le_of_ble_eq_true rfl) (Nat.le_of_ble_eq_true rfl) (Nat.zero_le _) (Nat.zero_le _) dX1_multiply_81 ?_
                refine vp_callSi (W.runS (As := [.int (if 0 ≤ ((pu_sq x) * (pu_sq y)) then ((pu_sq x) * (pu_sq y)) else 0 - ((pu_sq x) * (pu_sq y)))]) (rest := [.int ((x ^^^ y) &&& 16)]) ⟨hx, hb, hml, hown, hts⟩ (ctX1_rounded l (if 0 ≤ ((pu_sq x) * (pu_sq y)) then ((pu_sq x) * (pu_sq y)) else 0 - ((pu_sq x) * (pu_sq y)))) (va_cwS 1 hts (wA_wsS wm_ml_X1_47 wm_st_X1_rounded wm_in_X1 wm_cd_X1_rounded) rfl rfl rfl (by decide +kernel) ⟨Nat.le_of_ble_eq_true rfl, Nat.le_of_ble_eq_true rfl⟩) ⟨fun a U g mk q => q, fun U hU hW => ⟨rfl, trivial⟩⟩ rfl rfl hl.1 rfl (lv_room (Nat.le_of_ble_eq_true rfl)) dX1_multiply_84 ⟨Nat.zero_le _, Nat.zero_le _⟩) (fun r24 er24 => ?_)
                subst er24
                refine lv_ior hx hb dX1_multiply_87 ?_
                exact W.iret (v := ((x ^^^ y) &&& 16) ||| (pu_rnd (if 0 ≤ ((pu_sq x) * (pu_sq y)) then ((pu_sq x) * (pu_sq y)) else 0 - ((pu_sq x) * (pu_sq y))))) hx hb hr (fun t ht hW => ⟨((x ^^^ y) &&& 16) ||| (pu_rnd (if 0 ≤ ((pu_sq x) * (pu_sq y)) then ((pu_sq x) * (pu_sq y)) else 0 - ((pu_sq x) * (pu_sq y)))), rfl, by first | (simp only [pu_mul, pu_abs, h2, h4, h6, h8, h17, h19, h21, ↓reduceIte, not_true_eq_false, not_false_eq_true, and_true, true_and, and_false, false_and, or_true, true_or, or_false, false_or, and_self, or_self]; done) | (simp [pu_mul, pu_abs, h2, h4, h6, h8, h17, h19, h21]; done) | (simp_all [pu_mul, pu_abs]; done), ht⟩) (fun q hq => by cases hq) dX1_multiply_88
              · skip
                refine lv_iload_n hx hb dX1_multiply_66 rfl (lv_at hl 0 rfl) ?_
                refine lv_bipush (v := 12) hx hb dX1_multiply_67 (by decide) ?_
                refine lv_ior hx hb dX1_multiply_69 ?_
                exact W.iret (v := ((x ^^^ y) &&& 16) ||| 12) hx hb hr (fun t ht hW => ⟨((x ^^^ y) &&& 16) ||| 12, rfl, by first | (simp only [pu_mul, pu_abs, h2, h4, h6, h8, h17, h19, h21, ↓reduceIte, not_true_eq_false, not_false_eq_true, and_true, true_and, and_false, false_and, or_true, true_or, or_false, false_or, and_self, or_self]; done) | (simp [pu_mul, pu_abs, h2, h4, h6, h8, h17, h19, h21]; done) | (simp_all [pu_mul, pu_abs]; done), ht⟩) (fun q hq => by cases hq) dX1_multiply_70
          · skip
            refine lv_bipush (v := 13) hx hb dX1_multiply_42 (by decide) ?_
            exact W.iret (v := 13) hx hb hr (fun t ht hW => ⟨13, rfl, by first | (simp only [pu_mul, pu_abs, h2, h4, h6, h8, h17, ↓reduceIte, not_true_eq_false, not_false_eq_true, and_true, true_and, and_false, false_and, or_true, true_or, or_false, false_or, and_self, or_self]; done) | (simp [pu_mul, pu_abs, h2, h4, h6, h8, h17]; done) | (simp_all [pu_mul, pu_abs]; done), ht⟩) (fun q hq => by cases hq) dX1_multiply_44
      · skip
        refine lv_iload_n hx hb dX1_multiply_21 rfl (lv_at hl 1 rfl) ?_
        refine vp_callSi (W.runS (As := [.int y]) (rest := []) ⟨hx, hb, hml, hown, hts⟩ (ctX1_isZero l y) (va_cwS 1 hts (wA_wsS wm_ml_X1_36 wm_st_X1_isZero wm_in_X1 wm_cd_X1_isZero) rfl rfl rfl (by decide +kernel) ⟨Nat.le_of_ble_eq_true rfl, Nat.le_of_ble_eq_true rfl⟩) ⟨fun a U g mk q => q, fun U hU hW => ⟨rfl, trivial⟩⟩ rfl rfl hl.1 rfl (lv_room (Nat.le_of_ble_eq_true rfl)) dX1_multiply_22 ⟨Nat.zero_le _, Nat.zero_le _⟩) (fun r25 er25 => ?_)
        subst er25
        refine lv_if_ne (tgt := 42) hx hb dX1_multiply_25 (by decide) (fun h26 => ?_) (fun h26 => ?_)
        · skip
          refine lv_bipush (v := 13) hx hb dX1_multiply_42 (by decide) ?_
          exact W.iret (v := 13) hx hb hr (fun t ht hW => ⟨13, rfl, by first | (simp only [pu_mul, pu_abs, h2, h4, h6, h26, ↓reduceIte, not_true_eq_false, not_false_eq_true, and_true, true_and, and_false, false_and, or_true, true_or, or_false, false_or, and_self, or_self]; done) | (simp [pu_mul, pu_abs, h2, h4, h6, h26]; done) | (simp_all [pu_mul, pu_abs]; done), ht⟩) (fun q hq => by cases hq) dX1_multiply_44
        · skip
          refine lv_iload_n hx hb dX1_multiply_28 rfl (lv_at hl 0 rfl) ?_
          refine vp_callSi (W.runS (As := [.int x]) (rest := []) ⟨hx, hb, hml, hown, hts⟩ (ctX1_isZero l x) (va_cwS 1 hts (wA_wsS wm_ml_X1_36 wm_st_X1_isZero wm_in_X1 wm_cd_X1_isZero) rfl rfl rfl (by decide +kernel) ⟨Nat.le_of_ble_eq_true rfl, Nat.le_of_ble_eq_true rfl⟩) ⟨fun a U g mk q => q, fun U hU hW => ⟨rfl, trivial⟩⟩ rfl rfl hl.1 rfl (lv_room (Nat.le_of_ble_eq_true rfl)) dX1_multiply_29 ⟨Nat.zero_le _, Nat.zero_le _⟩) (fun r27 er27 => ?_)
          subst er27
          refine lv_if_eq (tgt := 45) hx hb dX1_multiply_32 (by decide) (fun h28 => ?_) (fun h28 => ?_)
          · skip
            refine lv_iload_n hx hb dX1_multiply_45 rfl (lv_at hl 0 rfl) ?_
            refine lv_iload_n hx hb dX1_multiply_46 rfl (lv_at hl 1 rfl) ?_
            refine lv_ixor hx hb dX1_multiply_47 ?_
            refine lv_bipush (v := 16) hx hb dX1_multiply_48 (by decide) ?_
            refine lv_iand hx hb dX1_multiply_50 ?_
            refine lv_istore_n (lv' := [(2, .int ((x ^^^ y) &&& 16)), (0, .int x), (1, .int y)]) hx hb dX1_multiply_51 rfl hl (by decide) rfl (fun ls hl => ?_)
            refine lv_iload_n hx hb dX1_multiply_52 rfl (lv_at hl 1 rfl) ?_
            refine vp_callSi (W.runS (As := [.int x]) (rest := []) ⟨hx, hb, hml, hown, hts⟩ (ctX1_isInfinite l x) (va_cwS 1 hts (wA_wsS wm_ml_X1_33 wm_st_X1_isInfinite wm_in_X1 wm_cd_X1_isInfinite) rfl rfl rfl (by decide +kernel) ⟨Nat.le_of_ble_eq_true rfl, Nat.le_of_ble_eq_true rfl⟩) ⟨fun a U g mk q => q, fun U hU hW => ⟨rfl, trivial⟩⟩ rfl rfl hl.1 rfl (lv_room (Nat.le_of_ble_eq_true rfl)) dX1_multiply_53 ⟨Nat.zero_le _, Nat.zero_le _⟩) (fun r29 er29 => ?_)
            subst er29
            refine lv_if_ne (tgt := 66) hx hb dX1_multiply_56 (by decide) (fun h30 => ?_) (fun h30 => ?_)
            · skip
              refine lv_iload_n hx hb dX1_multiply_66 rfl (lv_at hl 0 rfl) ?_
              refine lv_bipush (v := 12) hx hb dX1_multiply_67 (by decide) ?_
              refine lv_ior hx hb dX1_multiply_69 ?_
              exact W.iret (v := ((x ^^^ y) &&& 16) ||| 12) hx hb hr (fun t ht hW => ⟨((x ^^^ y) &&& 16) ||| 12, rfl, by first | (simp only [pu_mul, pu_abs, h2, h4, h6, h26, h28, h30, ↓reduceIte, not_true_eq_false, not_false_eq_true, and_true, true_and, and_false, false_and, or_true, true_or, or_false, false_or, and_self, or_self]; done) | (simp [pu_mul, pu_abs, h2, h4, h6, h26, h28, h30]; done) | (simp_all [pu_mul, pu_abs]; done), ht⟩) (fun q hq => by cases hq) dX1_multiply_70
            · skip
              refine lv_iload_n hx hb dX1_multiply_59 rfl (lv_at hl 2 rfl) ?_
              refine vp_callSi (W.runS (As := [.int y]) (rest := []) ⟨hx, hb, hml, hown, hts⟩ (ctX1_isInfinite l y) (va_cwS 1 hts (wA_wsS wm_ml_X1_33 wm_st_X1_isInfinite wm_in_X1 wm_cd_X1_isInfinite) rfl rfl rfl (by decide +kernel) ⟨Nat.le_of_ble_eq_true rfl, Nat.le_of_ble_eq_true rfl⟩) ⟨fun a U g mk q => q, fun U hU hW => ⟨rfl, trivial⟩⟩ rfl rfl hl.1 rfl (lv_room (Nat.le_of_ble_eq_true rfl)) dX1_multiply_60 ⟨Nat.zero_le _, Nat.zero_le _⟩) (fun r31 er31 => ?_)
              subst er31
              refine lv_if_eq (tgt := 71) hx hb dX1_multiply_63 (by decide) (fun h32 => ?_) (fun h32 => ?_)
              · skip
                refine lv_iload_n hx hb dX1_multiply_71 rfl (lv_at hl 0 rfl) ?_
                refine lv_iload_n hx hb dX1_multiply_72 rfl (lv_at hl 1 rfl) ?_
                refine vp_callSi (W.runS (As := [.int x]) (rest := [.int ((x ^^^ y) &&& 16)]) ⟨hx, hb, hml, hown, hts⟩ (ctX1_signedQuarters l x) (va_cwS 1 hts (wA_wsS wm_ml_X1_39 wm_st_X1_signedQuarters wm_in_X1 wm_cd_X1_signedQuarters) rfl rfl rfl (by decide +kernel) ⟨Nat.le_of_ble_eq_true rfl, Nat.le_of_ble_eq_true rfl⟩) ⟨fun a U g mk q => q, fun U hU hW => ⟨rfl, trivial⟩⟩ rfl rfl hl.1 rfl (lv_room (Nat.le_of_ble_eq_true rfl)) dX1_multiply_73 ⟨Nat.zero_le _, Nat.zero_le _⟩) (fun r33 er33 => ?_)
                subst er33
                refine lv_iload_n hx hb dX1_multiply_76 rfl (lv_at hl 2 rfl) ?_
                refine vp_callSi (W.runS (As := [.int y]) (rest := [.int (pu_sq x), .int ((x ^^^ y) &&& 16)]) ⟨hx, hb, hml, hown, hts⟩ (ctX1_signedQuarters l y) (va_cwS 1 hts (wA_wsS wm_ml_X1_39 wm_st_X1_signedQuarters wm_in_X1 wm_cd_X1_signedQuarters) rfl rfl rfl (by decide +kernel) ⟨Nat.le_of_ble_eq_true rfl, Nat.le_of_ble_eq_true rfl⟩) ⟨fun a U g mk q => q, fun U hU hW => ⟨rfl, trivial⟩⟩ rfl rfl hl.1 rfl (lv_room (Nat.le_of_ble_eq_true rfl)) dX1_multiply_77 ⟨Nat.zero_le _, Nat.zero_le _⟩) (fun r34 er34 => ?_)
                subst er34
                refine lv_imul hx hb dX1_multiply_80 ?_
                refine va_mabs hx hb (by rw [hml]; exact hl.1.symm) hown (hts _ (List.mem_cons_of_mem _ wm_ml_X1_42)) (hts _ (List.mem_cons_of_mem _ wm_st_abs)) (hts _ (List.mem_cons_of_mem _ wm_in_Math)) (hts _ (List.mem_cons_of_mem _ wm_cd_abs)) (Nat.le_of_ble_eq_true rfl) (Nat.le_of_ble_eq_true rfl) (Nat.zero_le _) (Nat.zero_le _) dX1_multiply_81 ?_
                refine vp_callSi (W.runS (As := [.int (if 0 ≤ ((pu_sq x) * (pu_sq y)) then ((pu_sq x) * (pu_sq y)) else 0 - ((pu_sq x) * (pu_sq y)))]) (rest := [.int ((x ^^^ y) &&& 16)]) ⟨hx, hb, hml, hown, hts⟩ (ctX1_rounded l (if 0 ≤ ((pu_sq x) * (pu_sq y)) then ((pu_sq x) * (pu_sq y)) else 0 - ((pu_sq x) * (pu_sq y)))) (va_cwS 1 hts (wA_wsS wm_ml_X1_47 wm_st_X1_rounded wm_in_X1 wm_cd_X1_rounded) rfl rfl rfl (by decide +kernel) ⟨Nat.le_of_ble_eq_true rfl, Nat.le_of_ble_eq_true rfl⟩) ⟨fun a U g mk q => q, fun U hU hW => ⟨rfl, trivial⟩⟩ rfl rfl hl.1 rfl (lv_room (Nat.le_of_ble_eq_true rfl)) dX1_multiply_84 ⟨Nat.zero_le _, Nat.zero_le _⟩) (fun r35 er35 => ?_)
                subst er35
                refine lv_ior hx hb dX1_multiply_87 ?_
                exact W.iret (v := ((x ^^^ y) &&& 16) ||| (pu_rnd (if 0 ≤ ((pu_sq x) * (pu_sq y)) then ((pu_sq x) * (pu_sq y)) else 0 - ((pu_sq x) * (pu_sq y))))) hx hb hr (fun t ht hW => ⟨((x ^^^ y) &&& 16) ||| (pu_rnd (if 0 ≤ ((pu_sq x) * (pu_sq y)) then ((pu_sq x) * (pu_sq y)) else 0 - ((pu_sq x) * (pu_sq y)))), rfl, by first | (simp only [pu_mul, pu_abs, h2, h4, h6, h26, h28, h30, h32, ↓reduceIte, not_true_eq_false, not_false_eq_true, and_true, true_and, and_false, false_and, or_true, true_or, or_false, false_or, and_self, or_self]; done) | (simp [pu_mul, pu_abs, h2, h4, h6, h26, h28, h30, h32]; done) | (simp_all [pu_mul, pu_abs]; done), ht⟩) (fun q hq => by cases hq) dX1_multiply_88
              · skip
                refine lv_iload_n hx hb dX1_multiply_66 rfl (lv_at hl 0 rfl) ?_
                refine lv_bipush (v := 12) hx hb dX1_multiply_67 (by decide) ?_
                refine lv_ior hx hb dX1_multiply_69 ?_
                exact W.iret (v := ((x ^^^ y) &&& 16) ||| 12) hx hb hr (fun t ht hW => ⟨((x ^^^ y) &&& 16) ||| 12, rfl, by first | (simp only [pu_mul, pu_abs, h2, h4, h6, h26, h28, h30, h32, ↓reduceIte, not_true_eq_false, not_false_eq_true, and_true, true_and, and_false, false_and, or_true, true_or, or_false, false_or, and_self, or_self]; done) | (simp [pu_mul, pu_abs, h2, h4, h6, h26, h28, h30, h32]; done) | (simp_all [pu_mul, pu_abs]; done), ht⟩) (fun q hq => by cases hq) dX1_multiply_70
          · skip
            refine lv_iload_n hx hb dX1_multiply_35 rfl (lv_at hl 1 rfl) ?_
            refine vp_callSi (W.runS (As := [.int y]) (rest := []) ⟨hx, hb, hml, hown, hts⟩ (ctX1_isInfinite l y) (va_cwS 1 hts (wA_wsS wm_ml_X1_33 wm_st_X1_isInfinite wm_in_X1 wm_cd_X1_isInfinite) rfl rfl rfl (by decide +kernel) ⟨Nat.le_of_ble_eq_true rfl, Nat.le_of_ble_eq_true rfl⟩) ⟨fun a U g mk q => q, fun U hU hW => ⟨rfl, trivial⟩⟩ rfl rfl hl.1 rfl (lv_room (Nat.le_of_ble_eq_true rfl)) dX1_multiply_36 ⟨Nat.zero_le _, Nat.zero_le _⟩) (fun r36 er36 => ?_)
            subst er36
            refine lv_if_eq (tgt := 45) hx hb dX1_multiply_39 (by decide) (fun h37 => ?_) (fun h37 => ?_)
            · skip
              refine lv_iload_n hx hb dX1_multiply_45 rfl (lv_at hl 0 rfl) ?_
              refine lv_iload_n hx hb dX1_multiply_46 rfl (lv_at hl 1 rfl) ?_
              refine lv_ixor hx hb dX1_multiply_47 ?_
              refine lv_bipush (v := 16) hx hb dX1_multiply_48 (by decide) ?_
              refine lv_iand hx hb dX1_multiply_50 ?_
              refine lv_istore_n (lv' := [(2, .int ((x ^^^ y) &&& 16)), (0, .int x), (1, .int y)]) hx hb dX1_multiply_51 rfl hl (by decide) rfl (fun ls hl => ?_)
              refine lv_iload_n hx hb dX1_multiply_52 rfl (lv_at hl 1 rfl) ?_
              refine vp_callSi (W.runS (As := [.int x]) (rest := []) ⟨hx, hb, hml, hown, hts⟩ (ctX1_isInfinite l x) (va_cwS 1 hts (wA_wsS wm_ml_X1_33 wm_st_X1_isInfinite wm_in_X1 wm_cd_X1_isInfinite) rfl rfl rfl (by decide +kernel) ⟨Nat.le_of_ble_eq_true rfl, Nat.le_of_ble_eq_true rfl⟩) ⟨fun a U g mk q => q, fun U hU hW => ⟨rfl, trivial⟩⟩ rfl rfl hl.1 rfl (lv_room (Nat.le_of_ble_eq_true rfl)) dX1_multiply_53 ⟨Nat.zero_le _, Nat.zero_le _⟩) (fun r38 er38 => ?_)
              subst er38
              refine lv_if_ne (tgt := 66) hx hb dX1_multiply_56 (by decide) (fun h39 => ?_) (fun h39 => ?_)
              · skip
                refine lv_iload_n hx hb dX1_multiply_66 rfl (lv_at hl 0 rfl) ?_
                refine lv_bipush (v := 12) hx hb dX1_multiply_67 (by decide) ?_
                refine lv_ior hx hb dX1_multiply_69 ?_
                exact W.iret (v := ((x ^^^ y) &&& 16) ||| 12) hx hb hr (fun t ht hW => ⟨((x ^^^ y) &&& 16) ||| 12, rfl, by first | (simp only [pu_mul, pu_abs, h2, h4, h6, h26, h28, h37, h39, ↓reduceIte, not_true_eq_false, not_false_eq_true, and_true, true_and, and_false, false_and, or_true, true_or, or_false, false_or, and_self, or_self]; done) | (simp [pu_mul, pu_abs, h2, h4, h6, h26, h28, h37, h39]; done) | (simp_all [pu_mul, pu_abs]; done), ht⟩) (fun q hq => by cases hq) dX1_multiply_70
              · skip
                refine lv_iload_n hx hb dX1_multiply_59 rfl (lv_at hl 2 rfl) ?_
                refine vp_callSi (W.runS (As := [.int y]) (rest := []) ⟨hx, hb, hml, hown, hts⟩ (ctX1_isInfinite l y) (va_cwS 1 hts (wA_wsS wm_ml_X1_33 wm_st_X1_isInfinite wm_in_X1 wm_cd_X1_isInfinite) rfl rfl rfl (by decide +kernel) ⟨Nat.le_of_ble_eq_true rfl, Nat.le_of_ble_eq_true rfl⟩) ⟨fun a U g mk q => q, fun U hU hW => ⟨rfl, trivial⟩⟩ rfl rfl hl.1 rfl (lv_room (Nat.le_of_ble_eq_true rfl)) dX1_multiply_60 ⟨Nat.zero_le _, Nat.zero_le _⟩) (fun r40 er40 => ?_)
                subst er40
                refine lv_if_eq (tgt := 71) hx hb dX1_multiply_63 (by decide) (fun h41 => ?_) (fun h41 => ?_)
                · skip
                  refine lv_iload_n hx hb dX1_multiply_71 rfl (lv_at hl 0 rfl) ?_
                  refine lv_iload_n hx hb dX1_multiply_72 rfl (lv_at hl 1 rfl) ?_
                  refine vp_callSi (W.runS (As := [.int x]) (rest := [.int ((x ^^^ y) &&& 16)]) ⟨hx, hb, hml, hown, hts⟩ (ctX1_signedQuarters l x) (va_cwS 1 hts (wA_wsS wm_ml_X1_39 wm_st_X1_signedQuarters wm_in_X1 wm_cd_X1_signedQuarters) rfl rfl rfl (by decide +kernel) ⟨Nat.le_of_ble_eq_true rfl, Nat.le_of_ble_eq_true rfl⟩) ⟨fun a U g mk q => q, fun U hU hW => ⟨rfl, trivial⟩⟩ rfl rfl hl.1 rfl (lv_room (Nat.le_of_ble_eq_true rfl)) dX1_multiply_73 ⟨Nat.zero_le _, Nat.zero_le _⟩) (fun r42 er42 => ?_)
                  subst er42
                  refine lv_iload_n hx hb dX1_multiply_76 rfl (lv_at hl 2 rfl) ?_
                  refine vp_callSi (W.runS (As := [.int y]) (rest := [.int (pu_sq x), .int ((x ^^^ y) &&& 16)]) ⟨hx, hb, hml, hown, hts⟩ (ctX1_signedQuarters l y) (va_cwS 1 hts (wA_wsS wm_ml_X1_39 wm_st_X1_signedQuarters wm_in_X1 wm_cd_X1_signedQuarters) rfl rfl rfl (by decide +kernel) ⟨Nat.le_of_ble_eq_true rfl, Nat.le_of_ble_eq_true rfl⟩) ⟨fun a U g mk q => q, fun U hU hW => ⟨rfl, trivial⟩⟩ rfl rfl hl.1 rfl (lv_room (Nat.le_of_ble_eq_true rfl)) dX1_multiply_77 ⟨Nat.zero_le _, Nat.zero_le _⟩) (fun r43 er43 => ?_)
                  subst er43
                  refine lv_imul hx hb dX1_multiply_80 ?_
                  refine va_mabs hx hb (by rw [hml]; exact hl.1.symm) hown (hts _ (List.mem_cons_of_mem _ wm_ml_X1_42)) (hts _ (List.mem_cons_of_mem _ wm_st_abs)) (hts _ (List.mem_cons_of_mem _ wm_in_Math)) (hts _ (List.mem_cons_of_mem _ wm_cd_abs)) (Nat.le_of_ble_eq_true rfl) (Nat.le_of_ble_eq_true rfl) (Nat.zero_le _) (Nat.zero_le _) dX1_multiply_81 ?_
                  refine vp_callSi (W.runS (As := [.int (if 0 ≤ ((pu_sq x) * (pu_sq y)) then ((pu_sq x) * (pu_sq y)) else 0 - ((pu_sq x) * (pu_sq y)))]) (rest := [.int ((x ^^^ y) &&& 16)]) ⟨hx, hb, hml, hown, hts⟩ (ctX1_rounded l (if 0 ≤ ((pu_sq x) * (pu_sq y)) then ((pu_sq x) * (pu_sq y)) else 0 - ((pu_sq x) * (pu_sq y)))) (va_cwS 1 hts (wA_wsS wm_ml_X1_47 wm_st_X1_rounded wm_in_X1 wm_cd_X1_rounded) rfl rfl rfl (by decide +kernel) ⟨Nat.le_of_ble_eq_true rfl, Nat.le_of_ble_eq_true rfl⟩) ⟨fun a U g mk q => q, fun U hU hW => ⟨rfl, trivial⟩⟩ rfl rfl hl.1 rfl (lv_room (Nat.le_of_ble_eq_true rfl)) dX1_multiply_84 ⟨Nat.zero_le _, Nat.zero_le _⟩) (fun r44 er44 => ?_)
                  subst er44
                  refine lv_ior hx hb dX1_multiply_87 ?_
                  exact W.iret (v := ((x ^^^ y) &&& 16) ||| (pu_rnd (if 0 ≤ ((pu_sq x) * (pu_sq y)) then ((pu_sq x) * (pu_sq y)) else 0 - ((pu_sq x) * (pu_sq y))))) hx hb hr (fun t ht hW => ⟨((x ^^^ y) &&& 16) ||| (pu_rnd (if 0 ≤ ((pu_sq x) * (pu_sq y)) then ((pu_sq x) * (pu_sq y)) else 0 - ((pu_sq x) * (pu_sq y)))), rfl, by first | (simp only [pu_mul, pu_abs, h2, h4, h6, h26, h28, h37, h39, h41, ↓reduceIte, not_true_eq_false, not_false_eq_true, and_true, true_and, and_false, false_and, or_true, true_or, or_false, false_or, and_self, or_self]; done) | (simp [pu_mul, pu_abs, h2, h4, h6, h26, h28, h37, h39, h41]; done) | (simp_all [pu_mul, pu_abs]; done), ht⟩) (fun q hq => by cases hq) dX1_multiply_88
                · skip
                  refine lv_iload_n hx hb dX1_multiply_66 rfl (lv_at hl 0 rfl) ?_
                  refine lv_bipush (v := 12) hx hb dX1_multiply_67 (by decide) ?_
                  refine lv_ior hx hb dX1_multiply_69 ?_
                  exact W.iret (v := ((x ^^^ y) &&& 16) ||| 12) hx hb hr (fun t ht hW => ⟨((x ^^^ y) &&& 16) ||| 12, rfl, by first | (simp only [pu_mul, pu_abs, h2, h4, h6, h26, h28, h37, h39, h41, ↓reduceIte, not_true_eq_false, not_false_eq_true, and_true, true_and, and_false, false_and, or_true, true_or, or_false, false_or, and_self, or_self]; done) | (simp [pu_mul, pu_abs, h2, h4, h6, h26, h28, h37, h39, h41]; done) | (simp_all [pu_mul, pu_abs]; done), ht⟩) (fun q hq => by cases hq) dX1_multiply_70
            · skip
              refine lv_bipush (v := 13) hx hb dX1_multiply_42 (by decide) ?_
              exact W.iret (v := 13) hx hb hr (fun t ht hW => ⟨13, rfl, by first | (simp only [pu_mul, pu_abs, h2, h4, h6, h26, h28, h37, ↓reduceIte, not_true_eq_false, not_false_eq_true, and_true, true_and, and_false, false_and, or_true, true_or, or_false, false_or, and_self, or_self]; done) | (simp [pu_mul, pu_abs, h2, h4, h6, h26, h28, h37]; done) | (simp_all [pu_mul, pu_abs]; done), ht⟩) (fun q hq => by cases hq) dX1_multiply_44
set_option maxHeartbeats 4000000 in
set_option maxRecDepth 100000 in
theorem ctX1_operate (l : Launch) (k x y : Int32) : Met l yX1_operate wsX1_operate ({ frames := 2, cells := 0, slots := 0, locals := 46 }) (va_Pc [.int k, .int x, .int y] (fun _ => True)) (vp_Si (fun r => r = pu_op k x y)) 0 0 (fun _ => False) := by
  refine Met.ofW (cc := cX1_operate) (maxL := 3) (ret := (some .int)) (by decide) rfl ?_
  intro p e s m args below meth c s₁ B hml hv
  obtain ⟨rfl, -⟩ := hv
  have hx := B.exec
  have hb := B.bytes
  have hr := B.returns
  have hts := atoms_spec (ws := wsX1_operate) B.pre
  have hown : s.vm.findClass RX1 = some m.cls := findClass_of_methodNamed B.named
  have hlocks := B.notSynchronized
  have hl := lv_entry ([.int k, .int x, .int y]) (n := 3) (Nat.le_of_ble_eq_true rfl)
  rw [lg_entry_eq]
  generalize (lg_sl ([.int k, .int x, .int y]) ++ List.replicate (3 - (lg_sl ([.int k, .int x, .int y])).length) Slot.unset).toArray = ls at hl ⊢
  have hl : lv_has ls 3 [(0, .int k), (1, .int x), (2, .int y)] := hl
  refine lv_iload_n hx hb dX1_operate_0 rfl (lv_at hl 0 rfl) ?_
  by_cases k1 : k = 2
  · refine lv_tableIn (off := 75) (tgt := 76) hx hb dX1_operate_1 (by rw [k1]; decide) (by rw [k1]; decide) (by rw [k1]; rfl) (by decide) ?_
    refine lv_iload_n hx hb dX1_operate_76 rfl (lv_at hl 1 rfl) ?_
    refine vp_callSi (W.runS (As := [.int x]) (rest := []) ⟨hx, hb, hml, hown, hts⟩ (ctX1_negate l x) (va_cwS 1 hts (wA_wsS wm_ml_X1_9 wm_st_X1_negate wm_in_X1 wm_cd_X1_negate) rfl rfl rfl (by decide +kernel) ⟨Nat.le_of_ble_eq_true rfl, Nat.le_of_ble_eq_true rfl⟩) ⟨fun a U g mk q => q, fun U hU hW => ⟨rfl, trivial⟩⟩ rfl rfl hl.1 rfl (lv_room (Nat.le_of_ble_eq_true rfl)) dX1_operate_77 ⟨Nat.zero_le _, Nat.zero_le _⟩) (fun r2 er2 => ?_)
    subst er2
    exact W.iret (v := pu_neg x) hx hb hr (fun t ht hW => ⟨pu_neg x, rfl, by first | (subst k1; simp [pu_op, pu_nan]; done) | (simp [pu_op, k1]; done) | (subst k1; simp_all [pu_op]; done) | (simp_all [pu_op]; done), ht⟩) (fun q hq => by cases hq) dX1_operate_80
  by_cases k3 : k = 3
  · refine lv_tableIn (off := 80) (tgt := 81) hx hb dX1_operate_1 (by rw [k3]; decide) (by rw [k3]; decide) (by rw [k3]; rfl) (by decide) ?_
    refine lv_iload_n hx hb dX1_operate_81 rfl (lv_at hl 1 rfl) ?_
    refine lv_bipush (v := 15) hx hb dX1_operate_82 (by decide) ?_
    refine lv_iand hx hb dX1_operate_84 ?_
    exact W.iret (v := x &&& 15) hx hb hr (fun t ht hW => ⟨x &&& 15, rfl, by first | (subst k3; simp [pu_op, pu_nan]; done) | (simp [pu_op, k1, k3]; done) | (subst k3; simp_all [pu_op]; done) | (simp_all [pu_op]; done), ht⟩) (fun q hq => by cases hq) dX1_operate_85
  by_cases k4 : k = 4
  · refine lv_tableIn (off := 85) (tgt := 86) hx hb dX1_operate_1 (by rw [k4]; decide) (by rw [k4]; decide) (by rw [k4]; rfl) (by decide) ?_
    refine lv_iload_n hx hb dX1_operate_86 rfl (lv_at hl 1 rfl) ?_
    refine lv_iload_n hx hb dX1_operate_87 rfl (lv_at hl 2 rfl) ?_
    refine vp_callSi (W.runS (As := [.int x, .int y]) (rest := []) ⟨hx, hb, hml, hown, hts⟩ (ctX1_add l x y) (va_cwS 2 hts (wA_wsS wm_ml_X1_15 wm_st_X1_add wm_in_X1 wm_cd_X1_add) rfl rfl rfl (by decide +kernel) ⟨Nat.le_of_ble_eq_true rfl, Nat.le_of_ble_eq_true rfl⟩) ⟨fun a U g mk q => q, fun U hU hW => ⟨rfl, trivial⟩⟩ rfl rfl hl.1 rfl (lv_room (Nat.le_of_ble_eq_true rfl)) dX1_operate_88 ⟨Nat.zero_le _, Nat.zero_le _⟩) (fun r5 er5 => ?_)
    subst er5
    exact W.iret (v := pu_add x y) hx hb hr (fun t ht hW => ⟨pu_add x y, rfl, by first | (subst k4; simp [pu_op, pu_nan]; done) | (simp [pu_op, k1, k3, k4]; done) | (subst k4; simp_all [pu_op]; done) | (simp_all [pu_op]; done), ht⟩) (fun q hq => by cases hq) dX1_operate_91
  by_cases k6 : k = 5
  · refine lv_tableIn (off := 91) (tgt := 92) hx hb dX1_operate_1 (by rw [k6]; decide) (by rw [k6]; decide) (by rw [k6]; rfl) (by decide) ?_
    refine lv_iload_n hx hb dX1_operate_92 rfl (lv_at hl 1 rfl) ?_
    refine lv_iload_n hx hb dX1_operate_93 rfl (lv_at hl 2 rfl) ?_
    refine vp_callSi (W.runS (As := [.int y]) (rest := [.int x]) ⟨hx, hb, hml, hown, hts⟩ (ctX1_negate l y) (va_cwS 1 hts (wA_wsS wm_ml_X1_9 wm_st_X1_negate wm_in_X1 wm_cd_X1_negate) rfl rfl rfl (by decide +kernel) ⟨Nat.le_of_ble_eq_true rfl, Nat.le_of_ble_eq_true rfl⟩) ⟨fun a U g mk q => q, fun U hU hW => ⟨rfl, trivial⟩⟩ rfl rfl hl.1 rfl (lv_room (Nat.le_of_ble_eq_true rfl)) dX1_operate_94 ⟨Nat.zero_le _, Nat.zero_le _⟩) (fun r7 er7 => ?_)
    subst er7
    refine vp_callSi (W.runS (As := [.int x, .int (pu_neg y)]) (rest := []) ⟨hx, hb, hml, hown, hts⟩ (ctX1_add l x (pu_neg y)) (va_cwS 2 hts (wA_wsS wm_ml_X1_15 wm_st_X1_add wm_in_X1 wm_cd_X1_add) rfl rfl rfl (by decide +kernel) ⟨Nat.le_of_ble_eq_true rfl, Nat.le_of_ble_eq_true rfl⟩) ⟨fun a U g mk q => q, fun U hU hW => ⟨rfl, trivial⟩⟩ rfl rfl hl.1 rfl (lv_room (Nat.le_of_ble_eq_true rfl)) dX1_operate_97 ⟨Nat.zero_le _, Nat.zero_le _⟩) (fun r8 er8 => ?_)
    subst er8
    exact W.iret (v := pu_add x (pu_neg y)) hx hb hr (fun t ht hW => ⟨pu_add x (pu_neg y), rfl, by first | (subst k6; simp [pu_op, pu_nan]; done) | (simp [pu_op, k1, k3, k4, k6]; done) | (subst k6; simp_all [pu_op]; done) | (simp_all [pu_op]; done), ht⟩) (fun q hq => by cases hq) dX1_operate_100
  by_cases k9 : k = 6
  · refine lv_tableIn (off := 100) (tgt := 101) hx hb dX1_operate_1 (by rw [k9]; decide) (by rw [k9]; decide) (by rw [k9]; rfl) (by decide) ?_
    refine lv_iload_n hx hb dX1_operate_101 rfl (lv_at hl 1 rfl) ?_
    refine lv_iload_n hx hb dX1_operate_102 rfl (lv_at hl 2 rfl) ?_
    refine vp_callSi (W.runS (As := [.int x, .int y]) (rest := []) ⟨hx, hb, hml, hown, hts⟩ (ctX1_multiply l x y) (va_cwS 2 hts (wA_wsS wm_ml_X1_19 wm_st_X1_multiply wm_in_X1 wm_cd_X1_multiply) rfl rfl rfl (by decide +kernel) ⟨Nat.le_of_ble_eq_true rfl, Nat.le_of_ble_eq_true rfl⟩) ⟨fun a U g mk q => q, fun U hU hW => ⟨rfl, trivial⟩⟩ rfl rfl hl.1 rfl (lv_room (Nat.le_of_ble_eq_true rfl)) dX1_operate_103 ⟨Nat.zero_le _, Nat.zero_le _⟩) (fun r10 er10 => ?_)
    subst er10
    exact W.iret (v := pu_mul x y) hx hb hr (fun t ht hW => ⟨pu_mul x y, rfl, by first | (subst k9; simp [pu_op, pu_nan]; done) | (simp [pu_op, k1, k3, k4, k6, k9]; done) | (subst k9; simp_all [pu_op]; done) | (simp_all [pu_op]; done), ht⟩) (fun q hq => by cases hq) dX1_operate_106
  by_cases k11 : k = 7
  · refine lv_tableIn (off := 106) (tgt := 107) hx hb dX1_operate_1 (by rw [k11]; decide) (by rw [k11]; decide) (by rw [k11]; rfl) (by decide) ?_
    refine lv_iload_n hx hb dX1_operate_107 rfl (lv_at hl 1 rfl) ?_
    refine vp_callSi (W.runS (As := [.int x]) (rest := []) ⟨hx, hb, hml, hown, hts⟩ (ctX1_isNan l x) (va_cwS 1 hts (wA_wsS wm_ml_X1_22 wm_st_X1_isNan wm_in_X1 wm_cd_X1_isNan) rfl rfl rfl (by decide +kernel) ⟨Nat.le_of_ble_eq_true rfl, Nat.le_of_ble_eq_true rfl⟩) ⟨fun a U g mk q => q, fun U hU hW => ⟨rfl, trivial⟩⟩ rfl rfl hl.1 rfl (lv_room (Nat.le_of_ble_eq_true rfl)) dX1_operate_108 ⟨Nat.zero_le _, Nat.zero_le _⟩) (fun r12 er12 => ?_)
    subst er12
    refine lv_if_ne (tgt := 122) hx hb dX1_operate_111 (by decide) (fun h13 => ?_) (fun h13 => ?_)
    · skip
      refine lv_iload_n hx hb dX1_operate_122 rfl (lv_at hl 2 rfl) ?_
      refine lv_goto (tgt := 127) hx hb dX1_operate_123 (by decide) ?_
      exact W.iret (v := y) hx hb hr (fun t ht hW => ⟨y, rfl, by first | (subst k11; simp [pu_op, h13]; done) | (simp [pu_op, k1, k3, k4, k6, k9, k11, h13]; done) | (subst k11; simp_all [pu_op]; done) | (simp_all [pu_op]; done), ht⟩) (fun q hq => by cases hq) dX1_operate_127
    · skip
      refine lv_iload_n hx hb dX1_operate_114 rfl (lv_at hl 2 rfl) ?_
      refine lv_iload_n hx hb dX1_operate_115 rfl (lv_at hl 1 rfl) ?_
      refine vp_callSi (W.runS (As := [.int y, .int x]) (rest := []) ⟨hx, hb, hml, hown, hts⟩ (ctX1_isLess l y x) (va_cwS 2 hts (wA_wsS wm_ml_X1_26 wm_st_X1_isLess wm_in_X1 wm_cd_X1_isLess) rfl rfl rfl (by decide +kernel) ⟨Nat.le_of_ble_eq_true rfl, Nat.le_of_ble_eq_true rfl⟩) ⟨fun a U g mk q => q, fun U hU hW => ⟨rfl, trivial⟩⟩ rfl rfl hl.1 rfl (lv_room (Nat.le_of_ble_eq_true rfl)) dX1_operate_116 ⟨Nat.zero_le _, Nat.zero_le _⟩) (fun r14 er14 => ?_)
      subst er14
      refine lv_if_eq (tgt := 126) hx hb dX1_operate_119 (by decide) (fun h15 => ?_) (fun h15 => ?_)
      · skip
        refine lv_iload_n hx hb dX1_operate_126 rfl (lv_at hl 1 rfl) ?_
        exact W.iret (v := x) hx hb hr (fun t ht hW => ⟨x, rfl, by first | (subst k11; simp [pu_op, h13, h15]; done) | (simp [pu_op, k1, k3, k4, k6, k9, k11, h13, h15]; done) | (subst k11; simp_all [pu_op]; done) | (simp_all [pu_op]; done), ht⟩) (fun q hq => by cases hq) dX1_operate_127
      · skip
        refine lv_iload_n hx hb dX1_operate_122 rfl (lv_at hl 2 rfl) ?_
        refine lv_goto (tgt := 127) hx hb dX1_operate_123 (by decide) ?_
        exact W.iret (v := y) hx hb hr (fun t ht hW => ⟨y, rfl, by first | (subst k11; simp [pu_op, h13, h15]; done) | (simp [pu_op, k1, k3, k4, k6, k9, k11, h13, h15]; done) | (subst k11; simp_all [pu_op]; done) | (simp_all [pu_op]; done), ht⟩) (fun q hq => by cases hq) dX1_operate_127
  by_cases k16 : k = 8
  · refine lv_tableIn (off := 127) (tgt := 128) hx hb dX1_operate_1 (by rw [k16]; decide) (by rw [k16]; decide) (by rw [k16]; rfl) (by decide) ?_
    refine lv_iload_n hx hb dX1_operate_128 rfl (lv_at hl 1 rfl) ?_
    refine vp_callSi (W.runS (As := [.int x]) (rest := []) ⟨hx, hb, hml, hown, hts⟩ (ctX1_isNan l x) (va_cwS 1 hts (wA_wsS wm_ml_X1_22 wm_st_X1_isNan wm_in_X1 wm_cd_X1_isNan) rfl rfl rfl (by decide +kernel) ⟨Nat.le_of_ble_eq_true rfl, Nat.le_of_ble_eq_true rfl⟩) ⟨fun a U g mk q => q, fun U hU hW => ⟨rfl, trivial⟩⟩ rfl rfl hl.1 rfl (lv_room (Nat.le_of_ble_eq_true rfl)) dX1_operate_129 ⟨Nat.zero_le _, Nat.zero_le _⟩) (fun r17 er17 => ?_)
    subst er17
    refine lv_if_ne (tgt := 143) hx hb dX1_operate_132 (by decide) (fun h18 => ?_) (fun h18 => ?_)
    · skip
      refine lv_iload_n hx hb dX1_operate_143 rfl (lv_at hl 2 rfl) ?_
      refine lv_goto (tgt := 148) hx hb dX1_operate_144 (by decide) ?_
      exact W.iret (v := y) hx hb hr (fun t ht hW => ⟨y, rfl, by first | (subst k16; simp [pu_op, h18]; done) | (simp [pu_op, k1, k3, k4, k6, k9, k11, k16, h18]; done) | (subst k16; simp_all [pu_op]; done) | (simp_all [pu_op]; done), ht⟩) (fun q hq => by cases hq) dX1_operate_148
    · skip
      refine lv_iload_n hx hb dX1_operate_135 rfl (lv_at hl 1 rfl) ?_
      refine lv_iload_n hx hb dX1_operate_136 rfl (lv_at hl 2 rfl) ?_
      refine vp_callSi (W.runS (As := [.int x, .int y]) (rest := []) ⟨hx, hb, hml, hown, hts⟩ (ctX1_isLess l x y) (va_cwS 2 hts (wA_wsS wm_ml_X1_26 wm_st_X1_isLess wm_in_X1 wm_cd_X1_isLess) rfl rfl rfl (by decide +kernel) ⟨Nat.le_of_ble_eq_true rfl, Nat.le_of_ble_eq_true rfl⟩) ⟨fun a U g mk q => q, fun U hU hW => ⟨rfl, trivial⟩⟩ rfl rfl hl.1 rfl (lv_room (Nat.le_of_ble_eq_true rfl)) dX1_operate_137 ⟨Nat.zero_le _, Nat.zero_le _⟩) (fun r19 er19 => ?_)
      subst er19
      refine lv_if_eq (tgt := 147) hx hb dX1_operate_140 (by decide) (fun h20 => ?_) (fun h20 => ?_)
      · skip
        refine lv_iload_n hx hb dX1_operate_147 rfl (lv_at hl 1 rfl) ?_
        exact W.iret (v := x) hx hb hr (fun t ht hW => ⟨x, rfl, by first | (subst k16; simp [pu_op, h18, h20]; done) | (simp [pu_op, k1, k3, k4, k6, k9, k11, k16, h18, h20]; done) | (subst k16; simp_all [pu_op]; done) | (simp_all [pu_op]; done), ht⟩) (fun q hq => by cases hq) dX1_operate_148
      · skip
        refine lv_iload_n hx hb dX1_operate_143 rfl (lv_at hl 2 rfl) ?_
        refine lv_goto (tgt := 148) hx hb dX1_operate_144 (by decide) ?_
        exact W.iret (v := y) hx hb hr (fun t ht hW => ⟨y, rfl, by first | (subst k16; simp [pu_op, h18, h20]; done) | (simp [pu_op, k1, k3, k4, k6, k9, k11, k16, h18, h20]; done) | (subst k16; simp_all [pu_op]; done) | (simp_all [pu_op]; done), ht⟩) (fun q hq => by cases hq) dX1_operate_148
  by_cases k21 : k = 10
  · refine lv_tableIn (off := 148) (tgt := 149) hx hb dX1_operate_1 (by rw [k21]; decide) (by rw [k21]; decide) (by rw [k21]; rfl) (by decide) ?_
    refine lv_iload_n hx hb dX1_operate_149 rfl (lv_at hl 1 rfl) ?_
    refine lv_iload_n hx hb dX1_operate_150 rfl (lv_at hl 2 rfl) ?_
    refine lv_icmp_eq (tgt := 168) hx hb dX1_operate_151 (by decide) (fun h22 => ?_) (fun h22 => ?_)
    · skip
      refine lv_iconst (v := 1) hx hb dX1_operate_168 (by decide) ?_
      refine lv_goto (tgt := 173) hx hb dX1_operate_169 (by decide) ?_
      exact W.iret (v := 1) hx hb hr (fun t ht hW => ⟨1, rfl, by first | (subst k21; simp [pu_op, h22]; done) | (simp [pu_op, k1, k3, k4, k6, k9, k11, k16, k21, h22]; done) | (subst k21; simp_all [pu_op]; done) | (simp_all [pu_op]; done), ht⟩) (fun q hq => by cases hq) dX1_operate_173
    · skip
      refine lv_iload_n hx hb dX1_operate_154 rfl (lv_at hl 1 rfl) ?_
      refine vp_callSi (W.runS (As := [.int x]) (rest := []) ⟨hx, hb, hml, hown, hts⟩ (ctX1_isNan l x) (va_cwS 1 hts (wA_wsS wm_ml_X1_22 wm_st_X1_isNan wm_in_X1 wm_cd_X1_isNan) rfl rfl rfl (by decide +kernel) ⟨Nat.le_of_ble_eq_true rfl, Nat.le_of_ble_eq_true rfl⟩) ⟨fun a U g mk q => q, fun U hU hW => ⟨rfl, trivial⟩⟩ rfl rfl hl.1 rfl (lv_room (Nat.le_of_ble_eq_true rfl)) dX1_operate_155 ⟨Nat.zero_le _, Nat.zero_le _⟩) (fun r23 er23 => ?_)
      subst er23
      refine lv_if_eq (tgt := 172) hx hb dX1_operate_158 (by decide) (fun h24 => ?_) (fun h24 => ?_)
      · skip
        refine lv_iconst (v := 0) hx hb dX1_operate_172 (by decide) ?_
        exact W.iret (v := 0) hx hb hr (fun t ht hW => ⟨0, rfl, by first | (subst k21; simp [pu_op, h22, h24]; done) | (simp [pu_op, k1, k3, k4, k6, k9, k11, k16, k21, h22, h24]; done) | (subst k21; simp_all [pu_op]; done) | (simp_all [pu_op]; done), ht⟩) (fun q hq => by cases hq) dX1_operate_173
      · skip
        refine lv_iload_n hx hb dX1_operate_161 rfl (lv_at hl 2 rfl) ?_
        refine vp_callSi (W.runS (As := [.int y]) (rest := []) ⟨hx, hb, hml, hown, hts⟩ (ctX1_isNan l y) (va_cwS 1 hts (wA_wsS wm_ml_X1_22 wm_st_X1_isNan wm_in_X1 wm_cd_X1_isNan) rfl rfl rfl (by decide +kernel) ⟨Nat.le_of_ble_eq_true rfl, Nat.le_of_ble_eq_true rfl⟩) ⟨fun a U g mk q => q, fun U hU hW => ⟨rfl, trivial⟩⟩ rfl rfl hl.1 rfl (lv_room (Nat.le_of_ble_eq_true rfl)) dX1_operate_162 ⟨Nat.zero_le _, Nat.zero_le _⟩) (fun r25 er25 => ?_)
        subst er25
        refine lv_if_eq (tgt := 172) hx hb dX1_operate_165 (by decide) (fun h26 => ?_) (fun h26 => ?_)
        · skip
          refine lv_iconst (v := 0) hx hb dX1_operate_172 (by decide) ?_
          exact W.iret (v := 0) hx hb hr (fun t ht hW => ⟨0, rfl, by first | (subst k21; simp [pu_op, h22, h24, h26]; done) | (simp [pu_op, k1, k3, k4, k6, k9, k11, k16, k21, h22, h24, h26]; done) | (subst k21; simp_all [pu_op]; done) | (simp_all [pu_op]; done), ht⟩) (fun q hq => by cases hq) dX1_operate_173
        · skip
          refine lv_iconst (v := 1) hx hb dX1_operate_168 (by decide) ?_
          refine lv_goto (tgt := 173) hx hb dX1_operate_169 (by decide) ?_
          exact W.iret (v := 1) hx hb hr (fun t ht hW => ⟨1, rfl, by first | (subst k21; simp [pu_op, h22, h24, h26]; done) | (simp [pu_op, k1, k3, k4, k6, k9, k11, k16, k21, h22, h24, h26]; done) | (subst k21; simp_all [pu_op]; done) | (simp_all [pu_op]; done), ht⟩) (fun q hq => by cases hq) dX1_operate_173
  by_cases k27 : k = 11
  · refine lv_tableIn (off := 173) (tgt := 174) hx hb dX1_operate_1 (by rw [k27]; decide) (by rw [k27]; decide) (by rw [k27]; rfl) (by decide) ?_
    refine lv_iload_n hx hb dX1_operate_174 rfl (lv_at hl 1 rfl) ?_
    refine lv_iload_n hx hb dX1_operate_175 rfl (lv_at hl 2 rfl) ?_
    refine vp_callSi (W.runS (As := [.int x, .int y]) (rest := []) ⟨hx, hb, hml, hown, hts⟩ (ctX1_isEqual l x y) (va_cwS 2 hts (wA_wsS wm_ml_X1_30 wm_st_X1_isEqual wm_in_X1 wm_cd_X1_isEqual) rfl rfl rfl (by decide +kernel) ⟨Nat.le_of_ble_eq_true rfl, Nat.le_of_ble_eq_true rfl⟩) ⟨fun a U g mk q => q, fun U hU hW => ⟨rfl, trivial⟩⟩ rfl rfl hl.1 rfl (lv_room (Nat.le_of_ble_eq_true rfl)) dX1_operate_176 ⟨Nat.zero_le _, Nat.zero_le _⟩) (fun r28 er28 => ?_)
    subst er28
    refine lv_if_eq (tgt := 186) hx hb dX1_operate_179 (by decide) (fun h29 => ?_) (fun h29 => ?_)
    · skip
      refine lv_iconst (v := 0) hx hb dX1_operate_186 (by decide) ?_
      exact W.iret (v := 0) hx hb hr (fun t ht hW => ⟨0, rfl, by first | (subst k27; simp [pu_op, h29]; done) | (simp [pu_op, k1, k3, k4, k6, k9, k11, k16, k21, k27, h29]; done) | (subst k27; simp_all [pu_op]; done) | (simp_all [pu_op]; done), ht⟩) (fun q hq => by cases hq) dX1_operate_187
    · skip
      refine lv_iconst (v := 1) hx hb dX1_operate_182 (by decide) ?_
      refine lv_goto (tgt := 187) hx hb dX1_operate_183 (by decide) ?_
      exact W.iret (v := 1) hx hb hr (fun t ht hW => ⟨1, rfl, by first | (subst k27; simp [pu_op, h29]; done) | (simp [pu_op, k1, k3, k4, k6, k9, k11, k16, k21, k27, h29]; done) | (subst k27; simp_all [pu_op]; done) | (simp_all [pu_op]; done), ht⟩) (fun q hq => by cases hq) dX1_operate_187
  by_cases k30 : k = 12
  · refine lv_tableIn (off := 187) (tgt := 188) hx hb dX1_operate_1 (by rw [k30]; decide) (by rw [k30]; decide) (by rw [k30]; rfl) (by decide) ?_
    refine lv_iload_n hx hb dX1_operate_188 rfl (lv_at hl 1 rfl) ?_
    refine lv_iload_n hx hb dX1_operate_189 rfl (lv_at hl 2 rfl) ?_
    refine vp_callSi (W.runS (As := [.int x, .int y]) (rest := []) ⟨hx, hb, hml, hown, hts⟩ (ctX1_isLess l x y) (va_cwS 2 hts (wA_wsS wm_ml_X1_26 wm_st_X1_isLess wm_in_X1 wm_cd_X1_isLess) rfl rfl rfl (by decide +kernel) ⟨Nat.le_of_ble_eq_true rfl, Nat.le_of_ble_eq_true rfl⟩) ⟨fun a U g mk q => q, fun U hU hW => ⟨rfl, trivial⟩⟩ rfl rfl hl.1 rfl (lv_room (Nat.le_of_ble_eq_true rfl)) dX1_operate_190 ⟨Nat.zero_le _, Nat.zero_le _⟩) (fun r31 er31 => ?_)
    subst er31
    refine lv_if_eq (tgt := 200) hx hb dX1_operate_193 (by decide) (fun h32 => ?_) (fun h32 => ?_)
    · skip
      refine lv_iconst (v := 0) hx hb dX1_operate_200 (by decide) ?_
      exact W.iret (v := 0) hx hb hr (fun t ht hW => ⟨0, rfl, by first | (subst k30; simp [pu_op, h32]; done) | (simp [pu_op, k1, k3, k4, k6, k9, k11, k16, k21, k27, k30, h32]; done) | (subst k30; simp_all [pu_op]; done) | (simp_all [pu_op]; done), ht⟩) (fun q hq => by cases hq) dX1_operate_201
    · skip
      refine lv_iconst (v := 1) hx hb dX1_operate_196 (by decide) ?_
      refine lv_goto (tgt := 201) hx hb dX1_operate_197 (by decide) ?_
      exact W.iret (v := 1) hx hb hr (fun t ht hW => ⟨1, rfl, by first | (subst k30; simp [pu_op, h32]; done) | (simp [pu_op, k1, k3, k4, k6, k9, k11, k16, k21, k27, k30, h32]; done) | (subst k30; simp_all [pu_op]; done) | (simp_all [pu_op]; done), ht⟩) (fun q hq => by cases hq) dX1_operate_201
  by_cases k33 : k = 13
  · refine lv_tableIn (off := 201) (tgt := 202) hx hb dX1_operate_1 (by rw [k33]; decide) (by rw [k33]; decide) (by rw [k33]; rfl) (by decide) ?_
    refine lv_iload_n hx hb dX1_operate_202 rfl (lv_at hl 1 rfl) ?_
    refine lv_iload_n hx hb dX1_operate_203 rfl (lv_at hl 2 rfl) ?_
    refine vp_callSi (W.runS (As := [.int x, .int y]) (rest := []) ⟨hx, hb, hml, hown, hts⟩ (ctX1_isLess l x y) (va_cwS 2 hts (wA_wsS wm_ml_X1_26 wm_st_X1_isLess wm_in_X1 wm_cd_X1_isLess) rfl rfl rfl (by decide +kernel) ⟨Nat.le_of_ble_eq_true rfl, Nat.le_of_ble_eq_true rfl⟩) ⟨fun a U g mk q => q, fun U hU hW => ⟨rfl, trivial⟩⟩ rfl rfl hl.1 rfl (lv_room (Nat.le_of_ble_eq_true rfl)) dX1_operate_204 ⟨Nat.zero_le _, Nat.zero_le _⟩) (fun r34 er34 => ?_)
    subst er34
    refine lv_if_ne (tgt := 218) hx hb dX1_operate_207 (by decide) (fun h35 => ?_) (fun h35 => ?_)
    · skip
      refine lv_iconst (v := 1) hx hb dX1_operate_218 (by decide) ?_
      refine lv_goto (tgt := 223) hx hb dX1_operate_219 (by decide) ?_
      exact W.iret (v := 1) hx hb hr (fun t ht hW => ⟨1, rfl, by first | (subst k33; simp [pu_op, h35]; done) | (simp [pu_op, k1, k3, k4, k6, k9, k11, k16, k21, k27, k30, k33, h35]; done) | (subst k33; simp_all [pu_op]; done) | (simp_all [pu_op]; done), ht⟩) (fun q hq => by cases hq) dX1_operate_223
    · skip
      refine lv_iload_n hx hb dX1_operate_210 rfl (lv_at hl 1 rfl) ?_
      refine lv_iload_n hx hb dX1_operate_211 rfl (lv_at hl 2 rfl) ?_
      refine vp_callSi (W.runS (As := [.int x, .int y]) (rest := []) ⟨hx, hb, hml, hown, hts⟩ (ctX1_isEqual l x y) (va_cwS 2 hts (wA_wsS wm_ml_X1_30 wm_st_X1_isEqual wm_in_X1 wm_cd_X1_isEqual) rfl rfl rfl (by decide +kernel) ⟨Nat.le_of_ble_eq_true rfl, Nat.le_of_ble_eq_true rfl⟩) ⟨fun a U g mk q => q, fun U hU hW => ⟨rfl, trivial⟩⟩ rfl rfl hl.1 rfl (lv_room (Nat.le_of_ble_eq_true rfl)) dX1_operate_212 ⟨Nat.zero_le _, Nat.zero_le _⟩) (fun r36 er36 => ?_)
      subst er36
      refine lv_if_eq (tgt := 222) hx hb dX1_operate_215 (by decide) (fun h37 => ?_) (fun h37 => ?_)
      · skip
        refine lv_iconst (v := 0) hx hb dX1_operate_222 (by decide) ?_
        exact W.iret (v := 0) hx hb hr (fun t ht hW => ⟨0, rfl, by first | (subst k33; simp [pu_op, h35, h37]; done) | (simp [pu_op, k1, k3, k4, k6, k9, k11, k16, k21, k27, k30, k33, h35, h37]; done) | (subst k33; simp_all [pu_op]; done) | (simp_all [pu_op]; done), ht⟩) (fun q hq => by cases hq) dX1_operate_223
      · skip
        refine lv_iconst (v := 1) hx hb dX1_operate_218 (by decide) ?_
        refine lv_goto (tgt := 223) hx hb dX1_operate_219 (by decide) ?_
        exact W.iret (v := 1) hx hb hr (fun t ht hW => ⟨1, rfl, by first | (subst k33; simp [pu_op, h35, h37]; done) | (simp [pu_op, k1, k3, k4, k6, k9, k11, k16, k21, k27, k30, k33, h35, h37]; done) | (subst k33; simp_all [pu_op]; done) | (simp_all [pu_op]; done), ht⟩) (fun q hq => by cases hq) dX1_operate_223
  by_cases k38 : k = 14
  · refine lv_tableIn (off := 223) (tgt := 224) hx hb dX1_operate_1 (by rw [k38]; decide) (by rw [k38]; decide) (by rw [k38]; rfl) (by decide) ?_
    refine lv_iload_n hx hb dX1_operate_224 rfl (lv_at hl 1 rfl) ?_
    refine vp_callSi (W.runS (As := [.int x]) (rest := []) ⟨hx, hb, hml, hown, hts⟩ (ctX1_isNan l x) (va_cwS 1 hts (wA_wsS wm_ml_X1_22 wm_st_X1_isNan wm_in_X1 wm_cd_X1_isNan) rfl rfl rfl (by decide +kernel) ⟨Nat.le_of_ble_eq_true rfl, Nat.le_of_ble_eq_true rfl⟩) ⟨fun a U g mk q => q, fun U hU hW => ⟨rfl, trivial⟩⟩ rfl rfl hl.1 rfl (lv_room (Nat.le_of_ble_eq_true rfl)) dX1_operate_225 ⟨Nat.zero_le _, Nat.zero_le _⟩) (fun r39 er39 => ?_)
    subst er39
    refine lv_if_eq (tgt := 235) hx hb dX1_operate_228 (by decide) (fun h40 => ?_) (fun h40 => ?_)
    · skip
      refine lv_iconst (v := 0) hx hb dX1_operate_235 (by decide) ?_
      exact W.iret (v := 0) hx hb hr (fun t ht hW => ⟨0, rfl, by first | (subst k38; simp [pu_op, h40]; done) | (simp [pu_op, k1, k3, k4, k6, k9, k11, k16, k21, k27, k30, k33, k38, h40]; done) | (subst k38; simp_all [pu_op]; done) | (simp_all [pu_op]; done), ht⟩) (fun q hq => by cases hq) dX1_operate_236
    · skip
      refine lv_iconst (v := 1) hx hb dX1_operate_231 (by decide) ?_
      refine lv_goto (tgt := 236) hx hb dX1_operate_232 (by decide) ?_
      exact W.iret (v := 1) hx hb hr (fun t ht hW => ⟨1, rfl, by first | (subst k38; simp [pu_op, h40]; done) | (simp [pu_op, k1, k3, k4, k6, k9, k11, k16, k21, k27, k30, k33, k38, h40]; done) | (subst k38; simp_all [pu_op]; done) | (simp_all [pu_op]; done), ht⟩) (fun q hq => by cases hq) dX1_operate_236
  by_cases k41 : k = 15
  · refine lv_tableIn (off := 236) (tgt := 237) hx hb dX1_operate_1 (by rw [k41]; decide) (by rw [k41]; decide) (by rw [k41]; rfl) (by decide) ?_
    refine lv_iload_n hx hb dX1_operate_237 rfl (lv_at hl 1 rfl) ?_
    refine vp_callSi (W.runS (As := [.int x]) (rest := []) ⟨hx, hb, hml, hown, hts⟩ (ctX1_isInfinite l x) (va_cwS 1 hts (wA_wsS wm_ml_X1_33 wm_st_X1_isInfinite wm_in_X1 wm_cd_X1_isInfinite) rfl rfl rfl (by decide +kernel) ⟨Nat.le_of_ble_eq_true rfl, Nat.le_of_ble_eq_true rfl⟩) ⟨fun a U g mk q => q, fun U hU hW => ⟨rfl, trivial⟩⟩ rfl rfl hl.1 rfl (lv_room (Nat.le_of_ble_eq_true rfl)) dX1_operate_238 ⟨Nat.zero_le _, Nat.zero_le _⟩) (fun r42 er42 => ?_)
    subst er42
    refine lv_if_eq (tgt := 248) hx hb dX1_operate_241 (by decide) (fun h43 => ?_) (fun h43 => ?_)
    · skip
      refine lv_iconst (v := 0) hx hb dX1_operate_248 (by decide) ?_
      exact W.iret (v := 0) hx hb hr (fun t ht hW => ⟨0, rfl, by first | (subst k41; simp [pu_op, h43]; done) | (simp [pu_op, k1, k3, k4, k6, k9, k11, k16, k21, k27, k30, k33, k38, k41, h43]; done) | (subst k41; simp_all [pu_op]; done) | (simp_all [pu_op]; done), ht⟩) (fun q hq => by cases hq) dX1_operate_249
    · skip
      refine lv_iconst (v := 1) hx hb dX1_operate_244 (by decide) ?_
      refine lv_goto (tgt := 249) hx hb dX1_operate_245 (by decide) ?_
      exact W.iret (v := 1) hx hb hr (fun t ht hW => ⟨1, rfl, by first | (subst k41; simp [pu_op, h43]; done) | (simp [pu_op, k1, k3, k4, k6, k9, k11, k16, k21, k27, k30, k33, k38, k41, h43]; done) | (subst k41; simp_all [pu_op]; done) | (simp_all [pu_op]; done), ht⟩) (fun q hq => by cases hq) dX1_operate_249
  by_cases k44 : k = 16
  · refine lv_tableIn (off := 249) (tgt := 250) hx hb dX1_operate_1 (by rw [k44]; decide) (by rw [k44]; decide) (by rw [k44]; rfl) (by decide) ?_
    refine lv_iload_n hx hb dX1_operate_250 rfl (lv_at hl 1 rfl) ?_
    refine vp_callSi (W.runS (As := [.int x]) (rest := []) ⟨hx, hb, hml, hown, hts⟩ (ctX1_isZero l x) (va_cwS 1 hts (wA_wsS wm_ml_X1_36 wm_st_X1_isZero wm_in_X1 wm_cd_X1_isZero) rfl rfl rfl (by decide +kernel) ⟨Nat.le_of_ble_eq_true rfl, Nat.le_of_ble_eq_true rfl⟩) ⟨fun a U g mk q => q, fun U hU hW => ⟨rfl, trivial⟩⟩ rfl rfl hl.1 rfl (lv_room (Nat.le_of_ble_eq_true rfl)) dX1_operate_251 ⟨Nat.zero_le _, Nat.zero_le _⟩) (fun r45 er45 => ?_)
    subst er45
    refine lv_if_eq (tgt := 261) hx hb dX1_operate_254 (by decide) (fun h46 => ?_) (fun h46 => ?_)
    · skip
      refine lv_iconst (v := 0) hx hb dX1_operate_261 (by decide) ?_
      exact W.iret (v := 0) hx hb hr (fun t ht hW => ⟨0, rfl, by first | (subst k44; simp [pu_op, h46]; done) | (simp [pu_op, k1, k3, k4, k6, k9, k11, k16, k21, k27, k30, k33, k38, k41, k44, h46]; done) | (subst k44; simp_all [pu_op]; done) | (simp_all [pu_op]; done), ht⟩) (fun q hq => by cases hq) dX1_operate_262
    · skip
      refine lv_iconst (v := 1) hx hb dX1_operate_257 (by decide) ?_
      refine lv_goto (tgt := 262) hx hb dX1_operate_258 (by decide) ?_
      exact W.iret (v := 1) hx hb hr (fun t ht hW => ⟨1, rfl, by first | (subst k44; simp [pu_op, h46]; done) | (simp [pu_op, k1, k3, k4, k6, k9, k11, k16, k21, k27, k30, k33, k38, k41, k44, h46]; done) | (subst k44; simp_all [pu_op]; done) | (simp_all [pu_op]; done), ht⟩) (fun q hq => by cases hq) dX1_operate_262
  by_cases k47 : k = 9
  · refine lv_tableIn (off := 262) (tgt := 263) hx hb dX1_operate_1 (by rw [k47]; decide) (by rw [k47]; decide) (by rw [k47]; rfl) (by decide) ?_
    refine lv_iconst (v := 0) hx hb dX1_operate_263 (by decide) ?_
    exact W.iret (v := 0) hx hb hr (fun t ht hW => ⟨0, rfl, by first | (subst k47; simp [pu_op, pu_nan]; done) | (simp [pu_op, k1, k3, k4, k6, k9, k11, k16, k21, k27, k30, k33, k38, k41, k44, k47]; done) | (subst k47; simp_all [pu_op]; done) | (simp_all [pu_op]; done), ht⟩) (fun q hq => by cases hq) dX1_operate_264
  refine lv_tableOut (tgt := 263) hx hb dX1_operate_1 (sw_out 2 16 (by decide) (fun j h1 h2 e => ?_)) (by decide) ?_
  · rcases (show j = 2 ∨ j = 3 ∨ j = 4 ∨ j = 5 ∨ j = 6 ∨ j = 7 ∨ j = 8 ∨ j = 9 ∨ j = 10 ∨ j = 11 ∨ j = 12 ∨ j = 13 ∨ j = 14 ∨ j = 15 ∨ j = 16 by omega) with rfl | rfl | rfl | rfl | rfl | rfl | rfl | rfl | rfl | rfl | rfl | rfl | rfl | rfl | rfl
    · exact k1 e
    · exact k3 e
    · exact k4 e
    · exact k6 e
    · exact k9 e
    · exact k11 e
    · exact k16 e
    · exact k47 e
    · exact k21 e
    · exact k27 e
    · exact k30 e
    · exact k33 e
    · exact k38 e
    · exact k41 e
    · exact k44 e
  refine lv_iconst (v := 0) hx hb dX1_operate_263 (by decide) ?_
  exact W.iret (v := 0) hx hb hr (fun t ht hW => ⟨0, rfl, by first | (subst k47; simp [pu_op, pu_nan]; done) | (simp [pu_op, k1, k3, k4, k6, k9, k11, k16, k21, k27, k30, k33, k38, k41, k44, k47]; done) | (subst k47; simp_all [pu_op]; done) | (simp_all [pu_op]; done), ht⟩) (fun q hq => by cases hq) dX1_operate_264
end
section
/-! a loop: the states a of its head, told by I; each round comes to a state that is less -/
section XWA
variable {p : Program} {l : Launch} {e : Env} {R : Room} {s : State} {m : MethodId} {args : Array Value} {below : List Frame} {meth : Method} {c : Code} {cells slots : Nat} {Q Q' : State → Prop}
theorem xw_loop {pc : Nat} {σ : Type} (μ : σ → Nat) (I : σ → Array Slot → Heap → List Loc → Prop)
    (step : ∀ (a : σ) (ls : Array Slot) (H : Heap) (locs : List Loc), I a ls H locs → (∀ (b : σ) (ls' : Array Slot) (H' : Heap) (locs' : List Loc), I b ls' H' locs' → μ b < μ a → W p l e R s m args below meth c H' locs' cells slots Q (F0 m pc ls' [])) → W p l e R s m args below meth c H locs cells slots Q (F0 m pc ls [])) :
    ∀ (a : σ) (ls : Array Slot) (H : Heap) (locs : List Loc), I a ls H locs → W p l e R s m args below meth c H locs cells slots Q (F0 m pc ls []) := by
  have key : ∀ (n : Nat) (a : σ), μ a = n → ∀ (ls : Array Slot) (H : Heap) (locs : List Loc), I a ls H locs → W p l e R s m args below meth c H locs cells slots Q (F0 m pc ls []) := by
    intro n
    induction n using Nat.strongRecOn with
    | _ n ih =>
      intro a ha ls H locs hI
      exact step a ls H locs hI fun b ls' H' locs' hI' hlt => ih (μ b) (by omega) b rfl ls' H' locs' hI'
  exact fun a ls H locs hI => key (μ a) a rfl ls H locs hI
theorem xw_mono {H : Heap} {locs : List Loc} {g : JFrame} (h : ∀ t, Q t → Q' t) (k : W p l e R s m args below meth c H locs cells slots Q g) : W p l e R s m args below meth c H locs cells slots Q' g := by
  intro T hT X
  obtain ⟨t, a, b⟩ := k T hT X
  exact ⟨t, a, h t b⟩
end XWA
theorem pm_rst_y {s best k A B : Int32} (hA : pm_ab (s - 4 * pm_q k) = A) (hB : pm_ab (s - 4 * pm_q best) = B) (h : A < B ∨ (A = B ∧ k - k / 2 * 2 = 0)) : pm_rst s best k = k := by unfold pm_rst; rw [hA, hB, if_pos h]
theorem pm_rst_n {s best k A B : Int32} (hA : pm_ab (s - 4 * pm_q k) = A) (hB : pm_ab (s - 4 * pm_q best) = B) (h : ¬ (A < B ∨ (A = B ∧ k - k / 2 * 2 = 0))) : pm_rst s best k = best := by unfold pm_rst; rw [hA, hB, if_neg h]
def pm_tru (b : Int32) : Int32 := if b = 0 then 0 else 1
def pm_nms (k : Int32) : Int32 := if k = 9 then 3 else if k < 4 then 1 else if k < 14 then 2 else if 17 < k then 2 else 1
def pu_isn (x : Int32) : Int32 := if x < 0 then 0 else if 31 < x then 0 else 1
def pu_iso (k : Int32) : Int32 := if k < 2 then 0 else if 16 < k then 0 else if k = 9 then 0 else 1
def px_knd (k : Int32) : Int32 := if k < 0 then 0 else if 19 < k then 0 else 1
def px_tru (k : Int32) : Int32 := if k < 10 then 0 else if 19 < k then 0 else 1
def px_s1 (k : Int32) : Int32 := if k = 0 then 1 else if k = 1 then 2 else if k = 9 ∨ k = 17 ∨ k = 18 ∨ k = 19 then 4 else 3
def px_s2 (k : Int32) : Int32 := if ¬ k < 4 ∧ ¬ 13 < k then 3 else if k = 18 ∨ k = 19 then 4 else 0
def px_s3 (k : Int32) : Int32 := if k = 9 then 3 else 0
def px_ter (s : Int32) : Int32 := if s = 3 ∨ s = 4 then 1 else 0
set_option maxHeartbeats 4000000 in
set_option maxRecDepth 100000 in
theorem ctX5_nan (l : Launch) (x : Int32) : Met l yX5_nan wsX5_nan ({ frames := 0, cells := 0, slots := 0, locals := 0 }) (va_Pc [.int x] (fun _ => True)) (vp_Si (fun r => r = pu_nan x)) 0 0 (fun _ => False) := by
  refine Met.ofW (cc := cX5_nan) (maxL := 1) (ret := (some .boolean)) (by decide) rfl ?_
  intro p e s m args below meth c s₁ B hml hv
  obtain ⟨rfl, -⟩ := hv
  have hx := B.exec
  have hb := B.bytes
  have hr := B.returns
  have hts := atoms_spec (ws := wsX5_nan) B.pre
  have hown : s.vm.findClass RX5 = some m.cls := findClass_of_methodNamed B.named
  have hlocks := B.notSynchronized
  have hl := lv_entry ([.int x]) (n := 1) (Nat.le_of_ble_eq_true rfl)
  rw [lg_entry_eq]
  generalize (lg_sl ([.int x]) ++ List.replicate (1 - (lg_sl ([.int x])).length) Slot.unset).toArray = ls at hl ⊢
  have hl : lv_has ls 1 [(0, .int x)] := hl
  refine lv_iload_n hx hb dX5_nan_0 rfl (lv_at hl 0 rfl) ?_
  refine lv_bipush (v := 15) hx hb dX5_nan_1 (by decide) ?_
  refine lv_iand hx hb dX5_nan_3 ?_
  refine lv_bipush (v := 12) hx hb dX5_nan_4 (by decide) ?_
  refine lv_icmp_le (tgt := 13) hx hb dX5_nan_6 (by decide) (fun h1 => ?_) (fun h1 => ?_)
  · skip
    have h1b := Int32.not_lt.mpr h1
    refine lv_iconst (v := 0) hx hb dX5_nan_13 (by decide) ?_
    exact W.zret (v := 0) hx hb hr (rfl) (fun t ht hW => ⟨0, rfl, by first | (simp only [pu_nan, h1, h1b, ↓reduceIte, not_true_eq_false, not_false_eq_true, and_true, true_and, and_false, false_and, or_true, true_or, or_false, false_or, and_self, or_self]; done) | (simp [pu_nan, h1, h1b]; done) | (simp_all [pu_nan]; done), ht⟩) (fun q hq => by cases hq) dX5_nan_14
  · skip
    have h1b := Int32.not_le.mp h1
    refine lv_iconst (v := 1) hx hb dX5_nan_9 (by decide) ?_
    refine lv_goto (tgt := 14) hx hb dX5_nan_10 (by decide) ?_
    exact W.zret (v := 1) hx hb hr (rfl) (fun t ht hW => ⟨1, rfl, by first | (simp only [pu_nan, h1, h1b, ↓reduceIte, not_true_eq_false, not_false_eq_true, and_true, true_and, and_false, false_and, or_true, true_or, or_false, false_or, and_self, or_self]; done) | (simp [pu_nan, h1, h1b]; done) | (simp_all [pu_nan]; done), ht⟩) (fun q hq => by cases hq) dX5_nan_14
set_option maxHeartbeats 4000000 in
set_option maxRecDepth 100000 in
theorem ctX5_infinite (l : Launch) (x : Int32) : Met l yX5_infinite wsX5_infinite ({ frames := 0, cells := 0, slots := 0, locals := 0 }) (va_Pc [.int x] (fun _ => True)) (vp_Si (fun r => r = pu_inf x)) 0 0 (fun _ => False) := by
  refine Met.ofW (cc := cX5_infinite) (maxL := 1) (ret := (some .boolean)) (by decide) rfl ?_
  intro p e s m args below meth c s₁ B hml hv
  obtain ⟨rfl, -⟩ := hv
  have hx := B.exec
  have hb := B.bytes
  have hr := B.returns
  have hts := atoms_spec (ws := wsX5_infinite) B.pre
  have hown : s.vm.findClass RX5 = some m.cls := findClass_of_methodNamed B.named
  have hlocks := B.notSynchronized
  have hl := lv_entry ([.int x]) (n := 1) (Nat.le_of_ble_eq_true rfl)
  rw [lg_entry_eq]
  generalize (lg_sl ([.int x]) ++ List.replicate (1 - (lg_sl ([.int x])).length) Slot.unset).toArray = ls at hl ⊢
  have hl : lv_has ls 1 [(0, .int x)] := hl
  refine lv_iload_n hx hb dX5_infinite_0 rfl (lv_at hl 0 rfl) ?_
  refine lv_bipush (v := 15) hx hb dX5_infinite_1 (by decide) ?_
  refine lv_iand hx hb dX5_infinite_3 ?_
  refine lv_bipush (v := 12) hx hb dX5_infinite_4 (by decide) ?_
  refine lv_icmp_ne (tgt := 13) hx hb dX5_infinite_6 (by decide) (fun h1 => ?_) (fun h1 => ?_)
  · skip
    refine lv_iconst (v := 0) hx hb dX5_infinite_13 (by decide) ?_
    exact W.zret (v := 0) hx hb hr (rfl) (fun t ht hW => ⟨0, rfl, by first | (simp only [pu_inf, h1, ↓reduceIte, not_true_eq_false, not_false_eq_true, and_true, true_and, and_false, false_and, or_true, true_or, or_false, false_or, and_self, or_self]; done) | (simp [pu_inf, h1]; done) | (simp_all [pu_inf]; done), ht⟩) (fun q hq => by cases hq) dX5_infinite_14
  · skip
    refine lv_iconst (v := 1) hx hb dX5_infinite_9 (by decide) ?_
    refine lv_goto (tgt := 14) hx hb dX5_infinite_10 (by decide) ?_
    exact W.zret (v := 1) hx hb hr (rfl) (fun t ht hW => ⟨1, rfl, by first | (simp only [pu_inf, h1, ↓reduceIte, not_true_eq_false, not_false_eq_true, and_true, true_and, and_false, false_and, or_true, true_or, or_false, false_or, and_self, or_self]; done) | (simp [pu_inf, h1]; done) | (simp_all [pu_inf]; done), ht⟩) (fun q hq => by cases hq) dX5_infinite_14
set_option maxHeartbeats 4000000 in
set_option maxRecDepth 100000 in
theorem ctX5_zero (l : Launch) (x : Int32) : Met l yX5_zero wsX5_zero ({ frames := 0, cells := 0, slots := 0, locals := 0 }) (va_Pc [.int x] (fun _ => True)) (vp_Si (fun r => r = pu_zer x)) 0 0 (fun _ => False) := by
  refine Met.ofW (cc := cX5_zero) (maxL := 1) (ret := (some .boolean)) (by decide) rfl ?_
  intro p e s m args below meth c s₁ B hml hv
  obtain ⟨rfl, -⟩ := hv
  have hx := B.exec
  have hb := B.bytes
  have hr := B.returns
  have hts := atoms_spec (ws := wsX5_zero) B.pre
  have hown : s.vm.findClass RX5 = some m.cls := findClass_of_methodNamed B.named
  have hlocks := B.notSynchronized
  have hl := lv_entry ([.int x]) (n := 1) (Nat.le_of_ble_eq_true rfl)
  rw [lg_entry_eq]
  generalize (lg_sl ([.int x]) ++ List.replicate (1 - (lg_sl ([.int x])).length) Slot.unset).toArray = ls at hl ⊢
  have hl : lv_has ls 1 [(0, .int x)] := hl
  refine lv_iload_n hx hb dX5_zero_0 rfl (lv_at hl 0 rfl) ?_
  refine lv_bipush (v := 15) hx hb dX5_zero_1 (by decide) ?_
  refine lv_iand hx hb dX5_zero_3 ?_
  refine lv_if_ne (tgt := 11) hx hb dX5_zero_4 (by decide) (fun h1 => ?_) (fun h1 => ?_)
  · skip
    refine lv_iconst (v := 0) hx hb dX5_zero_11 (by decide) ?_
    exact W.zret (v := 0) hx hb hr (rfl) (fun t ht hW => ⟨0, rfl, by first | (simp only [pu_zer, h1, ↓reduceIte, not_true_eq_false, not_false_eq_true, and_true, true_and, and_false, false_and, or_true, true_or, or_false, false_or, and_self, or_self]; done) | (simp [pu_zer, h1]; done) | (simp_all [pu_zer]; done), ht⟩) (fun q hq => by cases hq) dX5_zero_12
  · skip
    refine lv_iconst (v := 1) hx hb dX5_zero_7 (by decide) ?_
    refine lv_goto (tgt := 12) hx hb dX5_zero_8 (by decide) ?_
    exact W.zret (v := 1) hx hb hr (rfl) (fun t ht hW => ⟨1, rfl, by first | (simp only [pu_zer, h1, ↓reduceIte, not_true_eq_false, not_false_eq_true, and_true, true_and, and_false, false_and, or_true, true_or, or_false, false_or, and_self, or_self]; done) | (simp [pu_zer, h1]; done) | (simp_all [pu_zer]; done), ht⟩) (fun q hq => by cases hq) dX5_zero_12
set_option maxHeartbeats 4000000 in
set_option maxRecDepth 100000 in
theorem ctX5_quarters (l : Launch) (k : Int32) : Met l yX5_quarters wsX5_quarters ({ frames := 0, cells := 0, slots := 0, locals := 0 }) (va_Pc [.int k] (fun _ => True)) (vp_Si (fun r => r = pm_q k)) 0 0 (fun _ => False) := by
  refine Met.ofW (cc := cX5_quarters) (maxL := 1) (ret := (some .int)) (by decide) rfl ?_
  intro p e s m args below meth c s₁ B hml hv
  obtain ⟨rfl, -⟩ := hv
  have hx := B.exec
  have hb := B.bytes
  have hr := B.returns
  have hts := atoms_spec (ws := wsX5_quarters) B.pre
  have hown : s.vm.findClass RX5 = some m.cls := findClass_of_methodNamed B.named
  have hlocks := B.notSynchronized
  have hl := lv_entry ([.int k]) (n := 1) (Nat.le_of_ble_eq_true rfl)
  rw [lg_entry_eq]
  generalize (lg_sl ([.int k]) ++ List.replicate (1 - (lg_sl ([.int k])).length) Slot.unset).toArray = ls at hl ⊢
  have hl : lv_has ls 1 [(0, .int k)] := hl
  refine lv_iload_n hx hb dX5_quarters_0 rfl (lv_at hl 0 rfl) ?_
  refine lv_bipush (v := 8) hx hb dX5_quarters_1 (by decide) ?_
  refine lv_icmp_ge (tgt := 10) hx hb dX5_quarters_3 (by decide) (fun h1 => ?_) (fun h1 => ?_)
  · skip
    have h1b := Int32.not_lt.mpr h1
    refine lv_iload_n hx hb dX5_quarters_10 rfl (lv_at hl 0 rfl) ?_
    refine lv_bipush (v := 12) hx hb dX5_quarters_11 (by decide) ?_
    refine lv_icmp_ge (tgt := 25) hx hb dX5_quarters_13 (by decide) (fun h2 => ?_) (fun h2 => ?_)
    · skip
      have h2b := Int32.not_lt.mpr h2
      refine lv_bipush (v := 16) hx hb dX5_quarters_25 (by decide) ?_
      exact W.iret (v := 16) hx hb hr (fun t ht hW => ⟨16, rfl, by first | (simp only [pm_q, h1, h1b, h2, h2b, ↓reduceIte, not_true_eq_false, not_false_eq_true, and_true, true_and, and_false, false_and, or_true, true_or, or_false, false_or, and_self, or_self]; done) | (simp [pm_q, h1, h1b, h2, h2b]; done) | (simp_all [pm_q]; done), ht⟩) (fun q hq => by cases hq) dX5_quarters_27
    · skip
      have h2b := Int32.not_le.mp h2
      refine lv_iconst (v := 2) hx hb dX5_quarters_16 (by decide) ?_
      refine lv_iload_n hx hb dX5_quarters_17 rfl (lv_at hl 0 rfl) ?_
      refine lv_imul hx hb dX5_quarters_18 ?_
      refine lv_bipush (v := 8) hx hb dX5_quarters_19 (by decide) ?_
      refine lv_isub hx hb dX5_quarters_21 ?_
      refine lv_goto (tgt := 27) hx hb dX5_quarters_22 (by decide) ?_
      exact W.iret (v := (2 * k) - 8) hx hb hr (fun t ht hW => ⟨(2 * k) - 8, rfl, by first | (simp only [pm_q, h1, h1b, h2, h2b, ↓reduceIte, not_true_eq_false, not_false_eq_true, and_true, true_and, and_false, false_and, or_true, true_or, or_false, false_or, and_self, or_self]; done) | (simp [pm_q, h1, h1b, h2, h2b]; done) | (simp_all [pm_q]; done), ht⟩) (fun q hq => by cases hq) dX5_quarters_27
  · skip
    have h1b := Int32.not_le.mp h1
    refine lv_iload_n hx hb dX5_quarters_6 rfl (lv_at hl 0 rfl) ?_
    refine lv_goto (tgt := 27) hx hb dX5_quarters_7 (by decide) ?_
    exact W.iret (v := k) hx hb hr (fun t ht hW => ⟨k, rfl, by first | (simp only [pm_q, h1, h1b, ↓reduceIte, not_true_eq_false, not_false_eq_true, and_true, true_and, and_false, false_and, or_true, true_or, or_false, false_or, and_self, or_self]; done) | (simp [pm_q, h1, h1b]; done) | (simp_all [pm_q]; done), ht⟩) (fun q hq => by cases hq) dX5_quarters_27
set_option maxHeartbeats 4000000 in
set_option maxRecDepth 100000 in
theorem ctX5_out (l : Launch) (k n : Int32) : Met l yX5_out wsX5_out ({ frames := 0, cells := 0, slots := 0, locals := 0 }) (va_Pc [.int k, .int n] (fun _ => True)) (vp_Si (fun r => r = pm_out k n)) 0 0 (fun _ => False) := by
  refine Met.ofW (cc := cX5_out) (maxL := 2) (ret := (some .boolean)) (by decide) rfl ?_
  intro p e s m args below meth c s₁ B hml hv
  obtain ⟨rfl, -⟩ := hv
  have hx := B.exec
  have hb := B.bytes
  have hr := B.returns
  have hts := atoms_spec (ws := wsX5_out) B.pre
  have hown : s.vm.findClass RX5 = some m.cls := findClass_of_methodNamed B.named
  have hlocks := B.notSynchronized
  have hl := lv_entry ([.int k, .int n]) (n := 2) (Nat.le_of_ble_eq_true rfl)
  rw [lg_entry_eq]
  generalize (lg_sl ([.int k, .int n]) ++ List.replicate (2 - (lg_sl ([.int k, .int n])).length) Slot.unset).toArray = ls at hl ⊢
  have hl : lv_has ls 2 [(0, .int k), (1, .int n)] := hl
  refine lv_iload_n hx hb dX5_out_0 rfl (lv_at hl 0 rfl) ?_
  refine lv_if_lt (tgt := 9) hx hb dX5_out_1 (by decide) (fun h1 => ?_) (fun h1 => ?_)
  · skip
    have h1b := Int32.not_le.mpr h1
    refine lv_iconst (v := 1) hx hb dX5_out_9 (by decide) ?_
    refine lv_goto (tgt := 14) hx hb dX5_out_10 (by decide) ?_
    exact W.zret (v := 1) hx hb hr (rfl) (fun t ht hW => ⟨1, rfl, by first | (simp only [pm_out, h1, h1b, ↓reduceIte, not_true_eq_false, not_false_eq_true, and_true, true_and, and_false, false_and, or_true, true_or, or_false, false_or, and_self, or_self]; done) | (simp [pm_out, h1, h1b]; done) | (simp_all [pm_out]; done), ht⟩) (fun q hq => by cases hq) dX5_out_14
  · skip
    have h1b := Int32.not_lt.mp h1
    refine lv_iload_n hx hb dX5_out_4 rfl (lv_at hl 0 rfl) ?_
    refine lv_iload_n hx hb dX5_out_5 rfl (lv_at hl 1 rfl) ?_
    refine lv_icmp_lt (tgt := 13) hx hb dX5_out_6 (by decide) (fun h2 => ?_) (fun h2 => ?_)
    · skip
      have h2b := Int32.not_le.mpr h2
      refine lv_iconst (v := 0) hx hb dX5_out_13 (by decide) ?_
      exact W.zret (v := 0) hx hb hr (rfl) (fun t ht hW => ⟨0, rfl, by first | (simp only [pm_out, h1, h1b, h2, h2b, ↓reduceIte, not_true_eq_false, not_false_eq_true, and_true, true_and, and_false, false_and, or_true, true_or, or_false, false_or, and_self, or_self]; done) | (simp [pm_out, h1, h1b, h2, h2b]; done) | (simp_all [pm_out]; done), ht⟩) (fun q hq => by cases hq) dX5_out_14
    · skip
      have h2b := Int32.not_lt.mp h2
      refine lv_iconst (v := 1) hx hb dX5_out_9 (by decide) ?_
      refine lv_goto (tgt := 14) hx hb dX5_out_10 (by decide) ?_
      exact W.zret (v := 1) hx hb hr (rfl) (fun t ht hW => ⟨1, rfl, by first | (simp only [pm_out, h1, h1b, h2, h2b, ↓reduceIte, not_true_eq_false, not_false_eq_true, and_true, true_and, and_false, false_and, or_true, true_or, or_false, false_or, and_self, or_self]; done) | (simp [pm_out, h1, h1b, h2, h2b]; done) | (simp_all [pm_out]; done), ht⟩) (fun q hq => by cases hq) dX5_out_14
set_option maxHeartbeats 4000000 in
set_option maxRecDepth 100000 in
theorem ctX5_truth (l : Launch) (b : Int32) : Met l yX5_truth wsX5_truth ({ frames := 0, cells := 0, slots := 0, locals := 0 }) (va_Pc [.int b] (fun _ => True)) (vp_Si (fun r => r = pm_tru b)) 0 0 (fun _ => False) := by
  refine Met.ofW (cc := cX5_truth) (maxL := 1) (ret := (some .int)) (by decide) rfl ?_
  intro p e s m args below meth c s₁ B hml hv
  obtain ⟨rfl, -⟩ := hv
  have hx := B.exec
  have hb := B.bytes
  have hr := B.returns
  have hts := atoms_spec (ws := wsX5_truth) B.pre
  have hown : s.vm.findClass RX5 = some m.cls := findClass_of_methodNamed B.named
  have hlocks := B.notSynchronized
  have hl := lv_entry ([.int b]) (n := 1) (Nat.le_of_ble_eq_true rfl)
  rw [lg_entry_eq]
  generalize (lg_sl ([.int b]) ++ List.replicate (1 - (lg_sl ([.int b])).length) Slot.unset).toArray = ls at hl ⊢
  have hl : lv_has ls 1 [(0, .int b)] := hl
  refine lv_iload_n hx hb dX5_truth_0 rfl (lv_at hl 0 rfl) ?_
  refine lv_if_eq (tgt := 8) hx hb dX5_truth_1 (by decide) (fun h1 => ?_) (fun h1 => ?_)
  · skip
    refine lv_iconst (v := 0) hx hb dX5_truth_8 (by decide) ?_
    exact W.iret (v := 0) hx hb hr (fun t ht hW => ⟨0, rfl, by first | (simp only [pm_tru, h1, ↓reduceIte, not_true_eq_false, not_false_eq_true, and_true, true_and, and_false, false_and, or_true, true_or, or_false, false_or, and_self, or_self]; done) | (simp [pm_tru, h1]; done) | (simp_all [pm_tru]; done), ht⟩) (fun q hq => by cases hq) dX5_truth_9
  · skip
    refine lv_iconst (v := 1) hx hb dX5_truth_4 (by decide) ?_
    refine lv_goto (tgt := 9) hx hb dX5_truth_5 (by decide) ?_
    exact W.iret (v := 1) hx hb hr (fun t ht hW => ⟨1, rfl, by first | (simp only [pm_tru, h1, ↓reduceIte, not_true_eq_false, not_false_eq_true, and_true, true_and, and_false, false_and, or_true, true_or, or_false, false_or, and_self, or_self]; done) | (simp [pm_tru, h1]; done) | (simp_all [pm_tru]; done), ht⟩) (fun q hq => by cases hq) dX5_truth_9
set_option maxHeartbeats 4000000 in
set_option maxRecDepth 100000 in
theorem ctX5_names (l : Launch) (k : Int32) : Met l yX5_names wsX5_names ({ frames := 0, cells := 0, slots := 0, locals := 0 }) (va_Pc [.int k] (fun _ => True)) (vp_Si (fun r => r = pm_nms k)) 0 0 (fun _ => False) := by
  refine Met.ofW (cc := cX5_names) (maxL := 1) (ret := (some .int)) (by decide) rfl ?_
  intro p e s m args below meth c s₁ B hml hv
  obtain ⟨rfl, -⟩ := hv
  have hx := B.exec
  have hb := B.bytes
  have hr := B.returns
  have hts := atoms_spec (ws := wsX5_names) B.pre
  have hown : s.vm.findClass RX5 = some m.cls := findClass_of_methodNamed B.named
  have hlocks := B.notSynchronized
  have hl := lv_entry ([.int k]) (n := 1) (Nat.le_of_ble_eq_true rfl)
  rw [lg_entry_eq]
  generalize (lg_sl ([.int k]) ++ List.replicate (1 - (lg_sl ([.int k])).length) Slot.unset).toArray = ls at hl ⊢
  have hl : lv_has ls 1 [(0, .int k)] := hl
  refine lv_iload_n hx hb dX5_names_0 rfl (lv_at hl 0 rfl) ?_
  refine lv_bipush (v := 9) hx hb dX5_names_1 (by decide) ?_
  refine lv_icmp_ne (tgt := 10) hx hb dX5_names_3 (by decide) (fun h1 => ?_) (fun h1 => ?_)
  · skip
    refine lv_iload_n hx hb dX5_names_10 rfl (lv_at hl 0 rfl) ?_
    refine lv_iconst (v := 4) hx hb dX5_names_11 (by decide) ?_
    refine lv_icmp_lt (tgt := 27) hx hb dX5_names_12 (by decide) (fun h2 => ?_) (fun h2 => ?_)
    · skip
      have h2b := Int32.not_le.mpr h2
      refine lv_iconst (v := 1) hx hb dX5_names_27 (by decide) ?_
      refine lv_goto (tgt := 32) hx hb dX5_names_28 (by decide) ?_
      exact W.iret (v := 1) hx hb hr (fun t ht hW => ⟨1, rfl, by first | (simp only [pm_nms, h1, h2, h2b, ↓reduceIte, not_true_eq_false, not_false_eq_true, and_true, true_and, and_false, false_and, or_true, true_or, or_false, false_or, and_self, or_self]; done) | (simp [pm_nms, h1, h2, h2b]; done) | (simp_all [pm_nms]; done), ht⟩) (fun q hq => by cases hq) dX5_names_32
    · skip
      have h2b := Int32.not_lt.mp h2
      refine lv_iload_n hx hb dX5_names_15 rfl (lv_at hl 0 rfl) ?_
      refine lv_bipush (v := 14) hx hb dX5_names_16 (by decide) ?_
      refine lv_icmp_lt (tgt := 31) hx hb dX5_names_18 (by decide) (fun h3 => ?_) (fun h3 => ?_)
      · skip
        have h3b := Int32.not_le.mpr h3
        refine lv_iconst (v := 2) hx hb dX5_names_31 (by decide) ?_
        exact W.iret (v := 2) hx hb hr (fun t ht hW => ⟨2, rfl, by first | (simp only [pm_nms, h1, h2, h2b, h3, h3b, ↓reduceIte, not_true_eq_false, not_false_eq_true, and_true, true_and, and_false, false_and, or_true, true_or, or_false, false_or, and_self, or_self]; done) | (simp [pm_nms, h1, h2, h2b, h3, h3b]; done) | (simp_all [pm_nms]; done), ht⟩) (fun q hq => by cases hq) dX5_names_32
      · skip
        have h3b := Int32.not_lt.mp h3
        refine lv_iload_n hx hb dX5_names_21 rfl (lv_at hl 0 rfl) ?_
        refine lv_bipush (v := 17) hx hb dX5_names_22 (by decide) ?_
        refine lv_icmp_gt (tgt := 31) hx hb dX5_names_24 (by decide) (fun h4 => ?_) (fun h4 => ?_)
        · skip
          have h4b := Int32.not_le.mpr h4
          refine lv_iconst (v := 2) hx hb dX5_names_31 (by decide) ?_
          exact W.iret (v := 2) hx hb hr (fun t ht hW => ⟨2, rfl, by first | (simp only [pm_nms, h1, h2, h2b, h3, h3b, h4, h4b, ↓reduceIte, not_true_eq_false, not_false_eq_true, and_true, true_and, and_false, false_and, or_true, true_or, or_false, false_or, and_self, or_self]; done) | (simp [pm_nms, h1, h2, h2b, h3, h3b, h4, h4b]; done) | (simp_all [pm_nms]; done), ht⟩) (fun q hq => by cases hq) dX5_names_32
        · skip
          have h4b := Int32.not_lt.mp h4
          refine lv_iconst (v := 1) hx hb dX5_names_27 (by decide) ?_
          refine lv_goto (tgt := 32) hx hb dX5_names_28 (by decide) ?_
          exact W.iret (v := 1) hx hb hr (fun t ht hW => ⟨1, rfl, by first | (simp only [pm_nms, h1, h2, h2b, h3, h3b, h4, h4b, ↓reduceIte, not_true_eq_false, not_false_eq_true, and_true, true_and, and_false, false_and, or_true, true_or, or_false, false_or, and_self, or_self]; done) | (simp [pm_nms, h1, h2, h2b, h3, h3b, h4, h4b]; done) | (simp_all [pm_nms]; done), ht⟩) (fun q hq => by cases hq) dX5_names_32
  · skip
    refine lv_iconst (v := 3) hx hb dX5_names_6 (by decide) ?_
    refine lv_goto (tgt := 32) hx hb dX5_names_7 (by decide) ?_
    exact W.iret (v := 3) hx hb hr (fun t ht hW => ⟨3, rfl, by first | (simp only [pm_nms, h1, ↓reduceIte, not_true_eq_false, not_false_eq_true, and_true, true_and, and_false, false_and, or_true, true_or, or_false, false_or, and_self, or_self]; done) | (simp [pm_nms, h1]; done) | (simp_all [pm_nms]; done), ht⟩) (fun q hq => by cases hq) dX5_names_32
set_option maxHeartbeats 4000000 in
set_option maxRecDepth 100000 in
theorem ctX5_worthOf (l : Launch) (x : Int32) : Met l yX5_worthOf wsX5_worthOf ({ frames := 1, cells := 0, slots := 0, locals := 20 }) (va_Pc [.int x] (fun _ => True)) (vp_Si (fun r => r = pm_wor x)) 0 0 (fun _ => False) := by
  refine Met.ofW (cc := cX5_worthOf) (maxL := 2) (ret := (some .int)) (by decide) rfl ?_
  intro p e s m args below meth c s₁ B hml hv
  obtain ⟨rfl, -⟩ := hv
  have hx := B.exec
  have hb := B.bytes
  have hr := B.returns
  have hts := atoms_spec (ws := wsX5_worthOf) B.pre
  have hown : s.vm.findClass RX5 = some m.cls := findClass_of_methodNamed B.named
  have hlocks := B.notSynchronized
  have hl := lv_entry ([.int x]) (n := 2) (Nat.le_of_ble_eq_true rfl)
  rw [lg_entry_eq]
  generalize (lg_sl ([.int x]) ++ List.replicate (2 - (lg_sl ([.int x])).length) Slot.unset).toArray = ls at hl ⊢
  have hl : lv_has ls 2 [(0, .int x)] := hl
  refine lv_iload_n hx hb dX5_worthOf_0 rfl (lv_at hl 0 rfl) ?_
  refine vp_callSi (W.runS (As := [.int x]) (rest := []) ⟨hx, hb, hml, hown, hts⟩ (ctX5_infinite l x) (va_cwS 1 hts (wA_wsS wm_ml_X5_38 wm_st_X5_infinite wm_in_X5 wm_cd_X5_infinite) rfl rfl rfl (by decide +kernel) ⟨Nat.le_of_ble_eq_true rfl, Nat.le_of_ble_eq_true rfl⟩) ⟨fun a U g mk q => q, fun U hU hW => ⟨rfl, trivial⟩⟩ rfl rfl hl.1 rfl (lv_room (Nat.le_of_ble_eq_true rfl)) dX5_worthOf_1 ⟨Nat.zero_le _, Nat.zero_le _⟩) (fun r1 er1 => ?_)
  subst er1
  refine lv_if_eq (tgt := 12) hx hb dX5_worthOf_4 (by decide) (fun h2 => ?_) (fun h2 => ?_)
  · skip
    refine lv_iload_n hx hb dX5_worthOf_12 rfl (lv_at hl 0 rfl) ?_
    refine lv_bipush (v := 15) hx hb dX5_worthOf_13 (by decide) ?_
    refine lv_iand hx hb dX5_worthOf_15 ?_
    refine vp_callSi (W.runS (As := [.int (x &&& 15)]) (rest := []) ⟨hx, hb, hml, hown, hts⟩ (ctX5_quarters l (x &&& 15)) (va_cwS 1 hts (wA_wsS wm_ml_X5_42 wm_st_X5_quarters wm_in_X5 wm_cd_X5_quarters) rfl rfl rfl (by decide +kernel) ⟨Nat.le_of_ble_eq_true rfl, Nat.le_of_ble_eq_true rfl⟩) ⟨fun a U g mk q => q, fun U hU hW => ⟨rfl, trivial⟩⟩ rfl rfl hl.1 rfl (lv_room (Nat.le_of_ble_eq_true rfl)) dX5_worthOf_16 ⟨Nat.zero_le _, Nat.zero_le _⟩) (fun r3 er3 => ?_)
    subst er3
    refine lv_istore_n (lv' := [(1, .int (pm_q (x &&& 15))), (0, .int x)]) hx hb dX5_worthOf_19 rfl hl (by decide) rfl (fun ls hl => ?_)
    refine lv_iload_n hx hb dX5_worthOf_20 rfl (lv_at hl 1 rfl) ?_
    refine lv_bipush (v := 16) hx hb dX5_worthOf_21 (by decide) ?_
    refine lv_icmp_lt (tgt := 31) hx hb dX5_worthOf_23 (by decide) (fun h4 => ?_) (fun h4 => ?_)
    · skip
      have h4b := Int32.not_le.mpr h4
      refine lv_iload_n hx hb dX5_worthOf_31 rfl (lv_at hl 0 rfl) ?_
      exact W.iret (v := pm_q (x &&& 15)) hx hb hr (fun t ht hW => ⟨pm_q (x &&& 15), rfl, by first | (simp only [pm_wor, h2, h4, h4b, ↓reduceIte, not_true_eq_false, not_false_eq_true, and_true, true_and, and_false, false_and, or_true, true_or, or_false, false_or, and_self, or_self]; done) | (simp [pm_wor, h2, h4, h4b]; done) | (simp_all [pm_wor]; done), ht⟩) (fun q hq => by cases hq) dX5_worthOf_32
    · skip
      have h4b := Int32.not_lt.mp h4
      refine lv_iload_n hx hb dX5_worthOf_26 rfl (lv_at hl 0 rfl) ?_
      refine lv_ineg hx hb dX5_worthOf_27 ?_
      refine lv_goto (tgt := 32) hx hb dX5_worthOf_28 (by decide) ?_
      exact W.iret (v := -(pm_q (x &&& 15))) hx hb hr (fun t ht hW => ⟨-(pm_q (x &&& 15)), rfl, by first | (simp only [pm_wor, h2, h4, h4b, ↓reduceIte, not_true_eq_false, not_false_eq_true, and_true, true_and, and_false, false_and, or_true, true_or, or_false, false_or, and_self, or_self]; done) | (simp [pm_wor, h2, h4, h4b]; done) | (simp_all [pm_wor]; done), ht⟩) (fun q hq => by cases hq) dX5_worthOf_32
  · skip
    refine lv_bipush (v := 100) hx hb dX5_worthOf_7 (by decide) ?_
    refine lv_goto (tgt := 19) hx hb dX5_worthOf_9 (by decide) ?_
    refine lv_istore_n (lv' := [(1, .int 100), (0, .int x)]) hx hb dX5_worthOf_19 rfl hl (by decide) rfl (fun ls hl => ?_)
    refine lv_iload_n hx hb dX5_worthOf_20 rfl (lv_at hl 1 rfl) ?_
    refine lv_bipush (v := 16) hx hb dX5_worthOf_21 (by decide) ?_
    refine lv_icmp_lt (tgt := 31) hx hb dX5_worthOf_23 (by decide) (fun h5 => ?_) (fun h5 => ?_)
    · skip
      have h5b := Int32.not_le.mpr h5
      refine lv_iload_n hx hb dX5_worthOf_31 rfl (lv_at hl 0 rfl) ?_
      exact W.iret (v := 100) hx hb hr (fun t ht hW => ⟨100, rfl, by first | (simp only [pm_wor, h2, h5, h5b, ↓reduceIte, not_true_eq_false, not_false_eq_true, and_true, true_and, and_false, false_and, or_true, true_or, or_false, false_or, and_self, or_self]; done) | (simp [pm_wor, h2, h5, h5b]; done) | (simp_all [pm_wor]; done), ht⟩) (fun q hq => by cases hq) dX5_worthOf_32
    · skip
      have h5b := Int32.not_lt.mp h5
      refine lv_iload_n hx hb dX5_worthOf_26 rfl (lv_at hl 0 rfl) ?_
      refine lv_ineg hx hb dX5_worthOf_27 ?_
      refine lv_goto (tgt := 32) hx hb dX5_worthOf_28 (by decide) ?_
      exact W.iret (v := -100) hx hb hr (fun t ht hW => ⟨-100, rfl, by first | (simp only [pm_wor, h2, h5, h5b, ↓reduceIte, not_true_eq_false, not_false_eq_true, and_true, true_and, and_false, false_and, or_true, true_or, or_false, false_or, and_self, or_self]; done) | (simp [pm_wor, h2, h5, h5b]; done) | (simp_all [pm_wor]; done), ht⟩) (fun q hq => by cases hq) dX5_worthOf_32
set_option maxHeartbeats 4000000 in
set_option maxRecDepth 100000 in
theorem ctX5_round (l : Launch) (s0 : Int32) : Met l yX5_round wsX5_round ({ frames := 1, cells := 0, slots := 0, locals := 20 }) (va_Pc [.int s0] (fun _ => True)) (vp_Si (fun r => r = pm_rnd s0)) 0 0 (fun _ => False) := by
  refine Met.ofW (cc := cX5_round) (maxL := 7) (ret := (some .int)) (by decide) rfl ?_
  intro p e s m args below meth c s₁ B hml hv
  obtain ⟨rfl, -⟩ := hv
  have hx := B.exec
  have hb := B.bytes
  have hr := B.returns
  have hts := atoms_spec (ws := wsX5_round) B.pre
  have hown : s.vm.findClass RX5 = some m.cls := findClass_of_methodNamed B.named
  have hlocks := B.notSynchronized
  have hl := lv_entry ([.int s0]) (n := 7) (Nat.le_of_ble_eq_true rfl)
  rw [lg_entry_eq]
  generalize (lg_sl ([.int s0]) ++ List.replicate (7 - (lg_sl ([.int s0])).length) Slot.unset).toArray = ls at hl ⊢
  have hl : lv_has ls 7 [(0, .int s0)] := hl
  refine lv_iconst (v := 0) hx hb dX5_round_0 (by decide) ?_
  refine lv_istore_n (lv' := [(1, .int 0), (0, .int s0)]) hx hb dX5_round_1 rfl hl (by decide) rfl (fun ls hl => ?_)
  refine lv_iconst (v := 1) hx hb dX5_round_2 (by decide) ?_
  refine lv_istore_n (lv' := [(2, .int 1), (1, .int 0), (0, .int s0)]) hx hb dX5_round_3 rfl hl (by decide) rfl (fun ls hl => ?_)
  refine xw_loop (pc := 4) (fun j : Nat => 12 - j) (fun j ls H9 locs9 => j ≤ 12 ∧ H9 = s.heap ∧ locs9 = [] ∧ lv_has ls 7 [(2, .int (nI (j + 1))), (1, .int (pm_rlp s0 j)), (0, .int s0)]) ?_ 0 ls _ _ ⟨by omega, rfl, rfl, hl⟩
  intro j ls H9 locs9 ⟨hj, hH9, hL9, hl⟩ ih
  subst hH9
  subst hL9
  refine lv_iload_n hx hb dX5_round_4 rfl (lv_at hl 0 rfl) ?_
  refine lv_bipush (v := 12) hx hb dX5_round_5 (by decide) ?_
  refine lv_icmp_gt (tgt := 84) hx hb dX5_round_7 (by decide) (fun h1 => ?_) (fun h1 => ?_)
  · skip
    have h1b := Int32.not_le.mpr h1
    refine lv_iload_n hx hb dX5_round_84 rfl (lv_at hl 1 rfl) ?_
    have ej : j = 12 := by
      have q : ¬ j + 1 ≤ 12 := fun z => absurd h1 (nI_nlt (a := 12) (b := j + 1) z (by omega))
      omega
    exact W.iret (v := pm_rlp s0 j) hx hb hr (fun t ht hW => ⟨pm_rlp s0 j, rfl, by rw [ej]; rfl, ht⟩) (fun q hq => by cases hq) dX5_round_85
  · skip
    have h1b := Int32.not_lt.mp h1
    refine lv_iload_n hx hb dX5_round_10 rfl (lv_at hl 2 rfl) ?_
    refine lv_iconst (v := 4) hx hb dX5_round_11 (by decide) ?_
    refine lv_iload_n hx hb dX5_round_12 rfl (lv_at hl 0 rfl) ?_
    refine vp_callSi (W.runS (As := [.int (nI (j + 1))]) (rest := [.int 4, .int s0]) ⟨hx, hb, hml, hown, hts⟩ (ctX5_quarters l (nI (j + 1))) (va_cwS 1 hts (wA_wsS wm_ml_X5_42 wm_st_X5_quarters wm_in_X5 wm_cd_X5_quarters) rfl rfl rfl (by decide +kernel) ⟨Nat.le_of_ble_eq_true rfl, Nat.le_of_ble_eq_true rfl⟩) ⟨fun a U g mk q => q, fun U hU hW => ⟨rfl, trivial⟩⟩ rfl rfl hl.1 rfl (lv_room (Nat.le_of_ble_eq_true rfl)) dX5_round_13 ⟨Nat.zero_le _, Nat.zero_le _⟩) (fun r2 er2 => ?_)
    subst er2
    refine lv_imul hx hb dX5_round_16 ?_
    refine lv_isub hx hb dX5_round_17 ?_
    refine lv_istore_n (lv' := [(3, .int (s0 - (4 * (pm_q (nI (j + 1)))))), (2, .int (nI (j + 1))), (1, .int (pm_rlp s0 j)), (0, .int s0)]) hx hb dX5_round_18 rfl hl (by decide) rfl (fun ls hl => ?_)
    refine lv_iload_n hx hb dX5_round_19 rfl (lv_at hl 3 rfl) ?_
    refine lv_iconst (v := 4) hx hb dX5_round_20 (by decide) ?_
    refine lv_iload_n hx hb dX5_round_21 rfl (lv_at hl 2 rfl) ?_
    refine vp_callSi (W.runS (As := [.int (pm_rlp s0 j)]) (rest := [.int 4, .int s0]) ⟨hx, hb, hml, hown, hts⟩ (ctX5_quarters l (pm_rlp s0 j)) (va_cwS 1 hts (wA_wsS wm_ml_X5_42 wm_st_X5_quarters wm_in_X5 wm_cd_X5_quarters) rfl rfl rfl (by decide +kernel) ⟨Nat.le_of_ble_eq_true rfl, Nat.le_of_ble_eq_true rfl⟩) ⟨fun a U g mk q => q, fun U hU hW => ⟨rfl, trivial⟩⟩ rfl rfl hl.1 rfl (lv_room (Nat.le_of_ble_eq_true rfl)) dX5_round_22 ⟨Nat.zero_le _, Nat.zero_le _⟩) (fun r3 er3 => ?_)
    subst er3
    refine lv_imul hx hb dX5_round_25 ?_
    refine lv_isub hx hb dX5_round_26 ?_
    refine lv_istore (lv' := [(4, .int (s0 - (4 * (pm_q (pm_rlp s0 j))))), (3, .int (s0 - (4 * (pm_q (nI (j + 1)))))), (2, .int (nI (j + 1))), (1, .int (pm_rlp s0 j)), (0, .int s0)]) hx hb dX5_round_27 hl (by decide) rfl (fun ls hl => ?_)
    refine lv_iload_n hx hb dX5_round_29 rfl (lv_at hl 1 rfl) ?_
    refine lv_if_ge (tgt := 38) hx hb dX5_round_30 (by decide) (fun h4 => ?_) (fun h4 => ?_)
    · skip
      have h4b := Int32.not_lt.mpr h4
      refine lv_iload_n hx hb dX5_round_38 rfl (lv_at hl 1 rfl) ?_
      refine lv_istore (lv' := [(5, .int (s0 - (4 * (pm_q (nI (j + 1)))))), (4, .int (s0 - (4 * (pm_q (pm_rlp s0 j))))), (3, .int (s0 - (4 * (pm_q (nI (j + 1)))))), (2, .int (nI (j + 1))), (1, .int (pm_rlp s0 j)), (0, .int s0)]) hx hb dX5_round_39 hl (by decide) rfl (fun ls hl => ?_)
      refine lv_iload hx hb dX5_round_41 (lv_at hl 1 rfl) ?_
      refine lv_if_ge (tgt := 52) hx hb dX5_round_43 (by decide) (fun h5 => ?_) (fun h5 => ?_)
      · skip
        have h5b := Int32.not_lt.mpr h5
        refine lv_iload hx hb dX5_round_52 (lv_at hl 1 rfl) ?_
        refine lv_istore (lv' := [(6, .int (s0 - (4 * (pm_q (pm_rlp s0 j))))), (5, .int (s0 - (4 * (pm_q (nI (j + 1)))))), (4, .int (s0 - (4 * (pm_q (pm_rlp s0 j))))), (3, .int (s0 - (4 * (pm_q (nI (j + 1)))))), (2, .int (nI (j + 1))), (1, .int (pm_rlp s0 j)), (0, .int s0)]) hx hb dX5_round_54 hl (by decide) rfl (fun ls hl => ?_)
        refine lv_iload hx hb dX5_round_56 (lv_at hl 1 rfl) ?_
        refine lv_iload hx hb dX5_round_58 (lv_at hl 0 rfl) ?_
        refine lv_icmp_lt (tgt := 76) hx hb dX5_round_60 (by decide) (fun h6 => ?_) (fun h6 => ?_)
        · skip
          have h6b := Int32.not_le.mpr h6
          refine lv_iload_n hx hb dX5_round_76 rfl (lv_at hl 4 rfl) ?_
          refine lv_istore_n (lv' := [(1, .int (nI (j + 1))), (6, .int (s0 - (4 * (pm_q (pm_rlp s0 j))))), (5, .int (s0 - (4 * (pm_q (nI (j + 1)))))), (4, .int (s0 - (4 * (pm_q (pm_rlp s0 j))))), (3, .int (s0 - (4 * (pm_q (nI (j + 1)))))), (2, .int (nI (j + 1))), (0, .int s0)]) hx hb dX5_round_77 rfl hl (by decide) rfl (fun ls hl => ?_)
          refine lv_iinc (k := 5) (v := nI (j + 1 + 1)) (lv' := [(2, .int (nI (j + 1 + 1))), (1, .int (nI (j + 1))), (6, .int (s0 - (4 * (pm_q (pm_rlp s0 j))))), (5, .int (s0 - (4 * (pm_q (nI (j + 1)))))), (4, .int (s0 - (4 * (pm_q (pm_rlp s0 j))))), (3, .int (s0 - (4 * (pm_q (nI (j + 1)))))), (0, .int s0)]) hx hb dX5_round_78 hl rfl ((nI_1 (j + 1))) (by decide) rfl (fun ls hl => ?_)
          refine lv_goto (tgt := 4) hx hb dX5_round_81 (by decide) ?_
          have hl := lv_sub hl [0, 1, 6] rfl
          have hjj : j + 1 ≤ 12 := by
            refine Nat.le_of_not_lt fun z => h1 (nI_lt (a := 12) (b := j + 1) z (by omega))
          have eb : nI (j + 1) = pm_rlp s0 (j + 1) := (pm_rst_y (A := s0 - (4 * (pm_q (nI (j + 1))))) (B := s0 - (4 * (pm_q (pm_rlp s0 j)))) (by unfold pm_ab; first | rw [if_pos h4b] | rw [if_neg h4b]) (by unfold pm_ab; first | rw [if_pos h5b] | rw [if_neg h5b]) (Or.inl h6)).symm
          rw [eb] at hl
          exact ih (j + 1) _ _ _ ⟨hjj, rfl, rfl, hl⟩ (by show 12 - (j + 1) < 12 - j; omega)
        · skip
          have h6b := Int32.not_lt.mp h6
          refine lv_iload hx hb dX5_round_63 (lv_at hl 1 rfl) ?_
          refine lv_iload hx hb dX5_round_65 (lv_at hl 0 rfl) ?_
          refine lv_icmp_ne (tgt := 78) hx hb dX5_round_67 (by decide) (fun h7 => ?_) (fun h7 => ?_)
          · skip
            refine lv_iinc (k := 4) (v := nI (j + 1 + 1)) (lv' := [(2, .int (nI (j + 1 + 1))), (6, .int (s0 - (4 * (pm_q (pm_rlp s0 j))))), (5, .int (s0 - (4 * (pm_q (nI (j + 1)))))), (4, .int (s0 - (4 * (pm_q (pm_rlp s0 j))))), (3, .int (s0 - (4 * (pm_q (nI (j + 1)))))), (1, .int (pm_rlp s0 j)), (0, .int s0)]) hx hb dX5_round_78 hl rfl ((nI_1 (j + 1))) (by decide) rfl (fun ls hl => ?_)
            refine lv_goto (tgt := 4) hx hb dX5_round_81 (by decide) ?_
            have hl := lv_sub hl [0, 5, 6] rfl
            have hjj : j + 1 ≤ 12 := by
              refine Nat.le_of_not_lt fun z => h1 (nI_lt (a := 12) (b := j + 1) z (by omega))
            have eb : pm_rlp s0 j = pm_rlp s0 (j + 1) := (pm_rst_n (A := s0 - (4 * (pm_q (nI (j + 1))))) (B := s0 - (4 * (pm_q (pm_rlp s0 j)))) (by unfold pm_ab; first | rw [if_pos h4b] | rw [if_neg h4b]) (by unfold pm_ab; first | rw [if_pos h5b] | rw [if_neg h5b]) (fun z => z.elim h6 (fun q => h7 q.1))).symm
            rw [eb] at hl
            exact ih (j + 1) _ _ _ ⟨hjj, rfl, rfl, hl⟩ (by show 12 - (j + 1) < 12 - j; omega)
          · skip
            refine lv_iload_n hx hb dX5_round_70 rfl (lv_at hl 4 rfl) ?_
            refine lv_iconst (v := 2) hx hb dX5_round_71 (by decide) ?_
            refine lv_irem hx hb dX5_round_72 (by decide) ?_
            refine lv_if_ne (tgt := 78) hx hb dX5_round_73 (by decide) (fun h8 => ?_) (fun h8 => ?_)
            · skip
              refine lv_iinc (k := 4) (v := nI (j + 1 + 1)) (lv' := [(2, .int (nI (j + 1 + 1))), (6, .int (s0 - (4 * (pm_q (pm_rlp s0 j))))), (5, .int (s0 - (4 * (pm_q (nI (j + 1)))))), (4, .int (s0 - (4 * (pm_q (pm_rlp s0 j))))), (3, .int (s0 - (4 * (pm_q (nI (j + 1)))))), (1, .int (pm_rlp s0 j)), (0, .int s0)]) hx hb dX5_round_78 hl rfl ((nI_1 (j + 1))) (by decide) rfl (fun ls hl => ?_)
              refine lv_goto (tgt := 4) hx hb dX5_round_81 (by decide) ?_
              have hl := lv_sub hl [0, 5, 6] rfl
              have hjj : j + 1 ≤ 12 := by
                refine Nat.le_of_not_lt fun z => h1 (nI_lt (a := 12) (b := j + 1) z (by omega))
              have eb : pm_rlp s0 j = pm_rlp s0 (j + 1) := (pm_rst_n (A := s0 - (4 * (pm_q (nI (j + 1))))) (B := s0 - (4 * (pm_q (pm_rlp s0 j)))) (by unfold pm_ab; first | rw [if_pos h4b] | rw [if_neg h4b]) (by unfold pm_ab; first | rw [if_pos h5b] | rw [if_neg h5b]) (fun z => z.elim h6 (fun q => h8 q.2))).symm
              rw [eb] at hl
              exact ih (j + 1) _ _ _ ⟨hjj, rfl, rfl, hl⟩ (by show 12 - (j + 1) < 12 - j; omega)
            · skip
              refine lv_iload_n hx hb dX5_round_76 rfl (lv_at hl 4 rfl) ?_
              refine lv_istore_n (lv' := [(1, .int (nI (j + 1))), (6, .int (s0 - (4 * (pm_q (pm_rlp s0 j))))), (5, .int (s0 - (4 * (pm_q (nI (j + 1)))))), (4, .int (s0 - (4 * (pm_q (pm_rlp s0 j))))), (3, .int (s0 - (4 * (pm_q (nI (j + 1)))))), (2, .int (nI (j + 1))), (0, .int s0)]) hx hb dX5_round_77 rfl hl (by decide) rfl (fun ls hl => ?_)
              refine lv_iinc (k := 5) (v := nI (j + 1 + 1)) (lv' := [(2, .int (nI (j + 1 + 1))), (1, .int (nI (j + 1))), (6, .int (s0 - (4 * (pm_q (pm_rlp s0 j))))), (5, .int (s0 - (4 * (pm_q (nI (j + 1)))))), (4, .int (s0 - (4 * (pm_q (pm_rlp s0 j))))), (3, .int (s0 - (4 * (pm_q (nI (j + 1)))))), (0, .int s0)]) hx hb dX5_round_78 hl rfl ((nI_1 (j + 1))) (by decide) rfl (fun ls hl => ?_)
              refine lv_goto (tgt := 4) hx hb dX5_round_81 (by decide) ?_
              have hl := lv_sub hl [0, 1, 6] rfl
              have hjj : j + 1 ≤ 12 := by
                refine Nat.le_of_not_lt fun z => h1 (nI_lt (a := 12) (b := j + 1) z (by omega))
              have eb : nI (j + 1) = pm_rlp s0 (j + 1) := (pm_rst_y (A := s0 - (4 * (pm_q (nI (j + 1))))) (B := s0 - (4 * (pm_q (pm_rlp s0 j)))) (by unfold pm_ab; first | rw [if_pos h4b] | rw [if_neg h4b]) (by unfold pm_ab; first | rw [if_pos h5b] | rw [if_neg h5b]) (Or.inr ⟨h7, h8⟩)).symm
              rw [eb] at hl
              exact ih (j + 1) _ _ _ ⟨hjj, rfl, rfl, hl⟩ (by show 12 - (j + 1) < 12 - j; omega)
      · skip
        have h5b := Int32.not_le.mp h5
        refine lv_iload hx hb dX5_round_46 (lv_at hl 1 rfl) ?_
        refine lv_ineg hx hb dX5_round_48 ?_
        refine lv_goto (tgt := 54) hx hb dX5_round_49 (by decide) ?_
        refine lv_istore (lv' := [(6, .int (-(s0 - (4 * (pm_q (pm_rlp s0 j)))))), (5, .int (s0 - (4 * (pm_q (nI (j + 1)))))), (4, .int (s0 - (4 * (pm_q (pm_rlp s0 j))))), (3, .int (s0 - (4 * (pm_q (nI (j + 1)))))), (2, .int (nI (j + 1))), (1, .int (pm_rlp s0 j)), (0, .int s0)]) hx hb dX5_round_54 hl (by decide) rfl (fun ls hl => ?_)
        refine lv_iload hx hb dX5_round_56 (lv_at hl 1 rfl) ?_
        refine lv_iload hx hb dX5_round_58 (lv_at hl 0 rfl) ?_
        refine lv_icmp_lt (tgt := 76) hx hb dX5_round_60 (by decide) (fun h9 => ?_) (fun h9 => ?_)
        · skip
          have h9b := Int32.not_le.mpr h9
          refine lv_iload_n hx hb dX5_round_76 rfl (lv_at hl 4 rfl) ?_
          refine lv_istore_n (lv' := [(1, .int (nI (j + 1))), (6, .int (-(s0 - (4 * (pm_q (pm_rlp s0 j)))))), (5, .int (s0 - (4 * (pm_q (nI (j + 1)))))), (4, .int (s0 - (4 * (pm_q (pm_rlp s0 j))))), (3, .int (s0 - (4 * (pm_q (nI (j + 1)))))), (2, .int (nI (j + 1))), (0, .int s0)]) hx hb dX5_round_77 rfl hl (by decide) rfl (fun ls hl => ?_)
          refine lv_iinc (k := 5) (v := nI (j + 1 + 1)) (lv' := [(2, .int (nI (j + 1 + 1))), (1, .int (nI (j + 1))), (6, .int (-(s0 - (4 * (pm_q (pm_rlp s0 j)))))), (5, .int (s0 - (4 * (pm_q (nI (j + 1)))))), (4, .int (s0 - (4 * (pm_q (pm_rlp s0 j))))), (3, .int (s0 - (4 * (pm_q (nI (j + 1)))))), (0, .int s0)]) hx hb dX5_round_78 hl rfl ((nI_1 (j + 1))) (by decide) rfl (fun ls hl => ?_)
          refine lv_goto (tgt := 4) hx hb dX5_round_81 (by decide) ?_
          have hl := lv_sub hl [0, 1, 6] rfl
          have hjj : j + 1 ≤ 12 := by
            refine Nat.le_of_not_lt fun z => h1 (nI_lt (a := 12) (b := j + 1) z (by omega))
          have eb : nI (j + 1) = pm_rlp s0 (j + 1) := (pm_rst_y (A := s0 - (4 * (pm_q (nI (j + 1))))) (B := -(s0 - (4 * (pm_q (pm_rlp s0 j))))) (by unfold pm_ab; first | rw [if_pos h4b] | rw [if_neg h4b]) (by unfold pm_ab; first | rw [if_pos h5b] | rw [if_neg h5b]) (Or.inl h9)).symm
          rw [eb] at hl
          exact ih (j + 1) _ _ _ ⟨hjj, rfl, rfl, hl⟩ (by show 12 - (j + 1) < 12 - j; omega)
        · skip
          have h9b := Int32.not_lt.mp h9
          refine lv_iload hx hb dX5_round_63 (lv_at hl 1 rfl) ?_
          refine lv_iload hx hb dX5_round_65 (lv_at hl 0 rfl) ?_
          refine lv_icmp_ne (tgt := 78) hx hb dX5_round_67 (by decide) (fun h10 => ?_) (fun h10 => ?_)
          · skip
            refine lv_iinc (k := 4) (v := nI (j + 1 + 1)) (lv' := [(2, .int (nI (j + 1 + 1))), (6, .int (-(s0 - (4 * (pm_q (pm_rlp s0 j)))))), (5, .int (s0 - (4 * (pm_q (nI (j + 1)))))), (4, .int (s0 - (4 * (pm_q (pm_rlp s0 j))))), (3, .int (s0 - (4 * (pm_q (nI (j + 1)))))), (1, .int (pm_rlp s0 j)), (0, .int s0)]) hx hb dX5_round_78 hl rfl ((nI_1 (j + 1))) (by decide) rfl (fun ls hl => ?_)
            refine lv_goto (tgt := 4) hx hb dX5_round_81 (by decide) ?_
            have hl := lv_sub hl [0, 5, 6] rfl
            have hjj : j + 1 ≤ 12 := by
              refine Nat.le_of_not_lt fun z => h1 (nI_lt (a := 12) (b := j + 1) z (by omega))
            have eb : pm_rlp s0 j = pm_rlp s0 (j + 1) := (pm_rst_n (A := s0 - (4 * (pm_q (nI (j + 1))))) (B := -(s0 - (4 * (pm_q (pm_rlp s0 j))))) (by unfold pm_ab; first | rw [if_pos h4b] | rw [if_neg h4b]) (by unfold pm_ab; first | rw [if_pos h5b] | rw [if_neg h5b]) (fun z => z.elim h9 (fun q => h10 q.1))).symm
            rw [eb] at hl
            exact ih (j + 1) _ _ _ ⟨hjj, rfl, rfl, hl⟩ (by show 12 - (j + 1) < 12 - j; omega)
          · skip
            refine lv_iload_n hx hb dX5_round_70 rfl (lv_at hl 4 rfl) ?_
            refine lv_iconst (v := 2) hx hb dX5_round_71 (by decide) ?_
            refine lv_irem hx hb dX5_round_72 (by decide) ?_
            refine lv_if_ne (tgt := 78) hx hb dX5_round_73 (by decide) (fun h11 => ?_) (fun h11 => ?_)
            · skip
              refine lv_iinc (k := 4) (v := nI (j + 1 + 1)) (lv' := [(2, .int (nI (j + 1 + 1))), (6, .int (-(s0 - (4 * (pm_q (pm_rlp s0 j)))))), (5, .int (s0 - (4 * (pm_q (nI (j + 1)))))), (4, .int (s0 - (4 * (pm_q (pm_rlp s0 j))))), (3, .int (s0 - (4 * (pm_q (nI (j + 1)))))), (1, .int (pm_rlp s0 j)), (0, .int s0)]) hx hb dX5_round_78 hl rfl ((nI_1 (j + 1))) (by decide) rfl (fun ls hl => ?_)
              refine lv_goto (tgt := 4) hx hb dX5_round_81 (by decide) ?_
              have hl := lv_sub hl [0, 5, 6] rfl
              have hjj : j + 1 ≤ 12 := by
                refine Nat.le_of_not_lt fun z => h1 (nI_lt (a := 12) (b := j + 1) z (by omega))
              have eb : pm_rlp s0 j = pm_rlp s0 (j + 1) := (pm_rst_n (A := s0 - (4 * (pm_q (nI (j + 1))))) (B := -(s0 - (4 * (pm_q (pm_rlp s0 j))))) (by unfold pm_ab; first | rw [if_pos h4b] | rw [if_neg h4b]) (by unfold pm_ab; first | rw [if_pos h5b] | rw [if_neg h5b]) (fun z => z.elim h9 (fun q => h11 q.2))).symm
              rw [eb] at hl
              exact ih (j + 1) _ _ _ ⟨hjj, rfl, rfl, hl⟩ (by show 12 - (j + 1) < 12 - j; omega)
            · skip
              refine lv_iload_n hx hb dX5_round_76 rfl (lv_at hl 4 rfl) ?_
              refine lv_istore_n (lv' := [(1, .int (nI (j + 1))), (6, .int (-(s0 - (4 * (pm_q (pm_rlp s0 j)))))), (5, .int (s0 - (4 * (pm_q (nI (j + 1)))))), (4, .int (s0 - (4 * (pm_q (pm_rlp s0 j))))), (3, .int (s0 - (4 * (pm_q (nI (j + 1)))))), (2, .int (nI (j + 1))), (0, .int s0)]) hx hb dX5_round_77 rfl hl (by decide) rfl (fun ls hl => ?_)
              refine lv_iinc (k := 5) (v := nI (j + 1 + 1)) (lv' := [(2, .int (nI (j + 1 + 1))), (1, .int (nI (j + 1))), (6, .int (-(s0 - (4 * (pm_q (pm_rlp s0 j)))))), (5, .int (s0 - (4 * (pm_q (nI (j + 1)))))), (4, .int (s0 - (4 * (pm_q (pm_rlp s0 j))))), (3, .int (s0 - (4 * (pm_q (nI (j + 1)))))), (0, .int s0)]) hx hb dX5_round_78 hl rfl ((nI_1 (j + 1))) (by decide) rfl (fun ls hl => ?_)
              refine lv_goto (tgt := 4) hx hb dX5_round_81 (by decide) ?_
              have hl := lv_sub hl [0, 1, 6] rfl
              have hjj : j + 1 ≤ 12 := by
                refine Nat.le_of_not_lt fun z => h1 (nI_lt (a := 12) (b := j + 1) z (by omega))
              have eb : nI (j + 1) = pm_rlp s0 (j + 1) := (pm_rst_y (A := s0 - (4 * (pm_q (nI (j + 1))))) (B := -(s0 - (4 * (pm_q (pm_rlp s0 j))))) (by unfold pm_ab; first | rw [if_pos h4b] | rw [if_neg h4b]) (by unfold pm_ab; first | rw [if_pos h5b] | rw [if_neg h5b]) (Or.inr ⟨h10, h11⟩)).symm
              rw [eb] at hl
              exact ih (j + 1) _ _ _ ⟨hjj, rfl, rfl, hl⟩ (by show 12 - (j + 1) < 12 - j; omega)
    · skip
      have h4b := Int32.not_le.mp h4
      refine lv_iload_n hx hb dX5_round_33 rfl (lv_at hl 1 rfl) ?_
      refine lv_ineg hx hb dX5_round_34 ?_
      refine lv_goto (tgt := 39) hx hb dX5_round_35 (by decide) ?_
      refine lv_istore (lv' := [(5, .int (-(s0 - (4 * (pm_q (nI (j + 1))))))), (4, .int (s0 - (4 * (pm_q (pm_rlp s0 j))))), (3, .int (s0 - (4 * (pm_q (nI (j + 1)))))), (2, .int (nI (j + 1))), (1, .int (pm_rlp s0 j)), (0, .int s0)]) hx hb dX5_round_39 hl (by decide) rfl (fun ls hl => ?_)
      refine lv_iload hx hb dX5_round_41 (lv_at hl 1 rfl) ?_
      refine lv_if_ge (tgt := 52) hx hb dX5_round_43 (by decide) (fun h12 => ?_) (fun h12 => ?_)
      · skip
        have h12b := Int32.not_lt.mpr h12
        refine lv_iload hx hb dX5_round_52 (lv_at hl 1 rfl) ?_
        refine lv_istore (lv' := [(6, .int (s0 - (4 * (pm_q (pm_rlp s0 j))))), (5, .int (-(s0 - (4 * (pm_q (nI (j + 1))))))), (4, .int (s0 - (4 * (pm_q (pm_rlp s0 j))))), (3, .int (s0 - (4 * (pm_q (nI (j + 1)))))), (2, .int (nI (j + 1))), (1, .int (pm_rlp s0 j)), (0, .int s0)]) hx hb dX5_round_54 hl (by decide) rfl (fun ls hl => ?_)
        refine lv_iload hx hb dX5_round_56 (lv_at hl 1 rfl) ?_
        refine lv_iload hx hb dX5_round_58 (lv_at hl 0 rfl) ?_
        refine lv_icmp_lt (tgt := 76) hx hb dX5_round_60 (by decide) (fun h13 => ?_) (fun h13 => ?_)
        · skip
          have h13b := Int32.not_le.mpr h13
          refine lv_iload_n hx hb dX5_round_76 rfl (lv_at hl 4 rfl) ?_
          refine lv_istore_n (lv' := [(1, .int (nI (j + 1))), (6, .int (s0 - (4 * (pm_q (pm_rlp s0 j))))), (5, .int (-(s0 - (4 * (pm_q (nI (j + 1))))))), (4, .int (s0 - (4 * (pm_q (pm_rlp s0 j))))), (3, .int (s0 - (4 * (pm_q (nI (j + 1)))))), (2, .int (nI (j + 1))), (0, .int s0)]) hx hb dX5_round_77 rfl hl (by decide) rfl (fun ls hl => ?_)
          refine lv_iinc (k := 5) (v := nI (j + 1 + 1)) (lv' := [(2, .int (nI (j + 1 + 1))), (1, .int (nI (j + 1))), (6, .int (s0 - (4 * (pm_q (pm_rlp s0 j))))), (5, .int (-(s0 - (4 * (pm_q (nI (j + 1))))))), (4, .int (s0 - (4 * (pm_q (pm_rlp s0 j))))), (3, .int (s0 - (4 * (pm_q (nI (j + 1)))))), (0, .int s0)]) hx hb dX5_round_78 hl rfl ((nI_1 (j + 1))) (by decide) rfl (fun ls hl => ?_)
          refine lv_goto (tgt := 4) hx hb dX5_round_81 (by decide) ?_
          have hl := lv_sub hl [0, 1, 6] rfl
          have hjj : j + 1 ≤ 12 := by
            refine Nat.le_of_not_lt fun z => h1 (nI_lt (a := 12) (b := j + 1) z (by omega))
          have eb : nI (j + 1) = pm_rlp s0 (j + 1) := (pm_rst_y (A := -(s0 - (4 * (pm_q (nI (j + 1)))))) (B := s0 - (4 * (pm_q (pm_rlp s0 j)))) (by unfold pm_ab; first | rw [if_pos h4b] | rw [if_neg h4b]) (by unfold pm_ab; first | rw [if_pos h12b] | rw [if_neg h12b]) (Or.inl h13)).symm
          rw [eb] at hl
          exact ih (j + 1) _ _ _ ⟨hjj, rfl, rfl, hl⟩ (by show 12 - (j + 1) < 12 - j; omega)
        · skip
          have h13b := Int32.not_lt.mp h13
          refine lv_iload hx hb dX5_round_63 (lv_at hl 1 rfl) ?_
          refine lv_iload hx hb dX5_round_65 (lv_at hl 0 rfl) ?_
          refine lv_icmp_ne (tgt := 78) hx hb dX5_round_67 (by decide) (fun h14 => ?_) (fun h14 => ?_)
          · skip
            refine lv_iinc (k := 4) (v := nI (j + 1 + 1)) (lv' := [(2, .int (nI (j + 1 + 1))), (6, .int (s0 - (4 * (pm_q (pm_rlp s0 j))))), (5, .int (-(s0 - (4 * (pm_q (nI (j + 1))))))), (4, .int (s0 - (4 * (pm_q (pm_rlp s0 j))))), (3, .int (s0 - (4 * (pm_q (nI (j + 1)))))), (1, .int (pm_rlp s0 j)), (0, .int s0)]) hx hb dX5_round_78 hl rfl ((nI_1 (j + 1))) (by decide) rfl (fun ls hl => ?_)
            refine lv_goto (tgt := 4) hx hb dX5_round_81 (by decide) ?_
            have hl := lv_sub hl [0, 5, 6] rfl
            have hjj : j + 1 ≤ 12 := by
              refine Nat.le_of_not_lt fun z => h1 (nI_lt (a := 12) (b := j + 1) z (by omega))
            have eb : pm_rlp s0 j = pm_rlp s0 (j + 1) := (pm_rst_n (A := -(s0 - (4 * (pm_q (nI (j + 1)))))) (B := s0 - (4 * (pm_q (pm_rlp s0 j)))) (by unfold pm_ab; first | rw [if_pos h4b] | rw [if_neg h4b]) (by unfold pm_ab; first | rw [if_pos h12b] | rw [if_neg h12b]) (fun z => z.elim h13 (fun q => h14 q.1))).symm
            rw [eb] at hl
            exact ih (j + 1) _ _ _ ⟨hjj, rfl, rfl, hl⟩ (by show 12 - (j + 1) < 12 - j; omega)
          · skip
            refine lv_iload_n hx hb dX5_round_70 rfl (lv_at hl 4 rfl) ?_
            refine lv_iconst (v := 2) hx hb dX5_round_71 (by decide) ?_
            refine lv_irem hx hb dX5_round_72 (by decide) ?_
            refine lv_if_ne (tgt := 78) hx hb dX5_round_73 (by decide) (fun h15 => ?_) (fun h15 => ?_)
            · skip
              refine lv_iinc (k := 4) (v := nI (j + 1 + 1)) (lv' := [(2, .int (nI (j + 1 + 1))), (6, .int (s0 - (4 * (pm_q (pm_rlp s0 j))))), (5, .int (-(s0 - (4 * (pm_q (nI (j + 1))))))), (4, .int (s0 - (4 * (pm_q (pm_rlp s0 j))))), (3, .int (s0 - (4 * (pm_q (nI (j + 1)))))), (1, .int (pm_rlp s0 j)), (0, .int s0)]) hx hb dX5_round_78 hl rfl ((nI_1 (j + 1))) (by decide) rfl (fun ls hl => ?_)
              refine lv_goto (tgt := 4) hx hb dX5_round_81 (by decide) ?_
              have hl := lv_sub hl [0, 5, 6] rfl
              have hjj : j + 1 ≤ 12 := by
                refine Nat.le_of_not_lt fun z => h1 (nI_lt (a := 12) (b := j + 1) z (by omega))
              have eb : pm_rlp s0 j = pm_rlp s0 (j + 1) := (pm_rst_n (A := -(s0 - (4 * (pm_q (nI (j + 1)))))) (B := s0 - (4 * (pm_q (pm_rlp s0 j)))) (by unfold pm_ab; first | rw [if_pos h4b] | rw [if_neg h4b]) (by unfold pm_ab; first | rw [if_pos h12b] | rw [if_neg h12b]) (fun z => z.elim h13 (fun q => h15 q.2))).symm
              rw [eb] at hl
              exact ih (j + 1) _ _ _ ⟨hjj, rfl, rfl, hl⟩ (by show 12 - (j + 1) < 12 - j; omega)
            · skip
              refine lv_iload_n hx hb dX5_round_76 rfl (lv_at hl 4 rfl) ?_
              refine lv_istore_n (lv' := [(1, .int (nI (j + 1))), (6, .int (s0 - (4 * (pm_q (pm_rlp s0 j))))), (5, .int (-(s0 - (4 * (pm_q (nI (j + 1))))))), (4, .int (s0 - (4 * (pm_q (pm_rlp s0 j))))), (3, .int (s0 - (4 * (pm_q (nI (j + 1)))))), (2, .int (nI (j + 1))), (0, .int s0)]) hx hb dX5_round_77 rfl hl (by decide) rfl (fun ls hl => ?_)
              refine lv_iinc (k := 5) (v := nI (j + 1 + 1)) (lv' := [(2, .int (nI (j + 1 + 1))), (1, .int (nI (j + 1))), (6, .int (s0 - (4 * (pm_q (pm_rlp s0 j))))), (5, .int (-(s0 - (4 * (pm_q (nI (j + 1))))))), (4, .int (s0 - (4 * (pm_q (pm_rlp s0 j))))), (3, .int (s0 - (4 * (pm_q (nI (j + 1)))))), (0, .int s0)]) hx hb dX5_round_78 hl rfl ((nI_1 (j + 1))) (by decide) rfl (fun ls hl => ?_)
              refine lv_goto (tgt := 4) hx hb dX5_round_81 (by decide) ?_
              have hl := lv_sub hl [0, 1, 6] rfl
              have hjj : j + 1 ≤ 12 := by
                refine Nat.le_of_not_lt fun z => h1 (nI_lt (a := 12) (b := j + 1) z (by omega))
              have eb : nI (j + 1) = pm_rlp s0 (j + 1) := (pm_rst_y (A := -(s0 - (4 * (pm_q (nI (j + 1)))))) (B := s0 - (4 * (pm_q (pm_rlp s0 j)))) (by unfold pm_ab; first | rw [if_pos h4b] | rw [if_neg h4b]) (by unfold pm_ab; first | rw [if_pos h12b] | rw [if_neg h12b]) (Or.inr ⟨h14, h15⟩)).symm
              rw [eb] at hl
              exact ih (j + 1) _ _ _ ⟨hjj, rfl, rfl, hl⟩ (by show 12 - (j + 1) < 12 - j; omega)
      · skip
        have h12b := Int32.not_le.mp h12
        refine lv_iload hx hb dX5_round_46 (lv_at hl 1 rfl) ?_
        refine lv_ineg hx hb dX5_round_48 ?_
        refine lv_goto (tgt := 54) hx hb dX5_round_49 (by decide) ?_
        refine lv_istore (lv' := [(6, .int (-(s0 - (4 * (pm_q (pm_rlp s0 j)))))), (5, .int (-(s0 - (4 * (pm_q (nI (j + 1))))))), (4, .int (s0 - (4 * (pm_q (pm_rlp s0 j))))), (3, .int (s0 - (4 * (pm_q (nI (j + 1)))))), (2, .int (nI (j + 1))), (1, .int (pm_rlp s0 j)), (0, .int s0)]) hx hb dX5_round_54 hl (by decide) rfl (fun ls hl => ?_)
        refine lv_iload hx hb dX5_round_56 (lv_at hl 1 rfl) ?_
        refine lv_iload hx hb dX5_round_58 (lv_at hl 0 rfl) ?_
        refine lv_icmp_lt (tgt := 76) hx hb dX5_round_60 (by decide) (fun h16 => ?_) (fun h16 => ?_)
        · skip
          have h16b := Int32.not_le.mpr h16
          refine lv_iload_n hx hb dX5_round_76 rfl (lv_at hl 4 rfl) ?_
          refine lv_istore_n (lv' := [(1, .int (nI (j + 1))), (6, .int (-(s0 - (4 * (pm_q (pm_rlp s0 j)))))), (5, .int (-(s0 - (4 * (pm_q (nI (j + 1))))))), (4, .int (s0 - (4 * (pm_q (pm_rlp s0 j))))), (3, .int (s0 - (4 * (pm_q (nI (j + 1)))))), (2, .int (nI (j + 1))), (0, .int s0)]) hx hb dX5_round_77 rfl hl (by decide) rfl (fun ls hl => ?_)
          refine lv_iinc (k := 5) (v := nI (j + 1 + 1)) (lv' := [(2, .int (nI (j + 1 + 1))), (1, .int (nI (j + 1))), (6, .int (-(s0 - (4 * (pm_q (pm_rlp s0 j)))))), (5, .int (-(s0 - (4 * (pm_q (nI (j + 1))))))), (4, .int (s0 - (4 * (pm_q (pm_rlp s0 j))))), (3, .int (s0 - (4 * (pm_q (nI (j + 1)))))), (0, .int s0)]) hx hb dX5_round_78 hl rfl ((nI_1 (j + 1))) (by decide) rfl (fun ls hl => ?_)
          refine lv_goto (tgt := 4) hx hb dX5_round_81 (by decide) ?_
          have hl := lv_sub hl [0, 1, 6] rfl
          have hjj : j + 1 ≤ 12 := by
            refine Nat.le_of_not_lt fun z => h1 (nI_lt (a := 12) (b := j + 1) z (by omega))
          have eb : nI (j + 1) = pm_rlp s0 (j + 1) := (pm_rst_y (A := -(s0 - (4 * (pm_q (nI (j + 1)))))) (B := -(s0 - (4 * (pm_q (pm_rlp s0 j))))) (by unfold pm_ab; first | rw [if_pos h4b] | rw [if_neg h4b]) (by unfold pm_ab; first | rw [if_pos h12b] | rw [if_neg h12b]) (Or.inl h16)).symm
          rw [eb] at hl
          exact ih (j + 1) _ _ _ ⟨hjj, rfl, rfl, hl⟩ (by show 12 - (j + 1) < 12 - j; omega)
        · skip
          have h16b := Int32.not_lt.mp h16
          refine lv_iload hx hb dX5_round_63 (lv_at hl 1 rfl) ?_
          refine lv_iload hx hb dX5_round_65 (lv_at hl 0 rfl) ?_
          refine lv_icmp_ne (tgt := 78) hx hb dX5_round_67 (by decide) (fun h17 => ?_) (fun h17 => ?_)
          · skip
            refine lv_iinc (k := 4) (v := nI (j + 1 + 1)) (lv' := [(2, .int (nI (j + 1 + 1))), (6, .int (-(s0 - (4 * (pm_q (pm_rlp s0 j)))))), (5, .int (-(s0 - (4 * (pm_q (nI (j + 1))))))), (4, .int (s0 - (4 * (pm_q (pm_rlp s0 j))))), (3, .int (s0 - (4 * (pm_q (nI (j + 1)))))), (1, .int (pm_rlp s0 j)), (0, .int s0)]) hx hb dX5_round_78 hl rfl ((nI_1 (j + 1))) (by decide) rfl (fun ls hl => ?_)
            refine lv_goto (tgt := 4) hx hb dX5_round_81 (by decide) ?_
            have hl := lv_sub hl [0, 5, 6] rfl
            have hjj : j + 1 ≤ 12 := by
              refine Nat.le_of_not_lt fun z => h1 (nI_lt (a := 12) (b := j + 1) z (by omega))
            have eb : pm_rlp s0 j = pm_rlp s0 (j + 1) := (pm_rst_n (A := -(s0 - (4 * (pm_q (nI (j + 1)))))) (B := -(s0 - (4 * (pm_q (pm_rlp s0 j))))) (by unfold pm_ab; first | rw [if_pos h4b] | rw [if_neg h4b]) (by unfold pm_ab; first | rw [if_pos h12b] | rw [if_neg h12b]) (fun z => z.elim h16 (fun q => h17 q.1))).symm
            rw [eb] at hl
            exact ih (j + 1) _ _ _ ⟨hjj, rfl, rfl, hl⟩ (by show 12 - (j + 1) < 12 - j; omega)
          · skip
            refine lv_iload_n hx hb dX5_round_70 rfl (lv_at hl 4 rfl) ?_
            refine lv_iconst (v := 2) hx hb dX5_round_71 (by decide) ?_
            refine lv_irem hx hb dX5_round_72 (by decide) ?_
            refine lv_if_ne (tgt := 78) hx hb dX5_round_73 (by decide) (fun h18 => ?_) (fun h18 => ?_)
            · skip
              refine lv_iinc (k := 4) (v := nI (j + 1 + 1)) (lv' := [(2, .int (nI (j + 1 + 1))), (6, .int (-(s0 - (4 * (pm_q (pm_rlp s0 j)))))), (5, .int (-(s0 - (4 * (pm_q (nI (j + 1))))))), (4, .int (s0 - (4 * (pm_q (pm_rlp s0 j))))), (3, .int (s0 - (4 * (pm_q (nI (j + 1)))))), (1, .int (pm_rlp s0 j)), (0, .int s0)]) hx hb dX5_round_78 hl rfl ((nI_1 (j + 1))) (by decide) rfl (fun ls hl => ?_)
              refine lv_goto (tgt := 4) hx hb dX5_round_81 (by decide) ?_
              have hl := lv_sub hl [0, 5, 6] rfl
              have hjj : j + 1 ≤ 12 := by
                refine Nat.le_of_not_lt fun z => h1 (nI_lt (a := 12) (b := j + 1) z (by omega))
              have eb : pm_rlp s0 j = pm_rlp s0 (j + 1) := (pm_rst_n (A := -(s0 - (4 * (pm_q (nI (j + 1)))))) (B := -(s0 - (4 * (pm_q (pm_rlp s0 j))))) (by unfold pm_ab; first | rw [if_pos h4b] | rw [if_neg h4b]) (by unfold pm_ab; first | rw [if_pos h12b] | rw [if_neg h12b]) (fun z => z.elim h16 (fun q => h18 q.2))).symm
              rw [eb] at hl
              exact ih (j + 1) _ _ _ ⟨hjj, rfl, rfl, hl⟩ (by show 12 - (j + 1) < 12 - j; omega)
            · skip
              refine lv_iload_n hx hb dX5_round_76 rfl (lv_at hl 4 rfl) ?_
              refine lv_istore_n (lv' := [(1, .int (nI (j + 1))), (6, .int (-(s0 - (4 * (pm_q (pm_rlp s0 j)))))), (5, .int (-(s0 - (4 * (pm_q (nI (j + 1))))))), (4, .int (s0 - (4 * (pm_q (pm_rlp s0 j))))), (3, .int (s0 - (4 * (pm_q (nI (j + 1)))))), (2, .int (nI (j + 1))), (0, .int s0)]) hx hb dX5_round_77 rfl hl (by decide) rfl (fun ls hl => ?_)
              refine lv_iinc (k := 5) (v := nI (j + 1 + 1)) (lv' := [(2, .int (nI (j + 1 + 1))), (1, .int (nI (j + 1))), (6, .int (-(s0 - (4 * (pm_q (pm_rlp s0 j)))))), (5, .int (-(s0 - (4 * (pm_q (nI (j + 1))))))), (4, .int (s0 - (4 * (pm_q (pm_rlp s0 j))))), (3, .int (s0 - (4 * (pm_q (nI (j + 1)))))), (0, .int s0)]) hx hb dX5_round_78 hl rfl ((nI_1 (j + 1))) (by decide) rfl (fun ls hl => ?_)
              refine lv_goto (tgt := 4) hx hb dX5_round_81 (by decide) ?_
              have hl := lv_sub hl [0, 1, 6] rfl
              have hjj : j + 1 ≤ 12 := by
                refine Nat.le_of_not_lt fun z => h1 (nI_lt (a := 12) (b := j + 1) z (by omega))
              have eb : nI (j + 1) = pm_rlp s0 (j + 1) := (pm_rst_y (A := -(s0 - (4 * (pm_q (nI (j + 1)))))) (B := -(s0 - (4 * (pm_q (pm_rlp s0 j))))) (by unfold pm_ab; first | rw [if_pos h4b] | rw [if_neg h4b]) (by unfold pm_ab; first | rw [if_pos h12b] | rw [if_neg h12b]) (Or.inr ⟨h17, h18⟩)).symm
              rw [eb] at hl
              exact ih (j + 1) _ _ _ ⟨hjj, rfl, rfl, hl⟩ (by show 12 - (j + 1) < 12 - j; omega)
set_option maxHeartbeats 4000000 in
set_option maxRecDepth 100000 in
theorem ctX5_equal (l : Launch) (x y : Int32) : Met l yX5_equal wsX5_equal ({ frames := 1, cells := 0, slots := 0, locals := 20 }) (va_Pc [.int x, .int y] (fun _ => True)) (vp_Si (fun r => r = pm_eq x y)) 0 0 (fun _ => False) := by
  refine Met.ofW (cc := cX5_equal) (maxL := 2) (ret := (some .boolean)) (by decide) rfl ?_
  intro p e s m args below meth c s₁ B hml hv
  obtain ⟨rfl, -⟩ := hv
  have hx := B.exec
  have hb := B.bytes
  have hr := B.returns
  have hts := atoms_spec (ws := wsX5_equal) B.pre
  have hown : s.vm.findClass RX5 = some m.cls := findClass_of_methodNamed B.named
  have hlocks := B.notSynchronized
  have hl := lv_entry ([.int x, .int y]) (n := 2) (Nat.le_of_ble_eq_true rfl)
  rw [lg_entry_eq]
  generalize (lg_sl ([.int x, .int y]) ++ List.replicate (2 - (lg_sl ([.int x, .int y])).length) Slot.unset).toArray = ls at hl ⊢
  have hl : lv_has ls 2 [(0, .int x), (1, .int y)] := hl
  refine lv_iload_n hx hb dX5_equal_0 rfl (lv_at hl 0 rfl) ?_
  refine vp_callSi (W.runS (As := [.int x]) (rest := []) ⟨hx, hb, hml, hown, hts⟩ (ctX5_nan l x) (va_cwS 1 hts (wA_wsS wm_ml_X5_46 wm_st_X5_nan wm_in_X5 wm_cd_X5_nan) rfl rfl rfl (by decide +kernel) ⟨Nat.le_of_ble_eq_true rfl, Nat.le_of_ble_eq_true rfl⟩) ⟨fun a U g mk q => q, fun U hU hW => ⟨rfl, trivial⟩⟩ rfl rfl hl.1 rfl (lv_room (Nat.le_of_ble_eq_true rfl)) dX5_equal_1 ⟨Nat.zero_le _, Nat.zero_le _⟩) (fun r1 er1 => ?_)
  subst er1
  refine lv_if_ne (tgt := 37) hx hb dX5_equal_4 (by decide) (fun h2 => ?_) (fun h2 => ?_)
  · skip
    refine lv_iconst (v := 0) hx hb dX5_equal_37 (by decide) ?_
    exact W.zret (v := 0) hx hb hr (rfl) (fun t ht hW => ⟨0, rfl, by first | (simp only [pm_eq, h2, ↓reduceIte, not_true_eq_false, not_false_eq_true, and_true, true_and, and_false, false_and, or_true, true_or, or_false, false_or, and_self, or_self]; done) | (simp [pm_eq, h2]; done) | (simp_all [pm_eq]; done), ht⟩) (fun q hq => by cases hq) dX5_equal_38
  · skip
    refine lv_iload_n hx hb dX5_equal_7 rfl (lv_at hl 1 rfl) ?_
    refine vp_callSi (W.runS (As := [.int y]) (rest := []) ⟨hx, hb, hml, hown, hts⟩ (ctX5_nan l y) (va_cwS 1 hts (wA_wsS wm_ml_X5_46 wm_st_X5_nan wm_in_X5 wm_cd_X5_nan) rfl rfl rfl (by decide +kernel) ⟨Nat.le_of_ble_eq_true rfl, Nat.le_of_ble_eq_true rfl⟩) ⟨fun a U g mk q => q, fun U hU hW => ⟨rfl, trivial⟩⟩ rfl rfl hl.1 rfl (lv_room (Nat.le_of_ble_eq_true rfl)) dX5_equal_8 ⟨Nat.zero_le _, Nat.zero_le _⟩) (fun r3 er3 => ?_)
    subst er3
    refine lv_if_ne (tgt := 37) hx hb dX5_equal_11 (by decide) (fun h4 => ?_) (fun h4 => ?_)
    · skip
      refine lv_iconst (v := 0) hx hb dX5_equal_37 (by decide) ?_
      exact W.zret (v := 0) hx hb hr (rfl) (fun t ht hW => ⟨0, rfl, by first | (simp only [pm_eq, h2, h4, ↓reduceIte, not_true_eq_false, not_false_eq_true, and_true, true_and, and_false, false_and, or_true, true_or, or_false, false_or, and_self, or_self]; done) | (simp [pm_eq, h2, h4]; done) | (simp_all [pm_eq]; done), ht⟩) (fun q hq => by cases hq) dX5_equal_38
    · skip
      refine lv_iload_n hx hb dX5_equal_14 rfl (lv_at hl 0 rfl) ?_
      refine lv_iload_n hx hb dX5_equal_15 rfl (lv_at hl 1 rfl) ?_
      refine lv_icmp_eq (tgt := 33) hx hb dX5_equal_16 (by decide) (fun h5 => ?_) (fun h5 => ?_)
      · skip
        refine lv_iconst (v := 1) hx hb dX5_equal_33 (by decide) ?_
        refine lv_goto (tgt := 38) hx hb dX5_equal_34 (by decide) ?_
        exact W.zret (v := 1) hx hb hr (rfl) (fun t ht hW => ⟨1, rfl, by first | (simp only [pm_eq, h2, h4, h5, ↓reduceIte, not_true_eq_false, not_false_eq_true, and_true, true_and, and_false, false_and, or_true, true_or, or_false, false_or, and_self, or_self]; done) | (simp [pm_eq, h2, h4, h5]; done) | (simp_all [pm_eq]; done), ht⟩) (fun q hq => by cases hq) dX5_equal_38
      · skip
        refine lv_iload_n hx hb dX5_equal_19 rfl (lv_at hl 0 rfl) ?_
        refine vp_callSi (W.runS (As := [.int x]) (rest := []) ⟨hx, hb, hml, hown, hts⟩ (ctX5_zero l x) (va_cwS 1 hts (wA_wsS wm_ml_X5_55 wm_st_X5_zero wm_in_X5 wm_cd_X5_zero) rfl rfl rfl (by decide +kernel) ⟨Nat.le_of_ble_eq_true rfl, Nat.le_of_ble_eq_true rfl⟩) ⟨fun a U g mk q => q, fun U hU hW => ⟨rfl, trivial⟩⟩ rfl rfl hl.1 rfl (lv_room (Nat.le_of_ble_eq_true rfl)) dX5_equal_20 ⟨Nat.zero_le _, Nat.zero_le _⟩) (fun r6 er6 => ?_)
        subst er6
        refine lv_if_eq (tgt := 37) hx hb dX5_equal_23 (by decide) (fun h7 => ?_) (fun h7 => ?_)
        · skip
          refine lv_iconst (v := 0) hx hb dX5_equal_37 (by decide) ?_
          exact W.zret (v := 0) hx hb hr (rfl) (fun t ht hW => ⟨0, rfl, by first | (simp only [pm_eq, h2, h4, h5, h7, ↓reduceIte, not_true_eq_false, not_false_eq_true, and_true, true_and, and_false, false_and, or_true, true_or, or_false, false_or, and_self, or_self]; done) | (simp [pm_eq, h2, h4, h5, h7]; done) | (simp_all [pm_eq]; done), ht⟩) (fun q hq => by cases hq) dX5_equal_38
        · skip
          refine lv_iload_n hx hb dX5_equal_26 rfl (lv_at hl 1 rfl) ?_
          refine vp_callSi (W.runS (As := [.int y]) (rest := []) ⟨hx, hb, hml, hown, hts⟩ (ctX5_zero l y) (va_cwS 1 hts (wA_wsS wm_ml_X5_55 wm_st_X5_zero wm_in_X5 wm_cd_X5_zero) rfl rfl rfl (by decide +kernel) ⟨Nat.le_of_ble_eq_true rfl, Nat.le_of_ble_eq_true rfl⟩) ⟨fun a U g mk q => q, fun U hU hW => ⟨rfl, trivial⟩⟩ rfl rfl hl.1 rfl (lv_room (Nat.le_of_ble_eq_true rfl)) dX5_equal_27 ⟨Nat.zero_le _, Nat.zero_le _⟩) (fun r8 er8 => ?_)
          subst er8
          refine lv_if_eq (tgt := 37) hx hb dX5_equal_30 (by decide) (fun h9 => ?_) (fun h9 => ?_)
          · skip
            refine lv_iconst (v := 0) hx hb dX5_equal_37 (by decide) ?_
            exact W.zret (v := 0) hx hb hr (rfl) (fun t ht hW => ⟨0, rfl, by first | (simp only [pm_eq, h2, h4, h5, h7, h9, ↓reduceIte, not_true_eq_false, not_false_eq_true, and_true, true_and, and_false, false_and, or_true, true_or, or_false, false_or, and_self, or_self]; done) | (simp [pm_eq, h2, h4, h5, h7, h9]; done) | (simp_all [pm_eq]; done), ht⟩) (fun q hq => by cases hq) dX5_equal_38
          · skip
            refine lv_iconst (v := 1) hx hb dX5_equal_33 (by decide) ?_
            refine lv_goto (tgt := 38) hx hb dX5_equal_34 (by decide) ?_
            exact W.zret (v := 1) hx hb hr (rfl) (fun t ht hW => ⟨1, rfl, by first | (simp only [pm_eq, h2, h4, h5, h7, h9, ↓reduceIte, not_true_eq_false, not_false_eq_true, and_true, true_and, and_false, false_and, or_true, true_or, or_false, false_or, and_self, or_self]; done) | (simp [pm_eq, h2, h4, h5, h7, h9]; done) | (simp_all [pm_eq]; done), ht⟩) (fun q hq => by cases hq) dX5_equal_38
set_option maxHeartbeats 4000000 in
set_option maxRecDepth 100000 in
theorem ctX5_less (l : Launch) (x y : Int32) : Met l yX5_less wsX5_less ({ frames := 2, cells := 0, slots := 0, locals := 41 }) (va_Pc [.int x, .int y] (fun _ => True)) (vp_Si (fun r => r = pm_les x y)) 0 0 (fun _ => False) := by
  refine Met.ofW (cc := cX5_less) (maxL := 2) (ret := (some .boolean)) (by decide) rfl ?_
  intro p e s m args below meth c s₁ B hml hv
  obtain ⟨rfl, -⟩ := hv
  have hx := B.exec
  have hb := B.bytes
  have hr := B.returns
  have hts := atoms_spec (ws := wsX5_less) B.pre
  have hown : s.vm.findClass RX5 = some m.cls := findClass_of_methodNamed B.named
  have hlocks := B.notSynchronized
  have hl := lv_entry ([.int x, .int y]) (n := 2) (Nat.le_of_ble_eq_true rfl)
  rw [lg_entry_eq]
  generalize (lg_sl ([.int x, .int y]) ++ List.replicate (2 - (lg_sl ([.int x, .int y])).length) Slot.unset).toArray = ls at hl ⊢
  have hl : lv_has ls 2 [(0, .int x), (1, .int y)] := hl
  refine lv_iload_n hx hb dX5_less_0 rfl (lv_at hl 0 rfl) ?_
  refine vp_callSi (W.runS (As := [.int x]) (rest := []) ⟨hx, hb, hml, hown, hts⟩ (ctX5_nan l x) (va_cwS 1 hts (wA_wsS wm_ml_X5_46 wm_st_X5_nan wm_in_X5 wm_cd_X5_nan) rfl rfl rfl (by decide +kernel) ⟨Nat.le_of_ble_eq_true rfl, Nat.le_of_ble_eq_true rfl⟩) ⟨fun a U g mk q => q, fun U hU hW => ⟨rfl, trivial⟩⟩ rfl rfl hl.1 rfl (lv_room (Nat.le_of_ble_eq_true rfl)) dX5_less_1 ⟨Nat.zero_le _, Nat.zero_le _⟩) (fun r1 er1 => ?_)
  subst er1
  refine lv_if_ne (tgt := 29) hx hb dX5_less_4 (by decide) (fun h2 => ?_) (fun h2 => ?_)
  · skip
    refine lv_iconst (v := 0) hx hb dX5_less_29 (by decide) ?_
    exact W.zret (v := 0) hx hb hr (rfl) (fun t ht hW => ⟨0, rfl, by first | (simp only [pm_les, h2, ↓reduceIte, not_true_eq_false, not_false_eq_true, and_true, true_and, and_false, false_and, or_true, true_or, or_false, false_or, and_self, or_self]; done) | (simp [pm_les, h2]; done) | (simp_all [pm_les]; done), ht⟩) (fun q hq => by cases hq) dX5_less_30
  · skip
    refine lv_iload_n hx hb dX5_less_7 rfl (lv_at hl 1 rfl) ?_
    refine vp_callSi (W.runS (As := [.int y]) (rest := []) ⟨hx, hb, hml, hown, hts⟩ (ctX5_nan l y) (va_cwS 1 hts (wA_wsS wm_ml_X5_46 wm_st_X5_nan wm_in_X5 wm_cd_X5_nan) rfl rfl rfl (by decide +kernel) ⟨Nat.le_of_ble_eq_true rfl, Nat.le_of_ble_eq_true rfl⟩) ⟨fun a U g mk q => q, fun U hU hW => ⟨rfl, trivial⟩⟩ rfl rfl hl.1 rfl (lv_room (Nat.le_of_ble_eq_true rfl)) dX5_less_8 ⟨Nat.zero_le _, Nat.zero_le _⟩) (fun r3 er3 => ?_)
    subst er3
    refine lv_if_ne (tgt := 29) hx hb dX5_less_11 (by decide) (fun h4 => ?_) (fun h4 => ?_)
    · skip
      refine lv_iconst (v := 0) hx hb dX5_less_29 (by decide) ?_
      exact W.zret (v := 0) hx hb hr (rfl) (fun t ht hW => ⟨0, rfl, by first | (simp only [pm_les, h2, h4, ↓reduceIte, not_true_eq_false, not_false_eq_true, and_true, true_and, and_false, false_and, or_true, true_or, or_false, false_or, and_self, or_self]; done) | (simp [pm_les, h2, h4]; done) | (simp_all [pm_les]; done), ht⟩) (fun q hq => by cases hq) dX5_less_30
    · skip
      refine lv_iload_n hx hb dX5_less_14 rfl (lv_at hl 0 rfl) ?_
      refine vp_callSi (W.runS (As := [.int x]) (rest := []) ⟨hx, hb, hml, hown, hts⟩ (ctX5_worthOf l x) (va_cwS 1 hts (wA_wsS wm_ml_X5_49 wm_st_X5_worthOf wm_in_X5 wm_cd_X5_worthOf) rfl rfl rfl (by decide +kernel) ⟨Nat.le_of_ble_eq_true rfl, Nat.le_of_ble_eq_true rfl⟩) ⟨fun a U g mk q => q, fun U hU hW => ⟨rfl, trivial⟩⟩ rfl rfl hl.1 rfl (lv_room (Nat.le_of_ble_eq_true rfl)) dX5_less_15 ⟨Nat.zero_le _, Nat.zero_le _⟩) (fun r5 er5 => ?_)
      subst er5
      refine lv_iload_n hx hb dX5_less_18 rfl (lv_at hl 1 rfl) ?_
      refine vp_callSi (W.runS (As := [.int y]) (rest := [.int (pm_wor x)]) ⟨hx, hb, hml, hown, hts⟩ (ctX5_worthOf l y) (va_cwS 1 hts (wA_wsS wm_ml_X5_49 wm_st_X5_worthOf wm_in_X5 wm_cd_X5_worthOf) rfl rfl rfl (by decide +kernel) ⟨Nat.le_of_ble_eq_true rfl, Nat.le_of_ble_eq_true rfl⟩) ⟨fun a U g mk q => q, fun U hU hW => ⟨rfl, trivial⟩⟩ rfl rfl hl.1 rfl (lv_room (Nat.le_of_ble_eq_true rfl)) dX5_less_19 ⟨Nat.zero_le _, Nat.zero_le _⟩) (fun r6 er6 => ?_)
      subst er6
      refine lv_icmp_ge (tgt := 29) hx hb dX5_less_22 (by decide) (fun h7 => ?_) (fun h7 => ?_)
      · skip
        have h7b := Int32.not_lt.mpr h7
        refine lv_iconst (v := 0) hx hb dX5_less_29 (by decide) ?_
        exact W.zret (v := 0) hx hb hr (rfl) (fun t ht hW => ⟨0, rfl, by first | (simp only [pm_les, h2, h4, h7, h7b, ↓reduceIte, not_true_eq_false, not_false_eq_true, and_true, true_and, and_false, false_and, or_true, true_or, or_false, false_or, and_self, or_self]; done) | (simp [pm_les, h2, h4, h7, h7b]; done) | (simp_all [pm_les]; done), ht⟩) (fun q hq => by cases hq) dX5_less_30
      · skip
        have h7b := Int32.not_le.mp h7
        refine lv_iconst (v := 1) hx hb dX5_less_25 (by decide) ?_
        refine lv_goto (tgt := 30) hx hb dX5_less_26 (by decide) ?_
        exact W.zret (v := 1) hx hb hr (rfl) (fun t ht hW => ⟨1, rfl, by first | (simp only [pm_les, h2, h4, h7, h7b, ↓reduceIte, not_true_eq_false, not_false_eq_true, and_true, true_and, and_false, false_and, or_true, true_or, or_false, false_or, and_self, or_self]; done) | (simp [pm_les, h2, h4, h7, h7b]; done) | (simp_all [pm_les]; done), ht⟩) (fun q hq => by cases hq) dX5_less_30
set_option maxHeartbeats 4000000 in
set_option maxRecDepth 100000 in
theorem ctX1_isNumber (l : Launch) (x : Int32) : Met l yX1_isNumber wsX1_isNumber ({ frames := 0, cells := 0, slots := 0, locals := 0 }) (va_Pc [.int x] (fun _ => True)) (vp_Si (fun r => r = pu_isn x)) 0 0 (fun _ => False) := by
  refine Met.ofW (cc := cX1_isNumber) (maxL := 1) (ret := (some .boolean)) (by decide) rfl ?_
  intro p e s m args below meth c s₁ B hml hv
  obtain ⟨rfl, -⟩ := hv
  have hx := B.exec
  have hb := B.bytes
  have hr := B.returns
  have hts := atoms_spec (ws := wsX1_isNumber) B.pre
  have hown : s.vm.findClass RX1 = some m.cls := findClass_of_methodNamed B.named
  have hlocks := B.notSynchronized
  have hl := lv_entry ([.int x]) (n := 1) (Nat.le_of_ble_eq_true rfl)
  rw [lg_entry_eq]
  generalize (lg_sl ([.int x]) ++ List.replicate (1 - (lg_sl ([.int x])).length) Slot.unset).toArray = ls at hl ⊢
  have hl : lv_has ls 1 [(0, .int x)] := hl
  refine lv_iload_n hx hb dX1_isNumber_0 rfl (lv_at hl 0 rfl) ?_
  refine lv_if_lt (tgt := 14) hx hb dX1_isNumber_1 (by decide) (fun h1 => ?_) (fun h1 => ?_)
  · skip
    have h1b := Int32.not_le.mpr h1
    refine lv_iconst (v := 0) hx hb dX1_isNumber_14 (by decide) ?_
    exact W.zret (v := 0) hx hb hr (rfl) (fun t ht hW => ⟨0, rfl, by first | (simp only [pu_isn, h1, h1b, ↓reduceIte, not_true_eq_false, not_false_eq_true, and_true, true_and, and_false, false_and, or_true, true_or, or_false, false_or, and_self, or_self]; done) | (simp [pu_isn, h1, h1b]; done) | (simp_all [pu_isn]; done), ht⟩) (fun q hq => by cases hq) dX1_isNumber_15
  · skip
    have h1b := Int32.not_lt.mp h1
    refine lv_iload_n hx hb dX1_isNumber_4 rfl (lv_at hl 0 rfl) ?_
    refine lv_bipush (v := 31) hx hb dX1_isNumber_5 (by decide) ?_
    refine lv_icmp_gt (tgt := 14) hx hb dX1_isNumber_7 (by decide) (fun h2 => ?_) (fun h2 => ?_)
    · skip
      have h2b := Int32.not_le.mpr h2
      refine lv_iconst (v := 0) hx hb dX1_isNumber_14 (by decide) ?_
      exact W.zret (v := 0) hx hb hr (rfl) (fun t ht hW => ⟨0, rfl, by first | (simp only [pu_isn, h1, h1b, h2, h2b, ↓reduceIte, not_true_eq_false, not_false_eq_true, and_true, true_and, and_false, false_and, or_true, true_or, or_false, false_or, and_self, or_self]; done) | (simp [pu_isn, h1, h1b, h2, h2b]; done) | (simp_all [pu_isn]; done), ht⟩) (fun q hq => by cases hq) dX1_isNumber_15
    · skip
      have h2b := Int32.not_lt.mp h2
      refine lv_iconst (v := 1) hx hb dX1_isNumber_10 (by decide) ?_
      refine lv_goto (tgt := 15) hx hb dX1_isNumber_11 (by decide) ?_
      exact W.zret (v := 1) hx hb hr (rfl) (fun t ht hW => ⟨1, rfl, by first | (simp only [pu_isn, h1, h1b, h2, h2b, ↓reduceIte, not_true_eq_false, not_false_eq_true, and_true, true_and, and_false, false_and, or_true, true_or, or_false, false_or, and_self, or_self]; done) | (simp [pu_isn, h1, h1b, h2, h2b]; done) | (simp_all [pu_isn]; done), ht⟩) (fun q hq => by cases hq) dX1_isNumber_15
set_option maxHeartbeats 4000000 in
set_option maxRecDepth 100000 in
theorem ctX1_isOperation (l : Launch) (k : Int32) : Met l yX1_isOperation wsX1_isOperation ({ frames := 0, cells := 0, slots := 0, locals := 0 }) (va_Pc [.int k] (fun _ => True)) (vp_Si (fun r => r = pu_iso k)) 0 0 (fun _ => False) := by
  refine Met.ofW (cc := cX1_isOperation) (maxL := 1) (ret := (some .boolean)) (by decide) rfl ?_
  intro p e s m args below meth c s₁ B hml hv
  obtain ⟨rfl, -⟩ := hv
  have hx := B.exec
  have hb := B.bytes
  have hr := B.returns
  have hts := atoms_spec (ws := wsX1_isOperation) B.pre
  have hown : s.vm.findClass RX1 = some m.cls := findClass_of_methodNamed B.named
  have hlocks := B.notSynchronized
  have hl := lv_entry ([.int k]) (n := 1) (Nat.le_of_ble_eq_true rfl)
  rw [lg_entry_eq]
  generalize (lg_sl ([.int k]) ++ List.replicate (1 - (lg_sl ([.int k])).length) Slot.unset).toArray = ls at hl ⊢
  have hl : lv_has ls 1 [(0, .int k)] := hl
  refine lv_iload_n hx hb dX1_isOperation_0 rfl (lv_at hl 0 rfl) ?_
  refine lv_iconst (v := 2) hx hb dX1_isOperation_1 (by decide) ?_
  refine lv_icmp_lt (tgt := 21) hx hb dX1_isOperation_2 (by decide) (fun h1 => ?_) (fun h1 => ?_)
  · skip
    have h1b := Int32.not_le.mpr h1
    refine lv_iconst (v := 0) hx hb dX1_isOperation_21 (by decide) ?_
    exact W.zret (v := 0) hx hb hr (rfl) (fun t ht hW => ⟨0, rfl, by first | (simp only [pu_iso, h1, h1b, ↓reduceIte, not_true_eq_false, not_false_eq_true, and_true, true_and, and_false, false_and, or_true, true_or, or_false, false_or, and_self, or_self]; done) | (simp [pu_iso, h1, h1b]; done) | (simp_all [pu_iso]; done), ht⟩) (fun q hq => by cases hq) dX1_isOperation_22
  · skip
    have h1b := Int32.not_lt.mp h1
    refine lv_iload_n hx hb dX1_isOperation_5 rfl (lv_at hl 0 rfl) ?_
    refine lv_bipush (v := 16) hx hb dX1_isOperation_6 (by decide) ?_
    refine lv_icmp_gt (tgt := 21) hx hb dX1_isOperation_8 (by decide) (fun h2 => ?_) (fun h2 => ?_)
    · skip
      have h2b := Int32.not_le.mpr h2
      refine lv_iconst (v := 0) hx hb dX1_isOperation_21 (by decide) ?_
      exact W.zret (v := 0) hx hb hr (rfl) (fun t ht hW => ⟨0, rfl, by first | (simp only [pu_iso, h1, h1b, h2, h2b, ↓reduceIte, not_true_eq_false, not_false_eq_true, and_true, true_and, and_false, false_and, or_true, true_or, or_false, false_or, and_self, or_self]; done) | (simp [pu_iso, h1, h1b, h2, h2b]; done) | (simp_all [pu_iso]; done), ht⟩) (fun q hq => by cases hq) dX1_isOperation_22
    · skip
      have h2b := Int32.not_lt.mp h2
      refine lv_iload_n hx hb dX1_isOperation_11 rfl (lv_at hl 0 rfl) ?_
      refine lv_bipush (v := 9) hx hb dX1_isOperation_12 (by decide) ?_
      refine lv_icmp_eq (tgt := 21) hx hb dX1_isOperation_14 (by decide) (fun h3 => ?_) (fun h3 => ?_)
      · skip
        refine lv_iconst (v := 0) hx hb dX1_isOperation_21 (by decide) ?_
        exact W.zret (v := 0) hx hb hr (rfl) (fun t ht hW => ⟨0, rfl, by first | (simp only [pu_iso, h1, h1b, h2, h2b, h3, ↓reduceIte, not_true_eq_false, not_false_eq_true, and_true, true_and, and_false, false_and, or_true, true_or, or_false, false_or, and_self, or_self]; done) | (simp [pu_iso, h1, h1b, h2, h2b, h3]; done) | (simp_all [pu_iso]; done), ht⟩) (fun q hq => by cases hq) dX1_isOperation_22
      · skip
        refine lv_iconst (v := 1) hx hb dX1_isOperation_17 (by decide) ?_
        refine lv_goto (tgt := 22) hx hb dX1_isOperation_18 (by decide) ?_
        exact W.zret (v := 1) hx hb hr (rfl) (fun t ht hW => ⟨1, rfl, by first | (simp only [pu_iso, h1, h1b, h2, h2b, h3, ↓reduceIte, not_true_eq_false, not_false_eq_true, and_true, true_and, and_false, false_and, or_true, true_or, or_false, false_or, and_self, or_self]; done) | (simp [pu_iso, h1, h1b, h2, h2b, h3]; done) | (simp_all [pu_iso]; done), ht⟩) (fun q hq => by cases hq) dX1_isOperation_22
set_option maxHeartbeats 4000000 in
set_option maxRecDepth 100000 in
theorem ctX2_isKind (l : Launch) (k : Int32) : Met l yX2_isKind wsX2_isKind ({ frames := 0, cells := 0, slots := 0, locals := 0 }) (va_Pc [.int k] (fun _ => True)) (vp_Si (fun r => r = px_knd k)) 0 0 (fun _ => False) := by
  refine Met.ofW (cc := cX2_isKind) (maxL := 1) (ret := (some .boolean)) (by decide) rfl ?_
  intro p e s m args below meth c s₁ B hml hv
  obtain ⟨rfl, -⟩ := hv
  have hx := B.exec
  have hb := B.bytes
  have hr := B.returns
  have hts := atoms_spec (ws := wsX2_isKind) B.pre
  have hown : s.vm.findClass RX2 = some m.cls := findClass_of_methodNamed B.named
  have hlocks := B.notSynchronized
  have hl := lv_entry ([.int k]) (n := 1) (Nat.le_of_ble_eq_true rfl)
  rw [lg_entry_eq]
  generalize (lg_sl ([.int k]) ++ List.replicate (1 - (lg_sl ([.int k])).length) Slot.unset).toArray = ls at hl ⊢
  have hl : lv_has ls 1 [(0, .int k)] := hl
  refine lv_iload_n hx hb dX2_isKind_0 rfl (lv_at hl 0 rfl) ?_
  refine lv_if_lt (tgt := 14) hx hb dX2_isKind_1 (by decide) (fun h1 => ?_) (fun h1 => ?_)
  · skip
    have h1b := Int32.not_le.mpr h1
    refine lv_iconst (v := 0) hx hb dX2_isKind_14 (by decide) ?_
    exact W.zret (v := 0) hx hb hr (rfl) (fun t ht hW => ⟨0, rfl, by first | (simp only [px_knd, h1, h1b, ↓reduceIte, not_true_eq_false, not_false_eq_true, and_true, true_and, and_false, false_and, or_true, true_or, or_false, false_or, and_self, or_self]; done) | (simp [px_knd, h1, h1b]; done) | (simp_all [px_knd]; done), ht⟩) (fun q hq => by cases hq) dX2_isKind_15
  · skip
    have h1b := Int32.not_lt.mp h1
    refine lv_iload_n hx hb dX2_isKind_4 rfl (lv_at hl 0 rfl) ?_
    refine lv_bipush (v := 19) hx hb dX2_isKind_5 (by decide) ?_
    refine lv_icmp_gt (tgt := 14) hx hb dX2_isKind_7 (by decide) (fun h2 => ?_) (fun h2 => ?_)
    · skip
      have h2b := Int32.not_le.mpr h2
      refine lv_iconst (v := 0) hx hb dX2_isKind_14 (by decide) ?_
      exact W.zret (v := 0) hx hb hr (rfl) (fun t ht hW => ⟨0, rfl, by first | (simp only [px_knd, h1, h1b, h2, h2b, ↓reduceIte, not_true_eq_false, not_false_eq_true, and_true, true_and, and_false, false_and, or_true, true_or, or_false, false_or, and_self, or_self]; done) | (simp [px_knd, h1, h1b, h2, h2b]; done) | (simp_all [px_knd]; done), ht⟩) (fun q hq => by cases hq) dX2_isKind_15
    · skip
      have h2b := Int32.not_lt.mp h2
      refine lv_iconst (v := 1) hx hb dX2_isKind_10 (by decide) ?_
      refine lv_goto (tgt := 15) hx hb dX2_isKind_11 (by decide) ?_
      exact W.zret (v := 1) hx hb hr (rfl) (fun t ht hW => ⟨1, rfl, by first | (simp only [px_knd, h1, h1b, h2, h2b, ↓reduceIte, not_true_eq_false, not_false_eq_true, and_true, true_and, and_false, false_and, or_true, true_or, or_false, false_or, and_self, or_self]; done) | (simp [px_knd, h1, h1b, h2, h2b]; done) | (simp_all [px_knd]; done), ht⟩) (fun q hq => by cases hq) dX2_isKind_15
set_option maxHeartbeats 4000000 in
set_option maxRecDepth 100000 in
theorem ctX2_givesTruth (l : Launch) (k : Int32) : Met l yX2_givesTruth wsX2_givesTruth ({ frames := 0, cells := 0, slots := 0, locals := 0 }) (va_Pc [.int k] (fun _ => True)) (vp_Si (fun r => r = px_tru k)) 0 0 (fun _ => False) := by
  refine Met.ofW (cc := cX2_givesTruth) (maxL := 1) (ret := (some .boolean)) (by decide) rfl ?_
  intro p e s m args below meth c s₁ B hml hv
  obtain ⟨rfl, -⟩ := hv
  have hx := B.exec
  have hb := B.bytes
  have hr := B.returns
  have hts := atoms_spec (ws := wsX2_givesTruth) B.pre
  have hown : s.vm.findClass RX2 = some m.cls := findClass_of_methodNamed B.named
  have hlocks := B.notSynchronized
  have hl := lv_entry ([.int k]) (n := 1) (Nat.le_of_ble_eq_true rfl)
  rw [lg_entry_eq]
  generalize (lg_sl ([.int k]) ++ List.replicate (1 - (lg_sl ([.int k])).length) Slot.unset).toArray = ls at hl ⊢
  have hl : lv_has ls 1 [(0, .int k)] := hl
  refine lv_iload_n hx hb dX2_givesTruth_0 rfl (lv_at hl 0 rfl) ?_
  refine lv_bipush (v := 10) hx hb dX2_givesTruth_1 (by decide) ?_
  refine lv_icmp_lt (tgt := 16) hx hb dX2_givesTruth_3 (by decide) (fun h1 => ?_) (fun h1 => ?_)
  · skip
    have h1b := Int32.not_le.mpr h1
    refine lv_iconst (v := 0) hx hb dX2_givesTruth_16 (by decide) ?_
    exact W.zret (v := 0) hx hb hr (rfl) (fun t ht hW => ⟨0, rfl, by first | (simp only [px_tru, h1, h1b, ↓reduceIte, not_true_eq_false, not_false_eq_true, and_true, true_and, and_false, false_and, or_true, true_or, or_false, false_or, and_self, or_self]; done) | (simp [px_tru, h1, h1b]; done) | (simp_all [px_tru]; done), ht⟩) (fun q hq => by cases hq) dX2_givesTruth_17
  · skip
    have h1b := Int32.not_lt.mp h1
    refine lv_iload_n hx hb dX2_givesTruth_6 rfl (lv_at hl 0 rfl) ?_
    refine lv_bipush (v := 19) hx hb dX2_givesTruth_7 (by decide) ?_
    refine lv_icmp_gt (tgt := 16) hx hb dX2_givesTruth_9 (by decide) (fun h2 => ?_) (fun h2 => ?_)
    · skip
      have h2b := Int32.not_le.mpr h2
      refine lv_iconst (v := 0) hx hb dX2_givesTruth_16 (by decide) ?_
      exact W.zret (v := 0) hx hb hr (rfl) (fun t ht hW => ⟨0, rfl, by first | (simp only [px_tru, h1, h1b, h2, h2b, ↓reduceIte, not_true_eq_false, not_false_eq_true, and_true, true_and, and_false, false_and, or_true, true_or, or_false, false_or, and_self, or_self]; done) | (simp [px_tru, h1, h1b, h2, h2b]; done) | (simp_all [px_tru]; done), ht⟩) (fun q hq => by cases hq) dX2_givesTruth_17
    · skip
      have h2b := Int32.not_lt.mp h2
      refine lv_iconst (v := 1) hx hb dX2_givesTruth_12 (by decide) ?_
      refine lv_goto (tgt := 17) hx hb dX2_givesTruth_13 (by decide) ?_
      exact W.zret (v := 1) hx hb hr (rfl) (fun t ht hW => ⟨1, rfl, by first | (simp only [px_tru, h1, h1b, h2, h2b, ↓reduceIte, not_true_eq_false, not_false_eq_true, and_true, true_and, and_false, false_and, or_true, true_or, or_false, false_or, and_self, or_self]; done) | (simp [px_tru, h1, h1b, h2, h2b]; done) | (simp_all [px_tru]; done), ht⟩) (fun q hq => by cases hq) dX2_givesTruth_17
set_option maxHeartbeats 4000000 in
set_option maxRecDepth 100000 in
theorem ctX2_ofFirst (l : Launch) (k : Int32) : Met l yX2_ofFirst wsX2_ofFirst ({ frames := 0, cells := 0, slots := 0, locals := 0 }) (va_Pc [.int k] (fun _ => True)) (vp_Si (fun r => r = px_s1 k)) 0 0 (fun _ => False) := by
  refine Met.ofW (cc := cX2_ofFirst) (maxL := 1) (ret := (some .int)) (by decide) rfl ?_
  intro p e s m args below meth c s₁ B hml hv
  obtain ⟨rfl, -⟩ := hv
  have hx := B.exec
  have hb := B.bytes
  have hr := B.returns
  have hts := atoms_spec (ws := wsX2_ofFirst) B.pre
  have hown : s.vm.findClass RX2 = some m.cls := findClass_of_methodNamed B.named
  have hlocks := B.notSynchronized
  have hl := lv_entry ([.int k]) (n := 1) (Nat.le_of_ble_eq_true rfl)
  rw [lg_entry_eq]
  generalize (lg_sl ([.int k]) ++ List.replicate (1 - (lg_sl ([.int k])).length) Slot.unset).toArray = ls at hl ⊢
  have hl : lv_has ls 1 [(0, .int k)] := hl
  refine lv_iload_n hx hb dX2_ofFirst_0 rfl (lv_at hl 0 rfl) ?_
  by_cases k1 : k = 0
  · refine lv_tableIn (off := 95) (tgt := 96) hx hb dX2_ofFirst_1 (by rw [k1]; decide) (by rw [k1]; decide) (by rw [k1]; rfl) (by decide) ?_
    refine lv_iconst (v := 1) hx hb dX2_ofFirst_96 (by decide) ?_
    exact W.iret (v := 1) hx hb hr (fun t ht hW => ⟨1, rfl, by first | (subst k1; simp [px_s1, pu_nan]; done) | (simp [px_s1, k1]; done) | (subst k1; simp_all [px_s1]; done) | (simp_all [px_s1]; done), ht⟩) (fun q hq => by cases hq) dX2_ofFirst_97
  by_cases k2 : k = 1
  · refine lv_tableIn (off := 97) (tgt := 98) hx hb dX2_ofFirst_1 (by rw [k2]; decide) (by rw [k2]; decide) (by rw [k2]; rfl) (by decide) ?_
    refine lv_iconst (v := 2) hx hb dX2_ofFirst_98 (by decide) ?_
    exact W.iret (v := 2) hx hb hr (fun t ht hW => ⟨2, rfl, by first | (subst k2; simp [px_s1, pu_nan]; done) | (simp [px_s1, k1, k2]; done) | (subst k2; simp_all [px_s1]; done) | (simp_all [px_s1]; done), ht⟩) (fun q hq => by cases hq) dX2_ofFirst_99
  by_cases k3 : k = 9
  · refine lv_tableIn (off := 99) (tgt := 100) hx hb dX2_ofFirst_1 (by rw [k3]; decide) (by rw [k3]; decide) (by rw [k3]; rfl) (by decide) ?_
    refine lv_iconst (v := 4) hx hb dX2_ofFirst_100 (by decide) ?_
    exact W.iret (v := 4) hx hb hr (fun t ht hW => ⟨4, rfl, by first | (subst k3; simp [px_s1, pu_nan]; done) | (simp [px_s1, k1, k2, k3]; done) | (subst k3; simp_all [px_s1]; done) | (simp_all [px_s1]; done), ht⟩) (fun q hq => by cases hq) dX2_ofFirst_101
  by_cases k4 : k = 17
  · refine lv_tableIn (off := 99) (tgt := 100) hx hb dX2_ofFirst_1 (by rw [k4]; decide) (by rw [k4]; decide) (by rw [k4]; rfl) (by decide) ?_
    refine lv_iconst (v := 4) hx hb dX2_ofFirst_100 (by decide) ?_
    exact W.iret (v := 4) hx hb hr (fun t ht hW => ⟨4, rfl, by first | (subst k4; simp [px_s1, pu_nan]; done) | (simp [px_s1, k1, k2, k3, k4]; done) | (subst k4; simp_all [px_s1]; done) | (simp_all [px_s1]; done), ht⟩) (fun q hq => by cases hq) dX2_ofFirst_101
  by_cases k5 : k = 18
  · refine lv_tableIn (off := 99) (tgt := 100) hx hb dX2_ofFirst_1 (by rw [k5]; decide) (by rw [k5]; decide) (by rw [k5]; rfl) (by decide) ?_
    refine lv_iconst (v := 4) hx hb dX2_ofFirst_100 (by decide) ?_
    exact W.iret (v := 4) hx hb hr (fun t ht hW => ⟨4, rfl, by first | (subst k5; simp [px_s1, pu_nan]; done) | (simp [px_s1, k1, k2, k3, k4, k5]; done) | (subst k5; simp_all [px_s1]; done) | (simp_all [px_s1]; done), ht⟩) (fun q hq => by cases hq) dX2_ofFirst_101
  by_cases k6 : k = 19
  · refine lv_tableIn (off := 99) (tgt := 100) hx hb dX2_ofFirst_1 (by rw [k6]; decide) (by rw [k6]; decide) (by rw [k6]; rfl) (by decide) ?_
    refine lv_iconst (v := 4) hx hb dX2_ofFirst_100 (by decide) ?_
    exact W.iret (v := 4) hx hb hr (fun t ht hW => ⟨4, rfl, by first | (subst k6; simp [px_s1, pu_nan]; done) | (simp [px_s1, k1, k2, k3, k4, k5, k6]; done) | (subst k6; simp_all [px_s1]; done) | (simp_all [px_s1]; done), ht⟩) (fun q hq => by cases hq) dX2_ofFirst_101
  by_cases k7 : k = 2
  · refine lv_tableIn (off := 101) (tgt := 102) hx hb dX2_ofFirst_1 (by rw [k7]; decide) (by rw [k7]; decide) (by rw [k7]; rfl) (by decide) ?_
    refine lv_iconst (v := 3) hx hb dX2_ofFirst_102 (by decide) ?_
    exact W.iret (v := 3) hx hb hr (fun t ht hW => ⟨3, rfl, by first | (subst k7; simp [px_s1, pu_nan]; done) | (simp [px_s1, k1, k2, k3, k4, k5, k6, k7]; done) | (subst k7; simp_all [px_s1]; done) | (simp_all [px_s1]; done), ht⟩) (fun q hq => by cases hq) dX2_ofFirst_103
  by_cases k8 : k = 3
  · refine lv_tableIn (off := 101) (tgt := 102) hx hb dX2_ofFirst_1 (by rw [k8]; decide) (by rw [k8]; decide) (by rw [k8]; rfl) (by decide) ?_
    refine lv_iconst (v := 3) hx hb dX2_ofFirst_102 (by decide) ?_
    exact W.iret (v := 3) hx hb hr (fun t ht hW => ⟨3, rfl, by first | (subst k8; simp [px_s1, pu_nan]; done) | (simp [px_s1, k1, k2, k3, k4, k5, k6, k7, k8]; done) | (subst k8; simp_all [px_s1]; done) | (simp_all [px_s1]; done), ht⟩) (fun q hq => by cases hq) dX2_ofFirst_103
  by_cases k9 : k = 4
  · refine lv_tableIn (off := 101) (tgt := 102) hx hb dX2_ofFirst_1 (by rw [k9]; decide) (by rw [k9]; decide) (by rw [k9]; rfl) (by decide) ?_
    refine lv_iconst (v := 3) hx hb dX2_ofFirst_102 (by decide) ?_
    exact W.iret (v := 3) hx hb hr (fun t ht hW => ⟨3, rfl, by first | (subst k9; simp [px_s1, pu_nan]; done) | (simp [px_s1, k1, k2, k3, k4, k5, k6, k7, k8, k9]; done) | (subst k9; simp_all [px_s1]; done) | (simp_all [px_s1]; done), ht⟩) (fun q hq => by cases hq) dX2_ofFirst_103
  by_cases k10 : k = 5
  · refine lv_tableIn (off := 101) (tgt := 102) hx hb dX2_ofFirst_1 (by rw [k10]; decide) (by rw [k10]; decide) (by rw [k10]; rfl) (by decide) ?_
    refine lv_iconst (v := 3) hx hb dX2_ofFirst_102 (by decide) ?_
    exact W.iret (v := 3) hx hb hr (fun t ht hW => ⟨3, rfl, by first | (subst k10; simp [px_s1, pu_nan]; done) | (simp [px_s1, k1, k2, k3, k4, k5, k6, k7, k8, k9, k10]; done) | (subst k10; simp_all [px_s1]; done) | (simp_all [px_s1]; done), ht⟩) (fun q hq => by cases hq) dX2_ofFirst_103
  by_cases k11 : k = 6
  · refine lv_tableIn (off := 101) (tgt := 102) hx hb dX2_ofFirst_1 (by rw [k11]; decide) (by rw [k11]; decide) (by rw [k11]; rfl) (by decide) ?_
    refine lv_iconst (v := 3) hx hb dX2_ofFirst_102 (by decide) ?_
    exact W.iret (v := 3) hx hb hr (fun t ht hW => ⟨3, rfl, by first | (subst k11; simp [px_s1, pu_nan]; done) | (simp [px_s1, k1, k2, k3, k4, k5, k6, k7, k8, k9, k10, k11]; done) | (subst k11; simp_all [px_s1]; done) | (simp_all [px_s1]; done), ht⟩) (fun q hq => by cases hq) dX2_ofFirst_103
  by_cases k12 : k = 7
  · refine lv_tableIn (off := 101) (tgt := 102) hx hb dX2_ofFirst_1 (by rw [k12]; decide) (by rw [k12]; decide) (by rw [k12]; rfl) (by decide) ?_
    refine lv_iconst (v := 3) hx hb dX2_ofFirst_102 (by decide) ?_
    exact W.iret (v := 3) hx hb hr (fun t ht hW => ⟨3, rfl, by first | (subst k12; simp [px_s1, pu_nan]; done) | (simp [px_s1, k1, k2, k3, k4, k5, k6, k7, k8, k9, k10, k11, k12]; done) | (subst k12; simp_all [px_s1]; done) | (simp_all [px_s1]; done), ht⟩) (fun q hq => by cases hq) dX2_ofFirst_103
  by_cases k13 : k = 8
  · refine lv_tableIn (off := 101) (tgt := 102) hx hb dX2_ofFirst_1 (by rw [k13]; decide) (by rw [k13]; decide) (by rw [k13]; rfl) (by decide) ?_
    refine lv_iconst (v := 3) hx hb dX2_ofFirst_102 (by decide) ?_
    exact W.iret (v := 3) hx hb hr (fun t ht hW => ⟨3, rfl, by first | (subst k13; simp [px_s1, pu_nan]; done) | (simp [px_s1, k1, k2, k3, k4, k5, k6, k7, k8, k9, k10, k11, k12, k13]; done) | (subst k13; simp_all [px_s1]; done) | (simp_all [px_s1]; done), ht⟩) (fun q hq => by cases hq) dX2_ofFirst_103
  by_cases k14 : k = 10
  · refine lv_tableIn (off := 101) (tgt := 102) hx hb dX2_ofFirst_1 (by rw [k14]; decide) (by rw [k14]; decide) (by rw [k14]; rfl) (by decide) ?_
    refine lv_iconst (v := 3) hx hb dX2_ofFirst_102 (by decide) ?_
    exact W.iret (v := 3) hx hb hr (fun t ht hW => ⟨3, rfl, by first | (subst k14; simp [px_s1, pu_nan]; done) | (simp [px_s1, k1, k2, k3, k4, k5, k6, k7, k8, k9, k10, k11, k12, k13, k14]; done) | (subst k14; simp_all [px_s1]; done) | (simp_all [px_s1]; done), ht⟩) (fun q hq => by cases hq) dX2_ofFirst_103
  by_cases k15 : k = 11
  · refine lv_tableIn (off := 101) (tgt := 102) hx hb dX2_ofFirst_1 (by rw [k15]; decide) (by rw [k15]; decide) (by rw [k15]; rfl) (by decide) ?_
    refine lv_iconst (v := 3) hx hb dX2_ofFirst_102 (by decide) ?_
    exact W.iret (v := 3) hx hb hr (fun t ht hW => ⟨3, rfl, by first | (subst k15; simp [px_s1, pu_nan]; done) | (simp [px_s1, k1, k2, k3, k4, k5, k6, k7, k8, k9, k10, k11, k12, k13, k14, k15]; done) | (subst k15; simp_all [px_s1]; done) | (simp_all [px_s1]; done), ht⟩) (fun q hq => by cases hq) dX2_ofFirst_103
  by_cases k16 : k = 12
  · refine lv_tableIn (off := 101) (tgt := 102) hx hb dX2_ofFirst_1 (by rw [k16]; decide) (by rw [k16]; decide) (by rw [k16]; rfl) (by decide) ?_
    refine lv_iconst (v := 3) hx hb dX2_ofFirst_102 (by decide) ?_
    exact W.iret (v := 3) hx hb hr (fun t ht hW => ⟨3, rfl, by first | (subst k16; simp [px_s1, pu_nan]; done) | (simp [px_s1, k1, k2, k3, k4, k5, k6, k7, k8, k9, k10, k11, k12, k13, k14, k15, k16]; done) | (subst k16; simp_all [px_s1]; done) | (simp_all [px_s1]; done), ht⟩) (fun q hq => by cases hq) dX2_ofFirst_103
  by_cases k17 : k = 13
  · refine lv_tableIn (off := 101) (tgt := 102) hx hb dX2_ofFirst_1 (by rw [k17]; decide) (by rw [k17]; decide) (by rw [k17]; rfl) (by decide) ?_
    refine lv_iconst (v := 3) hx hb dX2_ofFirst_102 (by decide) ?_
    exact W.iret (v := 3) hx hb hr (fun t ht hW => ⟨3, rfl, by first | (subst k17; simp [px_s1, pu_nan]; done) | (simp [px_s1, k1, k2, k3, k4, k5, k6, k7, k8, k9, k10, k11, k12, k13, k14, k15, k16, k17]; done) | (subst k17; simp_all [px_s1]; done) | (simp_all [px_s1]; done), ht⟩) (fun q hq => by cases hq) dX2_ofFirst_103
  by_cases k18 : k = 14
  · refine lv_tableIn (off := 101) (tgt := 102) hx hb dX2_ofFirst_1 (by rw [k18]; decide) (by rw [k18]; decide) (by rw [k18]; rfl) (by decide) ?_
    refine lv_iconst (v := 3) hx hb dX2_ofFirst_102 (by decide) ?_
    exact W.iret (v := 3) hx hb hr (fun t ht hW => ⟨3, rfl, by first | (subst k18; simp [px_s1, pu_nan]; done) | (simp [px_s1, k1, k2, k3, k4, k5, k6, k7, k8, k9, k10, k11, k12, k13, k14, k15, k16, k17, k18]; done) | (subst k18; simp_all [px_s1]; done) | (simp_all [px_s1]; done), ht⟩) (fun q hq => by cases hq) dX2_ofFirst_103
  by_cases k19 : k = 15
  · refine lv_tableIn (off := 101) (tgt := 102) hx hb dX2_ofFirst_1 (by rw [k19]; decide) (by rw [k19]; decide) (by rw [k19]; rfl) (by decide) ?_
    refine lv_iconst (v := 3) hx hb dX2_ofFirst_102 (by decide) ?_
    exact W.iret (v := 3) hx hb hr (fun t ht hW => ⟨3, rfl, by first | (subst k19; simp [px_s1, pu_nan]; done) | (simp [px_s1, k1, k2, k3, k4, k5, k6, k7, k8, k9, k10, k11, k12, k13, k14, k15, k16, k17, k18, k19]; done) | (subst k19; simp_all [px_s1]; done) | (simp_all [px_s1]; done), ht⟩) (fun q hq => by cases hq) dX2_ofFirst_103
  by_cases k20 : k = 16
  · refine lv_tableIn (off := 101) (tgt := 102) hx hb dX2_ofFirst_1 (by rw [k20]; decide) (by rw [k20]; decide) (by rw [k20]; rfl) (by decide) ?_
    refine lv_iconst (v := 3) hx hb dX2_ofFirst_102 (by decide) ?_
    exact W.iret (v := 3) hx hb hr (fun t ht hW => ⟨3, rfl, by first | (subst k20; simp [px_s1, pu_nan]; done) | (simp [px_s1, k1, k2, k3, k4, k5, k6, k7, k8, k9, k10, k11, k12, k13, k14, k15, k16, k17, k18, k19, k20]; done) | (subst k20; simp_all [px_s1]; done) | (simp_all [px_s1]; done), ht⟩) (fun q hq => by cases hq) dX2_ofFirst_103
  refine lv_tableOut (tgt := 102) hx hb dX2_ofFirst_1 (sw_out 0 19 (by decide) (fun j h1 h2 e => ?_)) (by decide) ?_
  · rcases (show j = 0 ∨ j = 1 ∨ j = 2 ∨ j = 3 ∨ j = 4 ∨ j = 5 ∨ j = 6 ∨ j = 7 ∨ j = 8 ∨ j = 9 ∨ j = 10 ∨ j = 11 ∨ j = 12 ∨ j = 13 ∨ j = 14 ∨ j = 15 ∨ j = 16 ∨ j = 17 ∨ j = 18 ∨ j = 19 by omega) with rfl | rfl | rfl | rfl | rfl | rfl | rfl | rfl | rfl | rfl | rfl | rfl | rfl | rfl | rfl | rfl | rfl | rfl | rfl | rfl
    · exact k1 e
    · exact k2 e
    · exact k7 e
    · exact k8 e
    · exact k9 e
    · exact k10 e
    · exact k11 e
    · exact k12 e
    · exact k13 e
    · exact k3 e
    · exact k14 e
    · exact k15 e
    · exact k16 e
    · exact k17 e
    · exact k18 e
    · exact k19 e
    · exact k20 e
    · exact k4 e
    · exact k5 e
    · exact k6 e
  refine lv_iconst (v := 3) hx hb dX2_ofFirst_102 (by decide) ?_
  exact W.iret (v := 3) hx hb hr (fun t ht hW => ⟨3, rfl, by first | (subst k20; simp [px_s1, pu_nan]; done) | (simp [px_s1, k1, k2, k3, k4, k5, k6, k7, k8, k9, k10, k11, k12, k13, k14, k15, k16, k17, k18, k19, k20]; done) | (subst k20; simp_all [px_s1]; done) | (simp_all [px_s1]; done), ht⟩) (fun q hq => by cases hq) dX2_ofFirst_103
set_option maxHeartbeats 4000000 in
set_option maxRecDepth 100000 in
theorem ctX2_ofSecond (l : Launch) (k : Int32) : Met l yX2_ofSecond wsX2_ofSecond ({ frames := 0, cells := 0, slots := 0, locals := 0 }) (va_Pc [.int k] (fun _ => True)) (vp_Si (fun r => r = px_s2 k)) 0 0 (fun _ => False) := by
  refine Met.ofW (cc := cX2_ofSecond) (maxL := 1) (ret := (some .int)) (by decide) rfl ?_
  intro p e s m args below meth c s₁ B hml hv
  obtain ⟨rfl, -⟩ := hv
  have hx := B.exec
  have hb := B.bytes
  have hr := B.returns
  have hts := atoms_spec (ws := wsX2_ofSecond) B.pre
  have hown : s.vm.findClass RX2 = some m.cls := findClass_of_methodNamed B.named
  have hlocks := B.notSynchronized
  have hl := lv_entry ([.int k]) (n := 1) (Nat.le_of_ble_eq_true rfl)
  rw [lg_entry_eq]
  generalize (lg_sl ([.int k]) ++ List.replicate (1 - (lg_sl ([.int k])).length) Slot.unset).toArray = ls at hl ⊢
  have hl : lv_has ls 1 [(0, .int k)] := hl
  refine lv_iload_n hx hb dX2_ofSecond_0 rfl (lv_at hl 0 rfl) ?_
  refine lv_iconst (v := 4) hx hb dX2_ofSecond_1 (by decide) ?_
  refine lv_icmp_lt (tgt := 13) hx hb dX2_ofSecond_2 (by decide) (fun h1 => ?_) (fun h1 => ?_)
  · skip
    have h1b := Int32.not_le.mpr h1
    refine lv_iload_n hx hb dX2_ofSecond_13 rfl (lv_at hl 0 rfl) ?_
    refine lv_bipush (v := 18) hx hb dX2_ofSecond_14 (by decide) ?_
    refine lv_icmp_eq (tgt := 25) hx hb dX2_ofSecond_16 (by decide) (fun h2 => ?_) (fun h2 => ?_)
    · skip
      refine lv_iconst (v := 4) hx hb dX2_ofSecond_25 (by decide) ?_
      refine lv_goto (tgt := 30) hx hb dX2_ofSecond_26 (by decide) ?_
      exact W.iret (v := 4) hx hb hr (fun t ht hW => ⟨4, rfl, by first | (simp only [px_s2, h1, h1b, h2, ↓reduceIte, not_true_eq_false, not_false_eq_true, and_true, true_and, and_false, false_and, or_true, true_or, or_false, false_or, and_self, or_self]; done) | (simp [px_s2, h1, h1b, h2]; done) | (simp_all [px_s2]; done), ht⟩) (fun q hq => by cases hq) dX2_ofSecond_30
    · skip
      refine lv_iload_n hx hb dX2_ofSecond_19 rfl (lv_at hl 0 rfl) ?_
      refine lv_bipush (v := 19) hx hb dX2_ofSecond_20 (by decide) ?_
      refine lv_icmp_ne (tgt := 29) hx hb dX2_ofSecond_22 (by decide) (fun h3 => ?_) (fun h3 => ?_)
      · skip
        refine lv_iconst (v := 0) hx hb dX2_ofSecond_29 (by decide) ?_
        exact W.iret (v := 0) hx hb hr (fun t ht hW => ⟨0, rfl, by first | (simp only [px_s2, h1, h1b, h2, h3, ↓reduceIte, not_true_eq_false, not_false_eq_true, and_true, true_and, and_false, false_and, or_true, true_or, or_false, false_or, and_self, or_self]; done) | (simp [px_s2, h1, h1b, h2, h3]; done) | (simp_all [px_s2]; done), ht⟩) (fun q hq => by cases hq) dX2_ofSecond_30
      · skip
        refine lv_iconst (v := 4) hx hb dX2_ofSecond_25 (by decide) ?_
        refine lv_goto (tgt := 30) hx hb dX2_ofSecond_26 (by decide) ?_
        exact W.iret (v := 4) hx hb hr (fun t ht hW => ⟨4, rfl, by first | (simp only [px_s2, h1, h1b, h2, h3, ↓reduceIte, not_true_eq_false, not_false_eq_true, and_true, true_and, and_false, false_and, or_true, true_or, or_false, false_or, and_self, or_self]; done) | (simp [px_s2, h1, h1b, h2, h3]; done) | (simp_all [px_s2]; done), ht⟩) (fun q hq => by cases hq) dX2_ofSecond_30
  · skip
    have h1b := Int32.not_lt.mp h1
    refine lv_iload_n hx hb dX2_ofSecond_5 rfl (lv_at hl 0 rfl) ?_
    refine lv_bipush (v := 13) hx hb dX2_ofSecond_6 (by decide) ?_
    refine lv_icmp_gt (tgt := 13) hx hb dX2_ofSecond_8 (by decide) (fun h4 => ?_) (fun h4 => ?_)
    · skip
      have h4b := Int32.not_le.mpr h4
      refine lv_iload_n hx hb dX2_ofSecond_13 rfl (lv_at hl 0 rfl) ?_
      refine lv_bipush (v := 18) hx hb dX2_ofSecond_14 (by decide) ?_
      refine lv_icmp_eq (tgt := 25) hx hb dX2_ofSecond_16 (by decide) (fun h5 => ?_) (fun h5 => ?_)
      · skip
        refine lv_iconst (v := 4) hx hb dX2_ofSecond_25 (by decide) ?_
        refine lv_goto (tgt := 30) hx hb dX2_ofSecond_26 (by decide) ?_
        exact W.iret (v := 4) hx hb hr (fun t ht hW => ⟨4, rfl, by first | (simp only [px_s2, h1, h1b, h4, h4b, h5, ↓reduceIte, not_true_eq_false, not_false_eq_true, and_true, true_and, and_false, false_and, or_true, true_or, or_false, false_or, and_self, or_self]; done) | (simp [px_s2, h1, h1b, h4, h4b, h5]; done) | (simp_all [px_s2]; done), ht⟩) (fun q hq => by cases hq) dX2_ofSecond_30
      · skip
        refine lv_iload_n hx hb dX2_ofSecond_19 rfl (lv_at hl 0 rfl) ?_
        refine lv_bipush (v := 19) hx hb dX2_ofSecond_20 (by decide) ?_
        refine lv_icmp_ne (tgt := 29) hx hb dX2_ofSecond_22 (by decide) (fun h6 => ?_) (fun h6 => ?_)
        · skip
          refine lv_iconst (v := 0) hx hb dX2_ofSecond_29 (by decide) ?_
          exact W.iret (v := 0) hx hb hr (fun t ht hW => ⟨0, rfl, by first | (simp only [px_s2, h1, h1b, h4, h4b, h5, h6, ↓reduceIte, not_true_eq_false, not_false_eq_true, and_true, true_and, and_false, false_and, or_true, true_or, or_false, false_or, and_self, or_self]; done) | (simp [px_s2, h1, h1b, h4, h4b, h5, h6]; done) | (simp_all [px_s2]; done), ht⟩) (fun q hq => by cases hq) dX2_ofSecond_30
        · skip
          refine lv_iconst (v := 4) hx hb dX2_ofSecond_25 (by decide) ?_
          refine lv_goto (tgt := 30) hx hb dX2_ofSecond_26 (by decide) ?_
          exact W.iret (v := 4) hx hb hr (fun t ht hW => ⟨4, rfl, by first | (simp only [px_s2, h1, h1b, h4, h4b, h5, h6, ↓reduceIte, not_true_eq_false, not_false_eq_true, and_true, true_and, and_false, false_and, or_true, true_or, or_false, false_or, and_self, or_self]; done) | (simp [px_s2, h1, h1b, h4, h4b, h5, h6]; done) | (simp_all [px_s2]; done), ht⟩) (fun q hq => by cases hq) dX2_ofSecond_30
    · skip
      have h4b := Int32.not_lt.mp h4
      refine lv_iconst (v := 3) hx hb dX2_ofSecond_11 (by decide) ?_
      exact W.iret (v := 3) hx hb hr (fun t ht hW => ⟨3, rfl, by first | (simp only [px_s2, h1, h1b, h4, h4b, ↓reduceIte, not_true_eq_false, not_false_eq_true, and_true, true_and, and_false, false_and, or_true, true_or, or_false, false_or, and_self, or_self]; done) | (simp [px_s2, h1, h1b, h4, h4b]; done) | (simp_all [px_s2]; done), ht⟩) (fun q hq => by cases hq) dX2_ofSecond_12
set_option maxHeartbeats 4000000 in
set_option maxRecDepth 100000 in
theorem ctX2_ofThird (l : Launch) (k : Int32) : Met l yX2_ofThird wsX2_ofThird ({ frames := 0, cells := 0, slots := 0, locals := 0 }) (va_Pc [.int k] (fun _ => True)) (vp_Si (fun r => r = px_s3 k)) 0 0 (fun _ => False) := by
  refine Met.ofW (cc := cX2_ofThird) (maxL := 1) (ret := (some .int)) (by decide) rfl ?_
  intro p e s m args below meth c s₁ B hml hv
  obtain ⟨rfl, -⟩ := hv
  have hx := B.exec
  have hb := B.bytes
  have hr := B.returns
  have hts := atoms_spec (ws := wsX2_ofThird) B.pre
  have hown : s.vm.findClass RX2 = some m.cls := findClass_of_methodNamed B.named
  have hlocks := B.notSynchronized
  have hl := lv_entry ([.int k]) (n := 1) (Nat.le_of_ble_eq_true rfl)
  rw [lg_entry_eq]
  generalize (lg_sl ([.int k]) ++ List.replicate (1 - (lg_sl ([.int k])).length) Slot.unset).toArray = ls at hl ⊢
  have hl : lv_has ls 1 [(0, .int k)] := hl
  refine lv_iload_n hx hb dX2_ofThird_0 rfl (lv_at hl 0 rfl) ?_
  refine lv_bipush (v := 9) hx hb dX2_ofThird_1 (by decide) ?_
  refine lv_icmp_ne (tgt := 10) hx hb dX2_ofThird_3 (by decide) (fun h1 => ?_) (fun h1 => ?_)
  · skip
    refine lv_iconst (v := 0) hx hb dX2_ofThird_10 (by decide) ?_
    exact W.iret (v := 0) hx hb hr (fun t ht hW => ⟨0, rfl, by first | (simp only [px_s3, h1, ↓reduceIte, not_true_eq_false, not_false_eq_true, and_true, true_and, and_false, false_and, or_true, true_or, or_false, false_or, and_self, or_self]; done) | (simp [px_s3, h1]; done) | (simp_all [px_s3]; done), ht⟩) (fun q hq => by cases hq) dX2_ofThird_11
  · skip
    refine lv_iconst (v := 3) hx hb dX2_ofThird_6 (by decide) ?_
    refine lv_goto (tgt := 11) hx hb dX2_ofThird_7 (by decide) ?_
    exact W.iret (v := 3) hx hb hr (fun t ht hW => ⟨3, rfl, by first | (simp only [px_s3, h1, ↓reduceIte, not_true_eq_false, not_false_eq_true, and_true, true_and, and_false, false_and, or_true, true_or, or_false, false_or, and_self, or_self]; done) | (simp [px_s3, h1]; done) | (simp_all [px_s3]; done), ht⟩) (fun q hq => by cases hq) dX2_ofThird_11
set_option maxHeartbeats 4000000 in
set_option maxRecDepth 100000 in
theorem ctX2_isTerm (l : Launch) (s0 : Int32) : Met l yX2_isTerm wsX2_isTerm ({ frames := 0, cells := 0, slots := 0, locals := 0 }) (va_Pc [.int s0] (fun _ => True)) (vp_Si (fun r => r = px_ter s0)) 0 0 (fun _ => False) := by
  refine Met.ofW (cc := cX2_isTerm) (maxL := 1) (ret := (some .boolean)) (by decide) rfl ?_
  intro p e s m args below meth c s₁ B hml hv
  obtain ⟨rfl, -⟩ := hv
  have hx := B.exec
  have hb := B.bytes
  have hr := B.returns
  have hts := atoms_spec (ws := wsX2_isTerm) B.pre
  have hown : s.vm.findClass RX2 = some m.cls := findClass_of_methodNamed B.named
  have hlocks := B.notSynchronized
  have hl := lv_entry ([.int s0]) (n := 1) (Nat.le_of_ble_eq_true rfl)
  rw [lg_entry_eq]
  generalize (lg_sl ([.int s0]) ++ List.replicate (1 - (lg_sl ([.int s0])).length) Slot.unset).toArray = ls at hl ⊢
  have hl : lv_has ls 1 [(0, .int s0)] := hl
  refine lv_iload_n hx hb dX2_isTerm_0 rfl (lv_at hl 0 rfl) ?_
  refine lv_iconst (v := 3) hx hb dX2_isTerm_1 (by decide) ?_
  refine lv_icmp_eq (tgt := 10) hx hb dX2_isTerm_2 (by decide) (fun h1 => ?_) (fun h1 => ?_)
  · skip
    refine lv_iconst (v := 1) hx hb dX2_isTerm_10 (by decide) ?_
    refine lv_goto (tgt := 15) hx hb dX2_isTerm_11 (by decide) ?_
    exact W.zret (v := 1) hx hb hr (rfl) (fun t ht hW => ⟨1, rfl, by first | (simp only [px_ter, h1, ↓reduceIte, not_true_eq_false, not_false_eq_true, and_true, true_and, and_false, false_and, or_true, true_or, or_false, false_or, and_self, or_self]; done) | (simp [px_ter, h1]; done) | (simp_all [px_ter]; done), ht⟩) (fun q hq => by cases hq) dX2_isTerm_15
  · skip
    refine lv_iload_n hx hb dX2_isTerm_5 rfl (lv_at hl 0 rfl) ?_
    refine lv_iconst (v := 4) hx hb dX2_isTerm_6 (by decide) ?_
    refine lv_icmp_ne (tgt := 14) hx hb dX2_isTerm_7 (by decide) (fun h2 => ?_) (fun h2 => ?_)
    · skip
      refine lv_iconst (v := 0) hx hb dX2_isTerm_14 (by decide) ?_
      exact W.zret (v := 0) hx hb hr (rfl) (fun t ht hW => ⟨0, rfl, by first | (simp only [px_ter, h1, h2, ↓reduceIte, not_true_eq_false, not_false_eq_true, and_true, true_and, and_false, false_and, or_true, true_or, or_false, false_or, and_self, or_self]; done) | (simp [px_ter, h1, h2]; done) | (simp_all [px_ter]; done), ht⟩) (fun q hq => by cases hq) dX2_isTerm_15
    · skip
      refine lv_iconst (v := 1) hx hb dX2_isTerm_10 (by decide) ?_
      refine lv_goto (tgt := 15) hx hb dX2_isTerm_11 (by decide) ?_
      exact W.zret (v := 1) hx hb hr (rfl) (fun t ht hW => ⟨1, rfl, by first | (simp only [px_ter, h1, h2, ↓reduceIte, not_true_eq_false, not_false_eq_true, and_true, true_and, and_false, false_and, or_true, true_or, or_false, false_or, and_self, or_self]; done) | (simp [px_ter, h1, h2]; done) | (simp_all [px_ter]; done), ht⟩) (fun q hq => by cases hq) dX2_isTerm_15
end
section
set_option maxHeartbeats 4000000 in
set_option maxRecDepth 100000 in
theorem ctX5_add (l : Launch) (x y : Int32) : Met l yX5_add wsX5_add ({ frames := 2, cells := 0, slots := 0, locals := 46 }) (va_Pc [.int x, .int y] (fun _ => True)) (vp_Si (fun r => r = pm_add x y)) 0 0 (fun _ => False) := by
  refine Met.ofW (cc := cX5_add) (maxL := 3) (ret := (some .int)) (by decide) rfl ?_
  intro p e s m args below meth c s₁ B hml hv
  obtain ⟨rfl, -⟩ := hv
  have hx := B.exec
  have hb := B.bytes
  have hr := B.returns
  have hts := atoms_spec (ws := wsX5_add) B.pre
  have hown : s.vm.findClass RX5 = some m.cls := findClass_of_methodNamed B.named
  have hlocks := B.notSynchronized
  have hl := lv_entry ([.int x, .int y]) (n := 3) (Nat.le_of_ble_eq_true rfl)
  rw [lg_entry_eq]
  generalize (lg_sl ([.int x, .int y]) ++ List.replicate (3 - (lg_sl ([.int x, .int y])).length) Slot.unset).toArray = ls at hl ⊢
  have hl : lv_has ls 3 [(0, .int x), (1, .int y)] := hl
  refine lv_iload_n hx hb dX5_add_0 rfl (lv_at hl 0 rfl) ?_
  refine vp_callSi (W.runS (As := [.int x]) (rest := []) ⟨hx, hb, hml, hown, hts⟩ (ctX5_nan l x) (va_cwS 1 hts (wA_wsS wm_ml_X5_46 wm_st_X5_nan wm_in_X5 wm_cd_X5_nan) rfl rfl rfl (by decide +kernel) ⟨Nat.le_of_ble_eq_true rfl, Nat.le_of_ble_eq_true rfl⟩) ⟨fun a U g mk q => q, fun U hU hW => ⟨rfl, trivial⟩⟩ rfl rfl hl.1 rfl (lv_room (Nat.le_of_ble_eq_true rfl)) dX5_add_1 ⟨Nat.zero_le _, Nat.zero_le _⟩) (fun r1 er1 => ?_)
  subst er1
  refine lv_if_ne (tgt := 33) hx hb dX5_add_4 (by decide) (fun h2 => ?_) (fun h2 => ?_)
  · skip
    refine lv_bipush (v := 13) hx hb dX5_add_33 (by decide) ?_
    exact W.iret (v := 13) hx hb hr (fun t ht hW => ⟨13, rfl, by first | (simp only [pm_add, h2, ↓reduceIte, not_true_eq_false, not_false_eq_true, and_true, true_and, and_false, false_and, or_true, true_or, or_false, false_or, and_self, or_self]; done) | (simp [pm_add, h2]; done) | (simp_all [pm_add]; done), ht⟩) (fun q hq => by cases hq) dX5_add_35
  · skip
    refine lv_iload_n hx hb dX5_add_7 rfl (lv_at hl 1 rfl) ?_
    refine vp_callSi (W.runS (As := [.int y]) (rest := []) ⟨hx, hb, hml, hown, hts⟩ (ctX5_nan l y) (va_cwS 1 hts (wA_wsS wm_ml_X5_46 wm_st_X5_nan wm_in_X5 wm_cd_X5_nan) rfl rfl rfl (by decide +kernel) ⟨Nat.le_of_ble_eq_true rfl, Nat.le_of_ble_eq_true rfl⟩) ⟨fun a U g mk q => q, fun U hU hW => ⟨rfl, trivial⟩⟩ rfl rfl hl.1 rfl (lv_room (Nat.le_of_ble_eq_true rfl)) dX5_add_8 ⟨Nat.zero_le _, Nat.zero_le _⟩) (fun r3 er3 => ?_)
    subst er3
    refine lv_if_ne (tgt := 33) hx hb dX5_add_11 (by decide) (fun h4 => ?_) (fun h4 => ?_)
    · skip
      refine lv_bipush (v := 13) hx hb dX5_add_33 (by decide) ?_
      exact W.iret (v := 13) hx hb hr (fun t ht hW => ⟨13, rfl, by first | (simp only [pm_add, h2, h4, ↓reduceIte, not_true_eq_false, not_false_eq_true, and_true, true_and, and_false, false_and, or_true, true_or, or_false, false_or, and_self, or_self]; done) | (simp [pm_add, h2, h4]; done) | (simp_all [pm_add]; done), ht⟩) (fun q hq => by cases hq) dX5_add_35
    · skip
      refine lv_iload_n hx hb dX5_add_14 rfl (lv_at hl 0 rfl) ?_
      refine vp_callSi (W.runS (As := [.int x]) (rest := []) ⟨hx, hb, hml, hown, hts⟩ (ctX5_infinite l x) (va_cwS 1 hts (wA_wsS wm_ml_X5_38 wm_st_X5_infinite wm_in_X5 wm_cd_X5_infinite) rfl rfl rfl (by decide +kernel) ⟨Nat.le_of_ble_eq_true rfl, Nat.le_of_ble_eq_true rfl⟩) ⟨fun a U g mk q => q, fun U hU hW => ⟨rfl, trivial⟩⟩ rfl rfl hl.1 rfl (lv_room (Nat.le_of_ble_eq_true rfl)) dX5_add_15 ⟨Nat.zero_le _, Nat.zero_le _⟩) (fun r5 er5 => ?_)
      subst er5
      refine lv_if_eq (tgt := 36) hx hb dX5_add_18 (by decide) (fun h6 => ?_) (fun h6 => ?_)
      · skip
        refine lv_iload_n hx hb dX5_add_36 rfl (lv_at hl 0 rfl) ?_
        refine vp_callSi (W.runS (As := [.int x]) (rest := []) ⟨hx, hb, hml, hown, hts⟩ (ctX5_infinite l x) (va_cwS 1 hts (wA_wsS wm_ml_X5_38 wm_st_X5_infinite wm_in_X5 wm_cd_X5_infinite) rfl rfl rfl (by decide +kernel) ⟨Nat.le_of_ble_eq_true rfl, Nat.le_of_ble_eq_true rfl⟩) ⟨fun a U g mk q => q, fun U hU hW => ⟨rfl, trivial⟩⟩ rfl rfl hl.1 rfl (lv_room (Nat.le_of_ble_eq_true rfl)) dX5_add_37 ⟨Nat.zero_le _, Nat.zero_le _⟩) (fun r7 er7 => ?_)
        subst er7
        refine lv_if_eq (tgt := 45) hx hb dX5_add_40 (by decide) (fun h8 => ?_) (fun h8 => ?_)
        · skip
          refine lv_iload_n hx hb dX5_add_45 rfl (lv_at hl 1 rfl) ?_
          refine vp_callSi (W.runS (As := [.int y]) (rest := []) ⟨hx, hb, hml, hown, hts⟩ (ctX5_infinite l y) (va_cwS 1 hts (wA_wsS wm_ml_X5_38 wm_st_X5_infinite wm_in_X5 wm_cd_X5_infinite) rfl rfl rfl (by decide +kernel) ⟨Nat.le_of_ble_eq_true rfl, Nat.le_of_ble_eq_true rfl⟩) ⟨fun a U g mk q => q, fun U hU hW => ⟨rfl, trivial⟩⟩ rfl rfl hl.1 rfl (lv_room (Nat.le_of_ble_eq_true rfl)) dX5_add_46 ⟨Nat.zero_le _, Nat.zero_le _⟩) (fun r9 er9 => ?_)
          subst er9
          refine lv_if_eq (tgt := 54) hx hb dX5_add_49 (by decide) (fun h10 => ?_) (fun h10 => ?_)
          · skip
            refine lv_iload_n hx hb dX5_add_54 rfl (lv_at hl 0 rfl) ?_
            refine vp_callSi (W.runS (As := [.int x]) (rest := []) ⟨hx, hb, hml, hown, hts⟩ (ctX5_worthOf l x) (va_cwS 1 hts (wA_wsS wm_ml_X5_49 wm_st_X5_worthOf wm_in_X5 wm_cd_X5_worthOf) rfl rfl rfl (by decide +kernel) ⟨Nat.le_of_ble_eq_true rfl, Nat.le_of_ble_eq_true rfl⟩) ⟨fun a U g mk q => q, fun U hU hW => ⟨rfl, trivial⟩⟩ rfl rfl hl.1 rfl (lv_room (Nat.le_of_ble_eq_true rfl)) dX5_add_55 ⟨Nat.zero_le _, Nat.zero_le _⟩) (fun r11 er11 => ?_)
            subst er11
            refine lv_iload_n hx hb dX5_add_58 rfl (lv_at hl 1 rfl) ?_
            refine vp_callSi (W.runS (As := [.int y]) (rest := [.int (pm_wor x)]) ⟨hx, hb, hml, hown, hts⟩ (ctX5_worthOf l y) (va_cwS 1 hts (wA_wsS wm_ml_X5_49 wm_st_X5_worthOf wm_in_X5 wm_cd_X5_worthOf) rfl rfl rfl (by decide +kernel) ⟨Nat.le_of_ble_eq_true rfl, Nat.le_of_ble_eq_true rfl⟩) ⟨fun a U g mk q => q, fun U hU hW => ⟨rfl, trivial⟩⟩ rfl rfl hl.1 rfl (lv_room (Nat.le_of_ble_eq_true rfl)) dX5_add_59 ⟨Nat.zero_le _, Nat.zero_le _⟩) (fun r12 er12 => ?_)
            subst er12
            refine lv_iadd hx hb dX5_add_62 ?_
            refine lv_istore_n (lv' := [(2, .int ((pm_wor x) + (pm_wor y))), (0, .int x), (1, .int y)]) hx hb dX5_add_63 rfl hl (by decide) rfl (fun ls hl => ?_)
            refine lv_iload_n hx hb dX5_add_64 rfl (lv_at hl 0 rfl) ?_
            refine lv_if_ne (tgt := 87) hx hb dX5_add_65 (by decide) (fun h13 => ?_) (fun h13 => ?_)
            · skip
              refine lv_iload_n hx hb dX5_add_87 rfl (lv_at hl 0 rfl) ?_
              refine lv_if_ge (tgt := 104) hx hb dX5_add_88 (by decide) (fun h14 => ?_) (fun h14 => ?_)
              · skip
                have h14b := Int32.not_lt.mpr h14
                refine lv_iconst (v := 4) hx hb dX5_add_104 (by decide) ?_
                refine lv_iload_n hx hb dX5_add_105 rfl (lv_at hl 0 rfl) ?_
                refine lv_imul hx hb dX5_add_106 ?_
                refine vp_callSi (W.runS (As := [.int (4 * ((pm_wor x) + (pm_wor y)))]) (rest := []) ⟨hx, hb, hml, hown, hts⟩ (ctX5_round l (4 * ((pm_wor x) + (pm_wor y)))) (va_cwS 1 hts (wA_wsS wm_ml_X5_52 wm_st_X5_round wm_in_X5 wm_cd_X5_round) rfl rfl rfl (by decide +kernel) ⟨Nat.le_of_ble_eq_true rfl, Nat.le_of_ble_eq_true rfl⟩) ⟨fun a U g mk q => q, fun U hU hW => ⟨rfl, trivial⟩⟩ rfl rfl hl.1 rfl (lv_room (Nat.le_of_ble_eq_true rfl)) dX5_add_107 ⟨Nat.zero_le _, Nat.zero_le _⟩) (fun r15 er15 => ?_)
                subst er15
                exact W.iret (v := pm_rnd (4 * ((pm_wor x) + (pm_wor y)))) hx hb hr (fun t ht hW => ⟨pm_rnd (4 * ((pm_wor x) + (pm_wor y))), rfl, by first | (simp only [pm_add, h2, h4, h6, h8, h10, h13, h14, h14b, ↓reduceIte, not_true_eq_false, not_false_eq_true, and_true, true_and, and_false, false_and, or_true, true_or, or_false, false_or, and_self, or_self]; done) | (simp [pm_add, h2, h4, h6, h8, h10, h13, h14, h14b]; done) | (simp_all [pm_add]; done), ht⟩) (fun q hq => by cases hq) dX5_add_110
              · skip
                have h14b := Int32.not_le.mp h14
                refine lv_bipush (v := 16) hx hb dX5_add_91 (by decide) ?_
                refine lv_bipush (v := (-4)) hx hb dX5_add_93 (by decide) ?_
                refine lv_iload_n hx hb dX5_add_95 rfl (lv_at hl 0 rfl) ?_
                refine lv_imul hx hb dX5_add_96 ?_
                refine vp_callSi (W.runS (As := [.int ((-4) * ((pm_wor x) + (pm_wor y)))]) (rest := [.int 16]) ⟨hx, hb, hml, hown, hts⟩ (ctX5_round l ((-4) * ((pm_wor x) + (pm_wor y)))) (va_cwS 1 hts (wA_wsS wm_ml_X5_52 wm_st_X5_round wm_in_X5 wm_cd_X5_round) rfl rfl rfl (by decide +kernel) ⟨Nat.le_of_ble_eq_true rfl, Nat.le_of_ble_eq_true rfl⟩) ⟨fun a U g mk q => q, fun U hU hW => ⟨rfl, trivial⟩⟩ rfl rfl hl.1 rfl (lv_room (Nat.le_of_ble_eq_true rfl)) dX5_add_97 ⟨Nat.zero_le _, Nat.zero_le _⟩) (fun r16 er16 => ?_)
                subst er16
                refine lv_iadd hx hb dX5_add_100 ?_
                refine lv_goto (tgt := 110) hx hb dX5_add_101 (by decide) ?_
                exact W.iret (v := 16 + (pm_rnd ((-4) * ((pm_wor x) + (pm_wor y))))) hx hb hr (fun t ht hW => ⟨16 + (pm_rnd ((-4) * ((pm_wor x) + (pm_wor y)))), rfl, by first | (simp only [pm_add, h2, h4, h6, h8, h10, h13, h14, h14b, ↓reduceIte, not_true_eq_false, not_false_eq_true, and_true, true_and, and_false, false_and, or_true, true_or, or_false, false_or, and_self, or_self]; done) | (simp [pm_add, h2, h4, h6, h8, h10, h13, h14, h14b]; done) | (simp_all [pm_add]; done), ht⟩) (fun q hq => by cases hq) dX5_add_110
            · skip
              refine lv_iload_n hx hb dX5_add_68 rfl (lv_at hl 1 rfl) ?_
              refine lv_bipush (v := 16) hx hb dX5_add_69 (by decide) ?_
              refine lv_icmp_ne (tgt := 85) hx hb dX5_add_71 (by decide) (fun h17 => ?_) (fun h17 => ?_)
              · skip
                refine lv_iconst (v := 0) hx hb dX5_add_85 (by decide) ?_
                exact W.iret (v := 0) hx hb hr (fun t ht hW => ⟨0, rfl, by first | (simp only [pm_add, h2, h4, h6, h8, h10, h13, h17, ↓reduceIte, not_true_eq_false, not_false_eq_true, and_true, true_and, and_false, false_and, or_true, true_or, or_false, false_or, and_self, or_self]; done) | (simp [pm_add, h2, h4, h6, h8, h10, h13, h17]; done) | (simp_all [pm_add]; done), ht⟩) (fun q hq => by cases hq) dX5_add_86
              · skip
                refine lv_iload_n hx hb dX5_add_74 rfl (lv_at hl 2 rfl) ?_
                refine lv_bipush (v := 16) hx hb dX5_add_75 (by decide) ?_
                refine lv_icmp_ne (tgt := 85) hx hb dX5_add_77 (by decide) (fun h18 => ?_) (fun h18 => ?_)
                · skip
                  refine lv_iconst (v := 0) hx hb dX5_add_85 (by decide) ?_
                  exact W.iret (v := 0) hx hb hr (fun t ht hW => ⟨0, rfl, by first | (simp only [pm_add, h2, h4, h6, h8, h10, h13, h17, h18, ↓reduceIte, not_true_eq_false, not_false_eq_true, and_true, true_and, and_false, false_and, or_true, true_or, or_false, false_or, and_self, or_self]; done) | (simp [pm_add, h2, h4, h6, h8, h10, h13, h17, h18]; done) | (simp_all [pm_add]; done), ht⟩) (fun q hq => by cases hq) dX5_add_86
                · skip
                  refine lv_bipush (v := 16) hx hb dX5_add_80 (by decide) ?_
                  refine lv_goto (tgt := 86) hx hb dX5_add_82 (by decide) ?_
                  exact W.iret (v := 16) hx hb hr (fun t ht hW => ⟨16, rfl, by first | (simp only [pm_add, h2, h4, h6, h8, h10, h13, h17, h18, ↓reduceIte, not_true_eq_false, not_false_eq_true, and_true, true_and, and_false, false_and, or_true, true_or, or_false, false_or, and_self, or_self]; done) | (simp [pm_add, h2, h4, h6, h8, h10, h13, h17, h18]; done) | (simp_all [pm_add]; done), ht⟩) (fun q hq => by cases hq) dX5_add_86
          · skip
            refine lv_iload_n hx hb dX5_add_52 rfl (lv_at hl 1 rfl) ?_
            exact W.iret (v := y) hx hb hr (fun t ht hW => ⟨y, rfl, by first | (simp only [pm_add, h2, h4, h6, h8, h10, ↓reduceIte, not_true_eq_false, not_false_eq_true, and_true, true_and, and_false, false_and, or_true, true_or, or_false, false_or, and_self, or_self]; done) | (simp [pm_add, h2, h4, h6, h8, h10]; done) | (simp_all [pm_add]; done), ht⟩) (fun q hq => by cases hq) dX5_add_53
        · skip
          refine lv_iload_n hx hb dX5_add_43 rfl (lv_at hl 0 rfl) ?_
          exact W.iret (v := x) hx hb hr (fun t ht hW => ⟨x, rfl, by first | (simp only [pm_add, h2, h4, h6, h8, ↓reduceIte, not_true_eq_false, not_false_eq_true, and_true, true_and, and_false, false_and, or_true, true_or, or_false, false_or, and_self, or_self]; done) | (simp [pm_add, h2, h4, h6, h8]; done) | (simp_all [pm_add]; done), ht⟩) (fun q hq => by cases hq) dX5_add_44
      · skip
        refine lv_iload_n hx hb dX5_add_21 rfl (lv_at hl 1 rfl) ?_
        refine vp_callSi (W.runS (As := [.int y]) (rest := []) ⟨hx, hb, hml, hown, hts⟩ (ctX5_infinite l y) (va_cwS 1 hts (wA_wsS wm_ml_X5_38 wm_st_X5_infinite wm_in_X5 wm_cd_X5_infinite) rfl rfl rfl (by decide +kernel) ⟨Nat.le_of_ble_eq_true rfl, Nat.le_of_ble_eq_true rfl⟩) ⟨fun a U g mk q => q, fun U hU hW => ⟨rfl, trivial⟩⟩ rfl rfl hl.1 rfl (lv_room (Nat.le_of_ble_eq_true rfl)) dX5_add_22 ⟨Nat.zero_le _, Nat.zero_le _⟩) (fun r19 er19 => ?_)
        subst er19
        refine lv_if_eq (tgt := 36) hx hb dX5_add_25 (by decide) (fun h20 => ?_) (fun h20 => ?_)
        · skip
          refine lv_iload_n hx hb dX5_add_36 rfl (lv_at hl 0 rfl) ?_
          refine vp_callSi (W.runS (As := [.int x]) (rest := []) ⟨hx, hb, hml, hown, hts⟩ (ctX5_infinite l x) (va_cwS 1 hts (wA_wsS wm_ml_X5_38 wm_st_X5_infinite wm_in_X5 wm_cd_X5_infinite) rfl rfl rfl (by decide +kernel) ⟨Nat.le_of_ble_eq_true rfl, Nat.le_of_ble_eq_true rfl⟩) ⟨fun a U g mk q => q, fun U hU hW => ⟨rfl, trivial⟩⟩ rfl rfl hl.1 rfl (lv_room (Nat.le_of_ble_eq_true rfl)) dX5_add_37 ⟨Nat.zero_le _, Nat.zero_le _⟩) (fun r21 er21 => ?_)
          subst er21
          refine lv_if_eq (tgt := 45) hx hb dX5_add_40 (by decide) (fun h22 => ?_) (fun h22 => ?_)
          · skip
            refine lv_iload_n hx hb dX5_add_45 rfl (lv_at hl 1 rfl) ?_
            refine vp_callSi (W.runS (As := [.int y]) (rest := []) ⟨hx, hb, hml, hown, hts⟩ (ctX5_infinite l y) (va_cwS 1 hts (wA_wsS wm_ml_X5_38 wm_st_X5_infinite wm_in_X5 wm_cd_X5_infinite) rfl rfl rfl (by decide +kernel) ⟨Nat.le_of_ble_eq_true rfl, Nat.le_of_ble_eq_true rfl⟩) ⟨fun a U g mk q => q, fun U hU hW => ⟨rfl, trivial⟩⟩ rfl rfl hl.1 rfl (lv_room (Nat.le_of_ble_eq_true rfl)) dX5_add_46 ⟨Nat.zero_le _, Nat.zero_le _⟩) (fun r23 er23 => ?_)
            subst er23
            refine lv_if_eq (tgt := 54) hx hb dX5_add_49 (by decide) (fun h24 => ?_) (fun h24 => ?_)
            · skip
              refine lv_iload_n hx hb dX5_add_54 rfl (lv_at hl 0 rfl) ?_
              refine vp_callSi (W.runS (As := [.int x]) (rest := []) ⟨hx, hb, hml, hown, hts⟩ (ctX5_worthOf l x) (va_cwS 1 hts (wA_wsS wm_ml_X5_49 wm_st_X5_worthOf wm_in_X5 wm_cd_X5_worthOf) rfl rfl rfl (by decide +kernel) ⟨Nat.le_of_ble_eq_true rfl, Nat.le_of_ble_eq_true rfl⟩) ⟨fun a U g mk q => q, fun U hU hW => ⟨rfl, trivial⟩⟩ rfl rfl hl.1 rfl (lv_room (Nat.le_of_ble_eq_true rfl)) dX5_add_55 ⟨Nat.zero_le _, Nat.zero_le _⟩) (fun r25 er25 => ?_)
              subst er25
              refine lv_iload_n hx hb dX5_add_58 rfl (lv_at hl 1 rfl) ?_
              refine vp_callSi (W.runS (As := [.int y]) (rest := [.int (pm_wor x)]) ⟨hx, hb, hml, hown, hts⟩ (ctX5_worthOf l y) (va_cwS 1 hts (wA_wsS wm_ml_X5_49 wm_st_X5_worthOf wm_in_X5 wm_cd_X5_worthOf) rfl rfl rfl (by decide +kernel) ⟨Nat.le_of_ble_eq_true rfl, Nat.le_of_ble_eq_true rfl⟩) ⟨fun a U g mk q => q, fun U hU hW => ⟨rfl, trivial⟩⟩ rfl rfl hl.1 rfl (lv_room (Nat.le_of_ble_eq_true rfl)) dX5_add_59 ⟨Nat.zero_le _, Nat.zero_le _⟩) (fun r26 er26 => ?_)
              subst er26
              refine lv_iadd hx hb dX5_add_62 ?_
              refine lv_istore_n (lv' := [(2, .int ((pm_wor x) + (pm_wor y))), (0, .int x), (1, .int y)]) hx hb dX5_add_63 rfl hl (by decide) rfl (fun ls hl => ?_)
              refine lv_iload_n hx hb dX5_add_64 rfl (lv_at hl 0 rfl) ?_
              refine lv_if_ne (tgt := 87) hx hb dX5_add_65 (by decide) (fun h27 => ?_) (fun h27 => ?_)
              · skip
                refine lv_iload_n hx hb dX5_add_87 rfl (lv_at hl 0 rfl) ?_
                refine lv_if_ge (tgt := 104) hx hb dX5_add_88 (by decide) (fun h28 => ?_) (fun h28 => ?_)
                · skip
                  have h28b := Int32.not_lt.mpr h28
                  refine lv_iconst (v := 4) hx hb dX5_add_104 (by decide) ?_
                  refine lv_iload_n hx hb dX5_add_105 rfl (lv_at hl 0 rfl) ?_
                  refine lv_imul hx hb dX5_add_106 ?_
                  refine vp_callSi (W.runS (As := [.int (4 * ((pm_wor x) + (pm_wor y)))]) (rest := []) ⟨hx, hb, hml, hown, hts⟩ (ctX5_round l (4 * ((pm_wor x) + (pm_wor y)))) (va_cwS 1 hts (wA_wsS wm_ml_X5_52 wm_st_X5_round wm_in_X5 wm_cd_X5_round) rfl rfl rfl (by decide +kernel) ⟨Nat.le_of_ble_eq_true rfl, Nat.le_of_ble_eq_true rfl⟩) ⟨fun a U g mk q => q, fun U hU hW => ⟨rfl, trivial⟩⟩ rfl rfl hl.1 rfl (lv_room (Nat.le_of_ble_eq_true rfl)) dX5_add_107 ⟨Nat.zero_le _, Nat.zero_le _⟩) (fun r29 er29 => ?_)
                  subst er29
                  exact W.iret (v := pm_rnd (4 * ((pm_wor x) + (pm_wor y)))) hx hb hr (fun t ht hW => ⟨pm_rnd (4 * ((pm_wor x) + (pm_wor y))), rfl, by first | (simp only [pm_add, h2, h4, h6, h20, h22, h24, h27, h28, h28b, ↓reduceIte, not_true_eq_false, not_false_eq_true, and_true, true_and, and_false, false_and, or_true, true_or, or_false, false_or, and_self, or_self]; done) | (simp [pm_add, h2, h4, h6, h20, h22, h24, h27, h28, h28b]; done) | (simp_all [pm_add]; done), ht⟩) (fun q hq => by cases hq) dX5_add_110
                · skip
                  have h28b := Int32.not_le.mp h28
                  refine lv_bipush (v := 16) hx hb dX5_add_91 (by decide) ?_
                  refine lv_bipush (v := (-4)) hx hb dX5_add_93 (by decide) ?_
                  refine lv_iload_n hx hb dX5_add_95 rfl (lv_at hl 0 rfl) ?_
                  refine lv_imul hx hb dX5_add_96 ?_
                  refine vp_callSi (W.runS (As := [.int ((-4) * ((pm_wor x) + (pm_wor y)))]) (rest := [.int 16]) ⟨hx, hb, hml, hown, hts⟩ (ctX5_round l ((-4) * ((pm_wor x) + (pm_wor y)))) (va_cwS 1 hts (wA_wsS wm_ml_X5_52 wm_st_X5_round wm_in_X5 wm_cd_X5_round) rfl rfl rfl (by decide +kernel) ⟨Nat.le_of_ble_eq_true rfl, Nat.le_of_ble_eq_true rfl⟩) ⟨fun a U g mk q => q, fun U hU hW => ⟨rfl, trivial⟩⟩ rfl rfl hl.1 rfl (lv_room (Nat.le_of_ble_eq_true rfl)) dX5_add_97 ⟨Nat.zero_le _, Nat.zero_le _⟩) (fun r30 er30 => ?_)
                  subst er30
                  refine lv_iadd hx hb dX5_add_100 ?_
                  refine lv_goto (tgt := 110) hx hb dX5_add_101 (by decide) ?_
                  exact W.iret (v := 16 + (pm_rnd ((-4) * ((pm_wor x) + (pm_wor y))))) hx hb hr (fun t ht hW => ⟨16 + (pm_rnd ((-4) * ((pm_wor x) + (pm_wor y)))), rfl, by first | (simp only [pm_add, h2, h4, h6, h20, h22, h24, h27, h28, h28b, ↓reduceIte, not_true_eq_false, not_false_eq_true, and_true, true_and, and_false, false_and, or_true, true_or, or_false, false_or, and_self, or_self]; done) | (simp [pm_add, h2, h4, h6, h20, h22, h24, h27, h28, h28b]; done) | (simp_all [pm_add]; done), ht⟩) (fun q hq => by cases hq) dX5_add_110
              · skip
                refine lv_iload_n hx hb dX5_add_68 rfl (lv_at hl 1 rfl) ?_
                refine lv_bipush (v := 16) hx hb dX5_add_69 (by decide) ?_
                refine lv_icmp_ne (tgt := 85) hx hb dX5_add_71 (by decide) (fun h31 => ?_) (fun h31 => ?_)
                · skip
                  refine lv_iconst (v := 0) hx hb dX5_add_85 (by decide) ?_
                  exact W.iret (v := 0) hx hb hr (fun t ht hW => ⟨0, rfl, by first | (simp only [pm_add, h2, h4, h6, h20, h22, h24, h27, h31, ↓reduceIte, not_true_eq_false, not_false_eq_true, and_true, true_and, and_false, false_and, or_true, true_or, or_false, false_or, and_self, or_self]; done) | (simp [pm_add, h2, h4, h6, h20, h22, h24, h27, h31]; done) | (simp_all [pm_add]; done), ht⟩) (fun q hq => by cases hq) dX5_add_86
                · skip
                  refine lv_iload_n hx hb dX5_add_74 rfl (lv_at hl 2 rfl) ?_
                  refine lv_bipush (v := 16) hx hb dX5_add_75 (by decide) ?_
                  refine lv_icmp_ne (tgt := 85) hx hb dX5_add_77 (by decide) (fun h32 => ?_) (fun h32 => ?_)
                  · skip
                    refine lv_iconst (v := 0) hx hb dX5_add_85 (by decide) ?_
                    exact W.iret (v := 0) hx hb hr (fun t ht hW => ⟨0, rfl, by first | (simp only [pm_add, h2, h4, h6, h20, h22, h24, h27, h31, h32, ↓reduceIte, not_true_eq_false, not_false_eq_true, and_true, true_and, and_false, false_and, or_true, true_or, or_false, false_or, and_self, or_self]; done) | (simp [pm_add, h2, h4, h6, h20, h22, h24, h27, h31, h32]; done) | (simp_all [pm_add]; done), ht⟩) (fun q hq => by cases hq) dX5_add_86
                  · skip
                    refine lv_bipush (v := 16) hx hb dX5_add_80 (by decide) ?_
                    refine lv_goto (tgt := 86) hx hb dX5_add_82 (by decide) ?_
                    exact W.iret (v := 16) hx hb hr (fun t ht hW => ⟨16, rfl, by first | (simp only [pm_add, h2, h4, h6, h20, h22, h24, h27, h31, h32, ↓reduceIte, not_true_eq_false, not_false_eq_true, and_true, true_and, and_false, false_and, or_true, true_or, or_false, false_or, and_self, or_self]; done) | (simp [pm_add, h2, h4, h6, h20, h22, h24, h27, h31, h32]; done) | (simp_all [pm_add]; done), ht⟩) (fun q hq => by cases hq) dX5_add_86
            · skip
              refine lv_iload_n hx hb dX5_add_52 rfl (lv_at hl 1 rfl) ?_
              exact W.iret (v := y) hx hb hr (fun t ht hW => ⟨y, rfl, by first | (simp only [pm_add, h2, h4, h6, h20, h22, h24, ↓reduceIte, not_true_eq_false, not_false_eq_true, and_true, true_and, and_false, false_and, or_true, true_or, or_false, false_or, and_self, or_self]; done) | (simp [pm_add, h2, h4, h6, h20, h22, h24]; done) | (simp_all [pm_add]; done), ht⟩) (fun q hq => by cases hq) dX5_add_53
          · skip
            refine lv_iload_n hx hb dX5_add_43 rfl (lv_at hl 0 rfl) ?_
            exact W.iret (v := x) hx hb hr (fun t ht hW => ⟨x, rfl, by first | (simp only [pm_add, h2, h4, h6, h20, h22, ↓reduceIte, not_true_eq_false, not_false_eq_true, and_true, true_and, and_false, false_and, or_true, true_or, or_false, false_or, and_self, or_self]; done) | (simp [pm_add, h2, h4, h6, h20, h22]; done) | (simp_all [pm_add]; done), ht⟩) (fun q hq => by cases hq) dX5_add_44
        · skip
          refine lv_iload_n hx hb dX5_add_28 rfl (lv_at hl 0 rfl) ?_
          refine lv_iload_n hx hb dX5_add_29 rfl (lv_at hl 1 rfl) ?_
          refine lv_icmp_eq (tgt := 36) hx hb dX5_add_30 (by decide) (fun h33 => ?_) (fun h33 => ?_)
          · skip
            refine lv_iload_n hx hb dX5_add_36 rfl (lv_at hl 0 rfl) ?_
            refine vp_callSi (W.runS (As := [.int x]) (rest := []) ⟨hx, hb, hml, hown, hts⟩ (ctX5_infinite l x) (va_cwS 1 hts (wA_wsS wm_ml_X5_38 wm_st_X5_infinite wm_in_X5 wm_cd_X5_infinite) rfl rfl rfl (by decide +kernel) ⟨Nat.le_of_ble_eq_true rfl, Nat.le_of_ble_eq_true rfl⟩) ⟨fun a U g mk q => q, fun U hU hW => ⟨rfl, trivial⟩⟩ rfl rfl hl.1 rfl (lv_room (Nat.le_of_ble_eq_true rfl)) dX5_add_37 ⟨Nat.zero_le _, Nat.zero_le _⟩) (fun r34 er34 => ?_)
            subst er34
            refine lv_if_eq (tgt := 45) hx hb dX5_add_40 (by decide) (fun h35 => ?_) (fun h35 => ?_)
            · skip
              refine lv_iload_n hx hb dX5_add_45 rfl (lv_at hl 1 rfl) ?_
              refine vp_callSi (W.runS (As := [.int y]) (rest := []) ⟨hx, hb, hml, hown, hts⟩ (ctX5_infinite l y) (va_cwS 1 hts (wA_wsS wm_ml_X5_38 wm_st_X5_infinite wm_in_X5 wm_cd_X5_infinite) rfl rfl rfl (by decide +kernel) ⟨Nat.le_of_ble_eq_true rfl, Nat.le_of_ble_eq_true rfl⟩) ⟨fun a U g mk q => q, fun U hU hW => ⟨rfl, trivial⟩⟩ rfl rfl hl.1 rfl (lv_room (Nat.le_of_ble_eq_true rfl)) dX5_add_46 ⟨Nat.zero_le _, Nat.zero_le _⟩) (fun r36 er36 => ?_)
              subst er36
              refine lv_if_eq (tgt := 54) hx hb dX5_add_49 (by decide) (fun h37 => ?_) (fun h37 => ?_)
              · skip
                refine lv_iload_n hx hb dX5_add_54 rfl (lv_at hl 0 rfl) ?_
                refine vp_callSi (W.runS (As := [.int x]) (rest := []) ⟨hx, hb, hml, hown, hts⟩ (ctX5_worthOf l x) (va_cwS 1 hts (wA_wsS wm_ml_X5_49 wm_st_X5_worthOf wm_in_X5 wm_cd_X5_worthOf) rfl rfl rfl (by decide +kernel) ⟨Nat.le_of_ble_eq_true rfl, Nat.le_of_ble_eq_true rfl⟩) ⟨fun a U g mk q => q, fun U hU hW => ⟨rfl, trivial⟩⟩ rfl rfl hl.1 rfl (lv_room (Nat.le_of_ble_eq_true rfl)) dX5_add_55 ⟨Nat.zero_le _, Nat.zero_le _⟩) (fun r38 er38 => ?_)
                subst er38
                refine lv_iload_n hx hb dX5_add_58 rfl (lv_at hl 1 rfl) ?_
                refine vp_callSi (W.runS (As := [.int y]) (rest := [.int (pm_wor x)]) ⟨hx, hb, hml, hown, hts⟩ (ctX5_worthOf l y) (va_cwS 1 hts (wA_wsS wm_ml_X5_49 wm_st_X5_worthOf wm_in_X5 wm_cd_X5_worthOf) rfl rfl rfl (by decide +kernel) ⟨Nat.le_of_ble_eq_true rfl, Nat.le_of_ble_eq_true rfl⟩) ⟨fun a U g mk q => q, fun U hU hW => ⟨rfl, trivial⟩⟩ rfl rfl hl.1 rfl (lv_room (Nat.le_of_ble_eq_true rfl)) dX5_add_59 ⟨Nat.zero_le _, Nat.zero_le _⟩) (fun r39 er39 => ?_)
                subst er39
                refine lv_iadd hx hb dX5_add_62 ?_
                refine lv_istore_n (lv' := [(2, .int ((pm_wor x) + (pm_wor y))), (0, .int x), (1, .int y)]) hx hb dX5_add_63 rfl hl (by decide) rfl (fun ls hl => ?_)
                refine lv_iload_n hx hb dX5_add_64 rfl (lv_at hl 0 rfl) ?_
                refine lv_if_ne (tgt := 87) hx hb dX5_add_65 (by decide) (fun h40 => ?_) (fun h40 => ?_)
                · skip
                  refine lv_iload_n hx hb dX5_add_87 rfl (lv_at hl 0 rfl) ?_
                  refine lv_if_ge (tgt := 104) hx hb dX5_add_88 (by decide) (fun h41 => ?_) (fun h41 => ?_)
                  · skip
                    have h41b := Int32.not_lt.mpr h41
                    refine lv_iconst (v := 4) hx hb dX5_add_104 (by decide) ?_
                    refine lv_iload_n hx hb dX5_add_105 rfl (lv_at hl 0 rfl) ?_
                    refine lv_imul hx hb dX5_add_106 ?_
                    refine vp_callSi (W.runS (As := [.int (4 * ((pm_wor x) + (pm_wor y)))]) (rest := []) ⟨hx, hb, hml, hown, hts⟩ (ctX5_round l (4 * ((pm_wor x) + (pm_wor y)))) (va_cwS 1 hts (wA_wsS wm_ml_X5_52 wm_st_X5_round wm_in_X5 wm_cd_X5_round) rfl rfl rfl (by decide +kernel) ⟨Nat.le_of_ble_eq_true rfl, Nat.le_of_ble_eq_true rfl⟩) ⟨fun a U g mk q => q, fun U hU hW => ⟨rfl, trivial⟩⟩ rfl rfl hl.1 rfl (lv_room (Nat.le_of_ble_eq_true rfl)) dX5_add_107 ⟨Nat.zero_le _, Nat.zero_le _⟩) (fun r42 er42 => ?_)
                    subst er42
                    exact W.iret (v := pm_rnd (4 * ((pm_wor x) + (pm_wor y)))) hx hb hr (fun t ht hW => ⟨pm_rnd (4 * ((pm_wor x) + (pm_wor y))), rfl, by first | (simp only [pm_add, h2, h4, h6, h20, h33, h35, h37, h40, h41, h41b, ↓reduceIte, not_true_eq_false, not_false_eq_true, and_true, true_and, and_false, false_and, or_true, true_or, or_false, false_or, and_self, or_self]; done) | (simp [pm_add, h2, h4, h6, h20, h33, h35, h37, h40, h41, h41b]; done) | (simp_all [pm_add]; done), ht⟩) (fun q hq => by cases hq) dX5_add_110
                  · skip
                    have h41b := Int32.not_le.mp h41
                    refine lv_bipush (v := 16) hx hb dX5_add_91 (by decide) ?_
                    refine lv_bipush (v := (-4)) hx hb dX5_add_93 (by decide) ?_
                    refine lv_iload_n hx hb dX5_add_95 rfl (lv_at hl 0 rfl) ?_
                    refine lv_imul hx hb dX5_add_96 ?_
                    refine vp_callSi (W.runS (As := [.int ((-4) * ((pm_wor x) + (pm_wor y)))]) (rest := [.int 16]) ⟨hx, hb, hml, hown, hts⟩ (ctX5_round l ((-4) * ((pm_wor x) + (pm_wor y)))) (va_cwS 1 hts (wA_wsS wm_ml_X5_52 wm_st_X5_round wm_in_X5 wm_cd_X5_round) rfl rfl rfl (by decide +kernel) ⟨Nat.le_of_ble_eq_true rfl, Nat.le_of_ble_eq_true rfl⟩) ⟨fun a U g mk q => q, fun U hU hW => ⟨rfl, trivial⟩⟩ rfl rfl hl.1 rfl (lv_room (Nat.le_of_ble_eq_true rfl)) dX5_add_97 ⟨Nat.zero_le _, Nat.zero_le _⟩) (fun r43 er43 => ?_)
                    subst er43
                    refine lv_iadd hx hb dX5_add_100 ?_
                    refine lv_goto (tgt := 110) hx hb dX5_add_101 (by decide) ?_
                    exact W.iret (v := 16 + (pm_rnd ((-4) * ((pm_wor x) + (pm_wor y))))) hx hb hr (fun t ht hW => ⟨16 + (pm_rnd ((-4) * ((pm_wor x) + (pm_wor y)))), rfl, by first | (simp only [pm_add, h2, h4, h6, h20, h33, h35, h37, h40, h41, h41b, ↓reduceIte, not_true_eq_false, not_false_eq_true, and_true, true_and, and_false, false_and, or_true, true_or, or_false, false_or, and_self, or_self]; done) | (simp [pm_add, h2, h4, h6, h20, h33, h35, h37, h40, h41, h41b]; done) | (simp_all [pm_add]; done), ht⟩) (fun q hq => by cases hq) dX5_add_110
                · skip
                  refine lv_iload_n hx hb dX5_add_68 rfl (lv_at hl 1 rfl) ?_
                  refine lv_bipush (v := 16) hx hb dX5_add_69 (by decide) ?_
                  refine lv_icmp_ne (tgt := 85) hx hb dX5_add_71 (by decide) (fun h44 => ?_) (fun h44 => ?_)
                  · skip
                    refine lv_iconst (v := 0) hx hb dX5_add_85 (by decide) ?_
                    exact W.iret (v := 0) hx hb hr (fun t ht hW => ⟨0, rfl, by first | (simp only [pm_add, h2, h4, h6, h20, h33, h35, h37, h40, h44, ↓reduceIte, not_true_eq_false, not_false_eq_true, and_true, true_and, and_false, false_and, or_true, true_or, or_false, false_or, and_self, or_self]; done) | (simp [pm_add, h2, h4, h6, h20, h33, h35, h37, h40, h44]; done) | (simp_all [pm_add]; done), ht⟩) (fun q hq => by cases hq) dX5_add_86
                  · skip
                    refine lv_iload_n hx hb dX5_add_74 rfl (lv_at hl 2 rfl) ?_
                    refine lv_bipush (v := 16) hx hb dX5_add_75 (by decide) ?_
                    refine lv_icmp_ne (tgt := 85) hx hb dX5_add_77 (by decide) (fun h45 => ?_) (fun h45 => ?_)
                    · skip
                      refine lv_iconst (v := 0) hx hb dX5_add_85 (by decide) ?_
                      exact W.iret (v := 0) hx hb hr (fun t ht hW => ⟨0, rfl, by first | (simp only [pm_add, h2, h4, h6, h20, h33, h35, h37, h40, h44, h45, ↓reduceIte, not_true_eq_false, not_false_eq_true, and_true, true_and, and_false, false_and, or_true, true_or, or_false, false_or, and_self, or_self]; done) | (simp [pm_add, h2, h4, h6, h20, h33, h35, h37, h40, h44, h45]; done) | (simp_all [pm_add]; done), ht⟩) (fun q hq => by cases hq) dX5_add_86
                    · skip
                      refine lv_bipush (v := 16) hx hb dX5_add_80 (by decide) ?_
                      refine lv_goto (tgt := 86) hx hb dX5_add_82 (by decide) ?_
                      exact W.iret (v := 16) hx hb hr (fun t ht hW => ⟨16, rfl, by first | (simp only [pm_add, h2, h4, h6, h20, h33, h35, h37, h40, h44, h45, ↓reduceIte, not_true_eq_false, not_false_eq_true, and_true, true_and, and_false, false_and, or_true, true_or, or_false, false_or, and_self, or_self]; done) | (simp [pm_add, h2, h4, h6, h20, h33, h35, h37, h40, h44, h45]; done) | (simp_all [pm_add]; done), ht⟩) (fun q hq => by cases hq) dX5_add_86
              · skip
                refine lv_iload_n hx hb dX5_add_52 rfl (lv_at hl 1 rfl) ?_
                exact W.iret (v := y) hx hb hr (fun t ht hW => ⟨y, rfl, by first | (simp only [pm_add, h2, h4, h6, h20, h33, h35, h37, ↓reduceIte, not_true_eq_false, not_false_eq_true, and_true, true_and, and_false, false_and, or_true, true_or, or_false, false_or, and_self, or_self]; done) | (simp [pm_add, h2, h4, h6, h20, h33, h35, h37]; done) | (simp_all [pm_add]; done), ht⟩) (fun q hq => by cases hq) dX5_add_53
            · skip
              refine lv_iload_n hx hb dX5_add_43 rfl (lv_at hl 0 rfl) ?_
              exact W.iret (v := x) hx hb hr (fun t ht hW => ⟨x, rfl, by first | (simp only [pm_add, h2, h4, h6, h20, h33, h35, ↓reduceIte, not_true_eq_false, not_false_eq_true, and_true, true_and, and_false, false_and, or_true, true_or, or_false, false_or, and_self, or_self]; done) | (simp [pm_add, h2, h4, h6, h20, h33, h35]; done) | (simp_all [pm_add]; done), ht⟩) (fun q hq => by cases hq) dX5_add_44
          · skip
            refine lv_bipush (v := 13) hx hb dX5_add_33 (by decide) ?_
            exact W.iret (v := 13) hx hb hr (fun t ht hW => ⟨13, rfl, by first | (simp only [pm_add, h2, h4, h6, h20, h33, ↓reduceIte, not_true_eq_false, not_false_eq_true, and_true, true_and, and_false, false_and, or_true, true_or, or_false, false_or, and_self, or_self]; done) | (simp [pm_add, h2, h4, h6, h20, h33]; done) | (simp_all [pm_add]; done), ht⟩) (fun q hq => by cases hq) dX5_add_35
set_option maxHeartbeats 4000000 in
set_option maxRecDepth 100000 in
theorem ctX5_multiply (l : Launch) (x y : Int32) : Met l yX5_multiply wsX5_multiply ({ frames := 2, cells := 0, slots := 0, locals := 46 }) (va_Pc [.int x, .int y] (fun _ => True)) (vp_Si (fun r => r = pm_mul x y)) 0 0 (fun _ => False) := by
  refine Met.ofW (cc := cX5_multiply) (maxL := 3) (ret := (some .int)) (by decide) rfl ?_
  intro p e s m args below meth c s₁ B hml hv
  obtain ⟨rfl, -⟩ := hv
  have hx := B.exec
  have hb := B.bytes
  have hr := B.returns
  have hts := atoms_spec (ws := wsX5_multiply) B.pre
  have hown : s.vm.findClass RX5 = some m.cls := findClass_of_methodNamed B.named
  have hlocks := B.notSynchronized
  have hl := lv_entry ([.int x, .int y]) (n := 3) (Nat.le_of_ble_eq_true rfl)
  rw [lg_entry_eq]
  generalize (lg_sl ([.int x, .int y]) ++ List.replicate (3 - (lg_sl ([.int x, .int y])).length) Slot.unset).toArray = ls at hl ⊢
  have hl : lv_has ls 3 [(0, .int x), (1, .int y)] := hl
  refine lv_iload_n hx hb dX5_multiply_0 rfl (lv_at hl 0 rfl) ?_
  refine vp_callSi (W.runS (As := [.int x]) (rest := []) ⟨hx, hb, hml, hown, hts⟩ (ctX5_nan l x) (va_cwS 1 hts (wA_wsS wm_ml_X5_46 wm_st_X5_nan wm_in_X5 wm_cd_X5_nan) rfl rfl rfl (by decide +kernel) ⟨Nat.le_of_ble_eq_true rfl, Nat.le_of_ble_eq_true rfl⟩) ⟨fun a U g mk q => q, fun U hU hW => ⟨rfl, trivial⟩⟩ rfl rfl hl.1 rfl (lv_room (Nat.le_of_ble_eq_true rfl)) dX5_multiply_1 ⟨Nat.zero_le _, Nat.zero_le _⟩) (fun r1 er1 => ?_)
  subst er1
  refine lv_if_ne (tgt := 42) hx hb dX5_multiply_4 (by decide) (fun h2 => ?_) (fun h2 => ?_)
  · skip
    refine lv_bipush (v := 13) hx hb dX5_multiply_42 (by decide) ?_
    exact W.iret (v := 13) hx hb hr (fun t ht hW => ⟨13, rfl, by first | (simp only [pm_mul, h2, ↓reduceIte, not_true_eq_false, not_false_eq_true, and_true, true_and, and_false, false_and, or_true, true_or, or_false, false_or, and_self, or_self]; done) | (simp [pm_mul, h2]; done) | (simp_all [pm_mul]; done), ht⟩) (fun q hq => by cases hq) dX5_multiply_44
  · skip
    refine lv_iload_n hx hb dX5_multiply_7 rfl (lv_at hl 1 rfl) ?_
    refine vp_callSi (W.runS (As := [.int y]) (rest := []) ⟨hx, hb, hml, hown, hts⟩ (ctX5_nan l y) (va_cwS 1 hts (wA_wsS wm_ml_X5_46 wm_st_X5_nan wm_in_X5 wm_cd_X5_nan) rfl rfl rfl (by decide +kernel) ⟨Nat.le_of_ble_eq_true rfl, Nat.le_of_ble_eq_true rfl⟩) ⟨fun a U g mk q => q, fun U hU hW => ⟨rfl, trivial⟩⟩ rfl rfl hl.1 rfl (lv_room (Nat.le_of_ble_eq_true rfl)) dX5_multiply_8 ⟨Nat.zero_le _, Nat.zero_le _⟩) (fun r3 er3 => ?_)
    subst er3
    refine lv_if_ne (tgt := 42) hx hb dX5_multiply_11 (by decide) (fun h4 => ?_) (fun h4 => ?_)
    · skip
      refine lv_bipush (v := 13) hx hb dX5_multiply_42 (by decide) ?_
      exact W.iret (v := 13) hx hb hr (fun t ht hW => ⟨13, rfl, by first | (simp only [pm_mul, h2, h4, ↓reduceIte, not_true_eq_false, not_false_eq_true, and_true, true_and, and_false, false_and, or_true, true_or, or_false, false_or, and_self, or_self]; done) | (simp [pm_mul, h2, h4]; done) | (simp_all [pm_mul]; done), ht⟩) (fun q hq => by cases hq) dX5_multiply_44
    · skip
      refine lv_iload_n hx hb dX5_multiply_14 rfl (lv_at hl 0 rfl) ?_
      refine vp_callSi (W.runS (As := [.int x]) (rest := []) ⟨hx, hb, hml, hown, hts⟩ (ctX5_infinite l x) (va_cwS 1 hts (wA_wsS wm_ml_X5_38 wm_st_X5_infinite wm_in_X5 wm_cd_X5_infinite) rfl rfl rfl (by decide +kernel) ⟨Nat.le_of_ble_eq_true rfl, Nat.le_of_ble_eq_true rfl⟩) ⟨fun a U g mk q => q, fun U hU hW => ⟨rfl, trivial⟩⟩ rfl rfl hl.1 rfl (lv_room (Nat.le_of_ble_eq_true rfl)) dX5_multiply_15 ⟨Nat.zero_le _, Nat.zero_le _⟩) (fun r5 er5 => ?_)
      subst er5
      refine lv_if_eq (tgt := 28) hx hb dX5_multiply_18 (by decide) (fun h6 => ?_) (fun h6 => ?_)
      · skip
        refine lv_iload_n hx hb dX5_multiply_28 rfl (lv_at hl 1 rfl) ?_
        refine vp_callSi (W.runS (As := [.int y]) (rest := []) ⟨hx, hb, hml, hown, hts⟩ (ctX5_infinite l y) (va_cwS 1 hts (wA_wsS wm_ml_X5_38 wm_st_X5_infinite wm_in_X5 wm_cd_X5_infinite) rfl rfl rfl (by decide +kernel) ⟨Nat.le_of_ble_eq_true rfl, Nat.le_of_ble_eq_true rfl⟩) ⟨fun a U g mk q => q, fun U hU hW => ⟨rfl, trivial⟩⟩ rfl rfl hl.1 rfl (lv_room (Nat.le_of_ble_eq_true rfl)) dX5_multiply_29 ⟨Nat.zero_le _, Nat.zero_le _⟩) (fun r7 er7 => ?_)
        subst er7
        refine lv_if_eq (tgt := 45) hx hb dX5_multiply_32 (by decide) (fun h8 => ?_) (fun h8 => ?_)
        · skip
          refine lv_iload_n hx hb dX5_multiply_45 rfl (lv_at hl 0 rfl) ?_
          refine lv_iload_n hx hb dX5_multiply_46 rfl (lv_at hl 1 rfl) ?_
          refine lv_ixor hx hb dX5_multiply_47 ?_
          refine lv_bipush (v := 16) hx hb dX5_multiply_48 (by decide) ?_
          refine lv_iand hx hb dX5_multiply_50 ?_
          refine lv_istore_n (lv' := [(2, .int ((x ^^^ y) &&& 16)), (0, .int x), (1, .int y)]) hx hb dX5_multiply_51 rfl hl (by decide) rfl (fun ls hl => ?_)
          refine lv_iload_n hx hb dX5_multiply_52 rfl (lv_at hl 1 rfl) ?_
          refine vp_callSi (W.runS (As := [.int x]) (rest := []) ⟨hx, hb, hml, hown, hts⟩ (ctX5_infinite l x) (va_cwS 1 hts (wA_wsS wm_ml_X5_38 wm_st_X5_infinite wm_in_X5 wm_cd_X5_infinite) rfl rfl rfl (by decide +kernel) ⟨Nat.le_of_ble_eq_true rfl, Nat.le_of_ble_eq_true rfl⟩) ⟨fun a U g mk q => q, fun U hU hW => ⟨rfl, trivial⟩⟩ rfl rfl hl.1 rfl (lv_room (Nat.le_of_ble_eq_true rfl)) dX5_multiply_53 ⟨Nat.zero_le _, Nat.zero_le _⟩) (fun r9 er9 => ?_)
          subst er9
          refine lv_if_ne (tgt := 66) hx hb dX5_multiply_56 (by decide) (fun h10 => ?_) (fun h10 => ?_)
          · skip
            refine lv_iload_n hx hb dX5_multiply_66 rfl (lv_at hl 0 rfl) ?_
            refine lv_bipush (v := 12) hx hb dX5_multiply_67 (by decide) ?_
            refine lv_iadd hx hb dX5_multiply_69 ?_
            exact W.iret (v := ((x ^^^ y) &&& 16) + 12) hx hb hr (fun t ht hW => ⟨((x ^^^ y) &&& 16) + 12, rfl, by first | (simp only [pm_mul, h2, h4, h6, h8, h10, ↓reduceIte, not_true_eq_false, not_false_eq_true, and_true, true_and, and_false, false_and, or_true, true_or, or_false, false_or, and_self, or_self]; done) | (simp [pm_mul, h2, h4, h6, h8, h10]; done) | (simp_all [pm_mul]; done), ht⟩) (fun q hq => by cases hq) dX5_multiply_70
          · skip
            refine lv_iload_n hx hb dX5_multiply_59 rfl (lv_at hl 2 rfl) ?_
            refine vp_callSi (W.runS (As := [.int y]) (rest := []) ⟨hx, hb, hml, hown, hts⟩ (ctX5_infinite l y) (va_cwS 1 hts (wA_wsS wm_ml_X5_38 wm_st_X5_infinite wm_in_X5 wm_cd_X5_infinite) rfl rfl rfl (by decide +kernel) ⟨Nat.le_of_ble_eq_true rfl, Nat.le_of_ble_eq_true rfl⟩) ⟨fun a U g mk q => q, fun U hU hW => ⟨rfl, trivial⟩⟩ rfl rfl hl.1 rfl (lv_room (Nat.le_of_ble_eq_true rfl)) dX5_multiply_60 ⟨Nat.zero_le _, Nat.zero_le _⟩) (fun r11 er11 => ?_)
            subst er11
            refine lv_if_eq (tgt := 71) hx hb dX5_multiply_63 (by decide) (fun h12 => ?_) (fun h12 => ?_)
            · skip
              refine lv_iload_n hx hb dX5_multiply_71 rfl (lv_at hl 0 rfl) ?_
              refine lv_iload_n hx hb dX5_multiply_72 rfl (lv_at hl 1 rfl) ?_
              refine lv_bipush (v := 15) hx hb dX5_multiply_73 (by decide) ?_
              refine lv_iand hx hb dX5_multiply_75 ?_
              refine vp_callSi (W.runS (As := [.int (x &&& 15)]) (rest := [.int ((x ^^^ y) &&& 16)]) ⟨hx, hb, hml, hown, hts⟩ (ctX5_quarters l (x &&& 15)) (va_cwS 1 hts (wA_wsS wm_ml_X5_42 wm_st_X5_quarters wm_in_X5 wm_cd_X5_quarters) rfl rfl rfl (by decide +kernel) ⟨Nat.le_of_ble_eq_true rfl, Nat.le_of_ble_eq_true rfl⟩) ⟨fun a U g mk q => q, fun U hU hW => ⟨rfl, trivial⟩⟩ rfl rfl hl.1 rfl (lv_room (Nat.le_of_ble_eq_true rfl)) dX5_multiply_76 ⟨Nat.zero_le _, Nat.zero_le _⟩) (fun r13 er13 => ?_)
              subst er13
              refine lv_iload_n hx hb dX5_multiply_79 rfl (lv_at hl 2 rfl) ?_
              refine lv_bipush (v := 15) hx hb dX5_multiply_80 (by decide) ?_
              refine lv_iand hx hb dX5_multiply_82 ?_
              refine vp_callSi (W.runS (As := [.int (y &&& 15)]) (rest := [.int (pm_q (x &&& 15)), .int ((x ^^^ y) &&& 16)]) ⟨hx, hb, hml, hown, hts⟩ (ctX5_quarters l (y &&& 15)) (va_cwS 1 hts (wA_wsS wm_ml_X5_42 wm_st_X5_quarters wm_in_X5 wm_cd_X5_quarters) rfl rfl rfl (by decide +kernel) ⟨Nat.le_of_ble_eq_true rfl, Nat.le_of_ble_eq_true rfl⟩) ⟨fun a U g mk q => q, fun U hU hW => ⟨rfl, trivial⟩⟩ rfl rfl hl.1 rfl (lv_room (Nat.le_of_ble_eq_true rfl)) dX5_multiply_83 ⟨Nat.zero_le _, Nat.zero_le _⟩) (fun r14 er14 => ?_)
              subst er14
              refine lv_imul hx hb dX5_multiply_86 ?_
              refine vp_callSi (W.runS (As := [.int ((pm_q (x &&& 15)) * (pm_q (y &&& 15)))]) (rest := [.int ((x ^^^ y) &&& 16)]) ⟨hx, hb, hml, hown, hts⟩ (ctX5_round l ((pm_q (x &&& 15)) * (pm_q (y &&& 15)))) (va_cwS 1 hts (wA_wsS wm_ml_X5_52 wm_st_X5_round wm_in_X5 wm_cd_X5_round) rfl rfl rfl (by decide +kernel) ⟨Nat.le_of_ble_eq_true rfl, Nat.le_of_ble_eq_true rfl⟩) ⟨fun a U g mk q => q, fun U hU hW => ⟨rfl, trivial⟩⟩ rfl rfl hl.1 rfl (lv_room (Nat.le_of_ble_eq_true rfl)) dX5_multiply_87 ⟨Nat.zero_le _, Nat.zero_le _⟩) (fun r15 er15 => ?_)
              subst er15
              refine lv_iadd hx hb dX5_multiply_90 ?_
              exact W.iret (v := ((x ^^^ y) &&& 16) + (pm_rnd ((pm_q (x &&& 15)) * (pm_q (y &&& 15))))) hx hb hr (fun t ht hW => ⟨((x ^^^ y) &&& 16) + (pm_rnd ((pm_q (x &&& 15)) * (pm_q (y &&& 15)))), rfl, by first | (simp only [pm_mul, h2, h4, h6, h8, h10, h12, ↓reduceIte, not_true_eq_false, not_false_eq_true, and_true, true_and, and_false, false_and, or_true, true_or, or_false, false_or, and_self, or_self]; done) | (simp [pm_mul, h2, h4, h6, h8, h10, h12]; done) | (simp_all [pm_mul]; done), ht⟩) (fun q hq => by cases hq) dX5_multiply_91
            · skip
              refine lv_iload_n hx hb dX5_multiply_66 rfl (lv_at hl 0 rfl) ?_
              refine lv_bipush (v := 12) hx hb dX5_multiply_67 (by decide) ?_
              refine lv_iadd hx hb dX5_multiply_69 ?_
              exact W.iret (v := ((x ^^^ y) &&& 16) + 12) hx hb hr (fun t ht hW => ⟨((x ^^^ y) &&& 16) + 12, rfl, by first | (simp only [pm_mul, h2, h4, h6, h8, h10, h12, ↓reduceIte, not_true_eq_false, not_false_eq_true, and_true, true_and, and_false, false_and, or_true, true_or, or_false, false_or, and_self, or_self]; done) | (simp [pm_mul, h2, h4, h6, h8, h10, h12]; done) | (simp_all [pm_mul]; done), ht⟩) (fun q hq => by cases hq) dX5_multiply_70
        · skip
          refine lv_iload_n hx hb dX5_multiply_35 rfl (lv_at hl 0 rfl) ?_
          refine vp_callSi (W.runS (As := [.int x]) (rest := []) ⟨hx, hb, hml, hown, hts⟩ (ctX5_zero l x) (va_cwS 1 hts (wA_wsS wm_ml_X5_55 wm_st_X5_zero wm_in_X5 wm_cd_X5_zero) rfl rfl rfl (by decide +kernel) ⟨Nat.le_of_ble_eq_true rfl, Nat.le_of_ble_eq_true rfl⟩) ⟨fun a U g mk q => q, fun U hU hW => ⟨rfl, trivial⟩⟩ rfl rfl hl.1 rfl (lv_room (Nat.le_of_ble_eq_true rfl)) dX5_multiply_36 ⟨Nat.zero_le _, Nat.zero_le _⟩) (fun r16 er16 => ?_)
          subst er16
          refine lv_if_eq (tgt := 45) hx hb dX5_multiply_39 (by decide) (fun h17 => ?_) (fun h17 => ?_)
          · skip
            refine lv_iload_n hx hb dX5_multiply_45 rfl (lv_at hl 0 rfl) ?_
            refine lv_iload_n hx hb dX5_multiply_46 rfl (lv_at hl 1 rfl) ?_
            refine lv_ixor hx hb dX5_multiply_47 ?_
            refine lv_bipush (v := 16) hx hb dX5_multiply_48 (by decide) ?_
            refine lv_iand hx hb dX5_multiply_50 ?_
            refine lv_istore_n (lv' := [(2, .int ((x ^^^ y) &&& 16)), (0, .int x), (1, .int y)]) hx hb dX5_multiply_51 rfl hl (by decide) rfl (fun ls hl => ?_)
            refine lv_iload_n hx hb dX5_multiply_52 rfl (lv_at hl 1 rfl) ?_
            refine vp_callSi (W.runS (As := [.int x]) (rest := []) ⟨hx, hb, hml, hown, hts⟩ (ctX5_infinite l x) (va_cwS 1 hts (wA_wsS wm_ml_X5_38 wm_st_X5_infinite wm_in_X5 wm_cd_X5_infinite) rfl rfl rfl (by decide +kernel) ⟨Nat.le_of_ble_eq_true rfl, Nat.le_of_ble_eq_true rfl⟩) ⟨fun a U g mk q => q, fun U hU hW => ⟨rfl, trivial⟩⟩ rfl rfl hl.1 rfl (lv_room (Nat.le_of_ble_eq_true rfl)) dX5_multiply_53 ⟨Nat.zero_le _, Nat.zero_le _⟩) (fun r18 er18 => ?_)
            subst er18
            refine lv_if_ne (tgt := 66) hx hb dX5_multiply_56 (by decide) (fun h19 => ?_) (fun h19 => ?_)
            · skip
              refine lv_iload_n hx hb dX5_multiply_66 rfl (lv_at hl 0 rfl) ?_
              refine lv_bipush (v := 12) hx hb dX5_multiply_67 (by decide) ?_
              refine lv_iadd hx hb dX5_multiply_69 ?_
              exact W.iret (v := ((x ^^^ y) &&& 16) + 12) hx hb hr (fun t ht hW => ⟨((x ^^^ y) &&& 16) + 12, rfl, by first | (simp only [pm_mul, h2, h4, h6, h8, h17, h19, ↓reduceIte, not_true_eq_false, not_false_eq_true, and_true, true_and, and_false, false_and, or_true, true_or, or_false, false_or, and_self, or_self]; done) | (simp [pm_mul, h2, h4, h6, h8, h17, h19]; done) | (simp_all [pm_mul]; done), ht⟩) (fun q hq => by cases hq) dX5_multiply_70
            · skip
              refine lv_iload_n hx hb dX5_multiply_59 rfl (lv_at hl 2 rfl) ?_
              refine vp_callSi (W.runS (As := [.int y]) (rest := []) ⟨hx, hb, hml, hown, hts⟩ (ctX5_infinite l y) (va_cwS 1 hts (wA_wsS wm_ml_X5_38 wm_st_X5_infinite wm_in_X5 wm_cd_X5_infinite) rfl rfl rfl (by decide +kernel) ⟨Nat.le_of_ble_eq_true rfl, Nat.le_of_ble_eq_true rfl⟩) ⟨fun a U g mk q => q, fun U hU hW => ⟨rfl, trivial⟩⟩ rfl rfl hl.1 rfl (lv_room (Nat.le_of_ble_eq_true rfl)) dX5_multiply_60 ⟨Nat.zero_le _, Nat.zero_le _⟩) (fun r20 er20 => ?_)
              subst er20
              refine lv_if_eq (tgt := 71) hx hb dX5_multiply_63 (by decide) (fun h21 => ?_) (fun h21 => ?_)
              · skip
                refine lv_iload_n hx hb dX5_multiply_71 rfl (lv_at hl 0 rfl) ?_
                refine lv_iload_n hx hb dX5_multiply_72 rfl (lv_at hl 1 rfl) ?_
                refine lv_bipush (v := 15) hx hb dX5_multiply_73 (by decide) ?_
                refine lv_iand hx hb dX5_multiply_75 ?_
                refine vp_callSi (W.runS (As := [.int (x &&& 15)]) (rest := [.int ((x ^^^ y) &&& 16)]) ⟨hx, hb, hml, hown, hts⟩ (ctX5_quarters l (x &&& 15)) (va_cwS 1 hts (wA_wsS wm_ml_X5_42 wm_st_X5_quarters wm_in_X5 wm_cd_X5_quarters) rfl rfl rfl (by decide +kernel) ⟨Nat.le_of_ble_eq_true rfl, Nat.le_of_ble_eq_true rfl⟩) ⟨fun a U g mk q => q, fun U hU hW => ⟨rfl, trivial⟩⟩ rfl rfl hl.1 rfl (lv_room (Nat.le_of_ble_eq_true rfl)) dX5_multiply_76 ⟨Nat.zero_le _, Nat.zero_le _⟩) (fun r22 er22 => ?_)
                subst er22
                refine lv_iload_n hx hb dX5_multiply_79 rfl (lv_at hl 2 rfl) ?_
                refine lv_bipush (v := 15) hx hb dX5_multiply_80 (by decide) ?_
                refine lv_iand hx hb dX5_multiply_82 ?_
                refine vp_callSi (W.runS (As := [.int (y &&& 15)]) (rest := [.int (pm_q (x &&& 15)), .int ((x ^^^ y) &&& 16)]) ⟨hx, hb, hml, hown, hts⟩ (ctX5_quarters l (y &&& 15)) (va_cwS 1 hts (wA_wsS wm_ml_X5_42 wm_st_X5_quarters wm_in_X5 wm_cd_X5_quarters) rfl rfl rfl (by decide +kernel) ⟨Nat.le_of_ble_eq_true rfl, Nat.le_of_ble_eq_true rfl⟩) ⟨fun a U g mk q => q, fun U hU hW => ⟨rfl, trivial⟩⟩ rfl rfl hl.1 rfl (lv_room (Nat.le_of_ble_eq_true rfl)) dX5_multiply_83 ⟨Nat.zero_le _, Nat.zero_le _⟩) (fun r23 er23 => ?_)
                subst er23
                refine lv_imul hx hb dX5_multiply_86 ?_
                refine vp_callSi (W.runS (As := [.int ((pm_q (x &&& 15)) * (pm_q (y &&& 15)))]) (rest := [.int ((x ^^^ y) &&& 16)]) ⟨hx, hb, hml, hown, hts⟩ (ctX5_round l ((pm_q (x &&& 15)) * (pm_q (y &&& 15)))) (va_cwS 1 hts (wA_wsS wm_ml_X5_52 wm_st_X5_round wm_in_X5 wm_cd_X5_round) rfl rfl rfl (by decide +kernel) ⟨Nat.le_of_ble_eq_true rfl, Nat.le_of_ble_eq_true rfl⟩) ⟨fun a U g mk q => q, fun U hU hW => ⟨rfl, trivial⟩⟩ rfl rfl hl.1 rfl (lv_room (Nat.le_of_ble_eq_true rfl)) dX5_multiply_87 ⟨Nat.zero_le _, Nat.zero_le _⟩) (fun r24 er24 => ?_)
                subst er24
                refine lv_iadd hx hb dX5_multiply_90 ?_
                exact W.iret (v := ((x ^^^ y) &&& 16) + (pm_rnd ((pm_q (x &&& 15)) * (pm_q (y &&& 15))))) hx hb hr (fun t ht hW => ⟨((x ^^^ y) &&& 16) + (pm_rnd ((pm_q (x &&& 15)) * (pm_q (y &&& 15)))), rfl, by first | (simp only [pm_mul, h2, h4, h6, h8, h17, h19, h21, ↓reduceIte, not_true_eq_false, not_false_eq_true, and_true, true_and, and_false, false_and, or_true, true_or, or_false, false_or, and_self, or_self]; done) | (simp [pm_mul, h2, h4, h6, h8, h17, h19, h21]; done) | (simp_all [pm_mul]; done), ht⟩) (fun q hq => by cases hq) dX5_multiply_91
              · skip
                refine lv_iload_n hx hb dX5_multiply_66 rfl (lv_at hl 0 rfl) ?_
                refine lv_bipush (v := 12) hx hb dX5_multiply_67 (by decide) ?_
                refine lv_iadd hx hb dX5_multiply_69 ?_
                exact W.iret (v := ((x ^^^ y) &&& 16) + 12) hx hb hr (fun t ht hW => ⟨((x ^^^ y) &&& 16) + 12, rfl, by first | (simp only [pm_mul, h2, h4, h6, h8, h17, h19, h21, ↓reduceIte, not_true_eq_false, not_false_eq_true, and_true, true_and, and_false, false_and, or_true, true_or, or_false, false_or, and_self, or_self]; done) | (simp [pm_mul, h2, h4, h6, h8, h17, h19, h21]; done) | (simp_all [pm_mul]; done), ht⟩) (fun q hq => by cases hq) dX5_multiply_70
          · skip
            refine lv_bipush (v := 13) hx hb dX5_multiply_42 (by decide) ?_
            exact W.iret (v := 13) hx hb hr (fun t ht hW => ⟨13, rfl, by first | (simp only [pm_mul, h2, h4, h6, h8, h17, ↓reduceIte, not_true_eq_false, not_false_eq_true, and_true, true_and, and_false, false_and, or_true, true_or, or_false, false_or, and_self, or_self]; done) | (simp [pm_mul, h2, h4, h6, h8, h17]; done) | (simp_all [pm_mul]; done), ht⟩) (fun q hq => by cases hq) dX5_multiply_44
      · skip
        refine lv_iload_n hx hb dX5_multiply_21 rfl (lv_at hl 1 rfl) ?_
        refine vp_callSi (W.runS (As := [.int y]) (rest := []) ⟨hx, hb, hml, hown, hts⟩ (ctX5_zero l y) (va_cwS 1 hts (wA_wsS wm_ml_X5_55 wm_st_X5_zero wm_in_X5 wm_cd_X5_zero) rfl rfl rfl (by decide +kernel) ⟨Nat.le_of_ble_eq_true rfl, Nat.le_of_ble_eq_true rfl⟩) ⟨fun a U g mk q => q, fun U hU hW => ⟨rfl, trivial⟩⟩ rfl rfl hl.1 rfl (lv_room (Nat.le_of_ble_eq_true rfl)) dX5_multiply_22 ⟨Nat.zero_le _, Nat.zero_le _⟩) (fun r25 er25 => ?_)
        subst er25
        refine lv_if_ne (tgt := 42) hx hb dX5_multiply_25 (by decide) (fun h26 => ?_) (fun h26 => ?_)
        · skip
          refine lv_bipush (v := 13) hx hb dX5_multiply_42 (by decide) ?_
          exact W.iret (v := 13) hx hb hr (fun t ht hW => ⟨13, rfl, by first | (simp only [pm_mul, h2, h4, h6, h26, ↓reduceIte, not_true_eq_false, not_false_eq_true, and_true, true_and, and_false, false_and, or_true, true_or, or_false, false_or, and_self, or_self]; done) | (simp [pm_mul, h2, h4, h6, h26]; done) | (simp_all [pm_mul]; done), ht⟩) (fun q hq => by cases hq) dX5_multiply_44
        · skip
          refine lv_iload_n hx hb dX5_multiply_28 rfl (lv_at hl 1 rfl) ?_
          refine vp_callSi (W.runS (As := [.int y]) (rest := []) ⟨hx, hb, hml, hown, hts⟩ (ctX5_infinite l y) (va_cwS 1 hts (wA_wsS wm_ml_X5_38 wm_st_X5_infinite wm_in_X5 wm_cd_X5_infinite) rfl rfl rfl (by decide +kernel) ⟨Nat.le_of_ble_eq_true rfl, Nat.le_of_ble_eq_true rfl⟩) ⟨fun a U g mk q => q, fun U hU hW => ⟨rfl, trivial⟩⟩ rfl rfl hl.1 rfl (lv_room (Nat.le_of_ble_eq_true rfl)) dX5_multiply_29 ⟨Nat.zero_le _, Nat.zero_le _⟩) (fun r27 er27 => ?_)
          subst er27
          refine lv_if_eq (tgt := 45) hx hb dX5_multiply_32 (by decide) (fun h28 => ?_) (fun h28 => ?_)
          · skip
            refine lv_iload_n hx hb dX5_multiply_45 rfl (lv_at hl 0 rfl) ?_
            refine lv_iload_n hx hb dX5_multiply_46 rfl (lv_at hl 1 rfl) ?_
            refine lv_ixor hx hb dX5_multiply_47 ?_
            refine lv_bipush (v := 16) hx hb dX5_multiply_48 (by decide) ?_
            refine lv_iand hx hb dX5_multiply_50 ?_
            refine lv_istore_n (lv' := [(2, .int ((x ^^^ y) &&& 16)), (0, .int x), (1, .int y)]) hx hb dX5_multiply_51 rfl hl (by decide) rfl (fun ls hl => ?_)
            refine lv_iload_n hx hb dX5_multiply_52 rfl (lv_at hl 1 rfl) ?_
            refine vp_callSi (W.runS (As := [.int x]) (rest := []) ⟨hx, hb, hml, hown, hts⟩ (ctX5_infinite l x) (va_cwS 1 hts (wA_wsS wm_ml_X5_38 wm_st_X5_infinite wm_in_X5 wm_cd_X5_infinite) rfl rfl rfl (by decide +kernel) ⟨Nat.le_of_ble_eq_true rfl, Nat.le_of_ble_eq_true rfl⟩) ⟨fun a U g mk q => q, fun U hU hW => ⟨rfl, trivial⟩⟩ rfl rfl hl.1 rfl (lv_room (Nat.le_of_ble_eq_true rfl)) dX5_multiply_53 ⟨Nat.zero_le _, Nat.zero_le _⟩) (fun r29 er29 => ?_)
            subst er29
            refine lv_if_ne (tgt := 66) hx hb dX5_multiply_56 (by decide) (fun h30 => ?_) (fun h30 => ?_)
            · skip
              refine lv_iload_n hx hb dX5_multiply_66 rfl (lv_at hl 0 rfl) ?_
              refine lv_bipush (v := 12) hx hb dX5_multiply_67 (by decide) ?_
              refine lv_iadd hx hb dX5_multiply_69 ?_
              exact W.iret (v := ((x ^^^ y) &&& 16) + 12) hx hb hr (fun t ht hW => ⟨((x ^^^ y) &&& 16) + 12, rfl, by first | (simp only [pm_mul, h2, h4, h6, h26, h28, h30, ↓reduceIte, not_true_eq_false, not_false_eq_true, and_true, true_and, and_false, false_and, or_true, true_or, or_false, false_or, and_self, or_self]; done) | (simp [pm_mul, h2, h4, h6, h26, h28, h30]; done) | (simp_all [pm_mul]; done), ht⟩) (fun q hq => by cases hq) dX5_multiply_70
            · skip
              refine lv_iload_n hx hb dX5_multiply_59 rfl (lv_at hl 2 rfl) ?_
              refine vp_callSi (W.runS (As := [.int y]) (rest := []) ⟨hx, hb, hml, hown, hts⟩ (ctX5_infinite l y) (va_cwS 1 hts (wA_wsS wm_ml_X5_38 wm_st_X5_infinite wm_in_X5 wm_cd_X5_infinite) rfl rfl rfl (by decide +kernel) ⟨Nat.le_of_ble_eq_true rfl, Nat.le_of_ble_eq_true rfl⟩) ⟨fun a U g mk q => q, fun U hU hW => ⟨rfl, trivial⟩⟩ rfl rfl hl.1 rfl (lv_room (Nat.le_of_ble_eq_true rfl)) dX5_multiply_60 ⟨Nat.zero_le _, Nat.zero_le _⟩) (fun r31 er31 => ?_)
              subst er31
              refine lv_if_eq (tgt := 71) hx hb dX5_multiply_63 (by decide) (fun h32 => ?_) (fun h32 => ?_)
              · skip
                refine lv_iload_n hx hb dX5_multiply_71 rfl (lv_at hl 0 rfl) ?_
                refine lv_iload_n hx hb dX5_multiply_72 rfl (lv_at hl 1 rfl) ?_
                refine lv_bipush (v := 15) hx hb dX5_multiply_73 (by decide) ?_
                refine lv_iand hx hb dX5_multiply_75 ?_
                refine vp_callSi (W.runS (As := [.int (x &&& 15)]) (rest := [.int ((x ^^^ y) &&& 16)]) ⟨hx, hb, hml, hown, hts⟩ (ctX5_quarters l (x &&& 15)) (va_cwS 1 hts (wA_wsS wm_ml_X5_42 wm_st_X5_quarters wm_in_X5 wm_cd_X5_quarters) rfl rfl rfl (by decide +kernel) ⟨Nat.le_of_ble_eq_true rfl, Nat.le_of_ble_eq_true rfl⟩) ⟨fun a U g mk q => q, fun U hU hW => ⟨rfl, trivial⟩⟩ rfl rfl hl.1 rfl (lv_room (Nat.le_of_ble_eq_true rfl)) dX5_multiply_76 ⟨Nat.zero_le _, Nat.zero_le _⟩) (fun r33 er33 => ?_)
                subst er33
                refine lv_iload_n hx hb dX5_multiply_79 rfl (lv_at hl 2 rfl) ?_
                refine lv_bipush (v := 15) hx hb dX5_multiply_80 (by decide) ?_
                refine lv_iand hx hb dX5_multiply_82 ?_
                refine vp_callSi (W.runS (As := [.int (y &&& 15)]) (rest := [.int (pm_q (x &&& 15)), .int ((x ^^^ y) &&& 16)]) ⟨hx, hb, hml, hown, hts⟩ (ctX5_quarters l (y &&& 15)) (va_cwS 1 hts (wA_wsS wm_ml_X5_42 wm_st_X5_quarters wm_in_X5 wm_cd_X5_quarters) rfl rfl rfl (by decide +kernel) ⟨Nat.le_of_ble_eq_true rfl, Nat.le_of_ble_eq_true rfl⟩) ⟨fun a U g mk q => q, fun U hU hW => ⟨rfl, trivial⟩⟩ rfl rfl hl.1 rfl (lv_room (Nat.le_of_ble_eq_true rfl)) dX5_multiply_83 ⟨Nat.zero_le _, Nat.zero_le _⟩) (fun r34 er34 => ?_)
                subst er34
                refine lv_imul hx hb dX5_multiply_86 ?_
                refine vp_callSi (W.runS (As := [.int ((pm_q (x &&& 15)) * (pm_q (y &&& 15)))]) (rest := [.int ((x ^^^ y) &&& 16)]) ⟨hx, hb, hml, hown, hts⟩ (ctX5_round l ((pm_q (x &&& 15)) * (pm_q (y &&& 15)))) (va_cwS 1 hts (wA_wsS wm_ml_X5_52 wm_st_X5_round wm_in_X5 wm_cd_X5_round) rfl rfl rfl (by decide +kernel) ⟨Nat.le_of_ble_eq_true rfl, Nat.le_of_ble_eq_true rfl⟩) ⟨fun a U g mk q => q, fun U hU hW => ⟨rfl, trivial⟩⟩ rfl rfl hl.1 rfl (lv_room (Nat.le_of_ble_eq_true rfl)) dX5_multiply_87 ⟨Nat.zero_le _, Nat.zero_le _⟩) (fun r35 er35 => ?_)
                subst er35
                refine lv_iadd hx hb dX5_multiply_90 ?_
                exact W.iret (v := ((x ^^^ y) &&& 16) + (pm_rnd ((pm_q (x &&& 15)) * (pm_q (y &&& 15))))) hx hb hr (fun t ht hW => ⟨((x ^^^ y) &&& 16) + (pm_rnd ((pm_q (x &&& 15)) * (pm_q (y &&& 15)))), rfl, by first | (simp only [pm_mul, h2, h4, h6, h26, h28, h30, h32, ↓reduceIte, not_true_eq_false, not_false_eq_true, and_true, true_and, and_false, false_and, or_true, true_or, or_false, false_or, and_self, or_self]; done) | (simp [pm_mul, h2, h4, h6, h26, h28, h30, h32]; done) | (simp_all [pm_mul]; done), ht⟩) (fun q hq => by cases hq) dX5_multiply_91
              · skip
                refine lv_iload_n hx hb dX5_multiply_66 rfl (lv_at hl 0 rfl) ?_
                refine lv_bipush (v := 12) hx hb dX5_multiply_67 (by decide) ?_
                refine lv_iadd hx hb dX5_multiply_69 ?_
                exact W.iret (v := ((x ^^^ y) &&& 16) + 12) hx hb hr (fun t ht hW => ⟨((x ^^^ y) &&& 16) + 12, rfl, by first | (simp only [pm_mul, h2, h4, h6, h26, h28, h30, h32, ↓reduceIte, not_true_eq_false, not_false_eq_true, and_true, true_and, and_false, false_and, or_true, true_or, or_false, false_or, and_self, or_self]; done) | (simp [pm_mul, h2, h4, h6, h26, h28, h30, h32]; done) | (simp_all [pm_mul]; done), ht⟩) (fun q hq => by cases hq) dX5_multiply_70
          · skip
            refine lv_iload_n hx hb dX5_multiply_35 rfl (lv_at hl 0 rfl) ?_
            refine vp_callSi (W.runS (As := [.int x]) (rest := []) ⟨hx, hb, hml, hown, hts⟩ (ctX5_zero l x) (va_cwS 1 hts (wA_wsS wm_ml_X5_55 wm_st_X5_zero wm_in_X5 wm_cd_X5_zero) rfl rfl rfl (by decide +kernel) ⟨Nat.le_of_ble_eq_true rfl, Nat.le_of_ble_eq_true rfl⟩) ⟨fun a U g mk q => q, fun U hU hW => ⟨rfl, trivial⟩⟩ rfl rfl hl.1 rfl (lv_room (Nat.le_of_ble_eq_true rfl)) dX5_multiply_36 ⟨Nat.zero_le _, Nat.zero_le _⟩) (fun r36 er36 => ?_)
            subst er36
            refine lv_if_eq (tgt := 45) hx hb dX5_multiply_39 (by decide) (fun h37 => ?_) (fun h37 => ?_)
            · skip
              refine lv_iload_n hx hb dX5_multiply_45 rfl (lv_at hl 0 rfl) ?_
              refine lv_iload_n hx hb dX5_multiply_46 rfl (lv_at hl 1 rfl) ?_
              refine lv_ixor hx hb dX5_multiply_47 ?_
              refine lv_bipush (v := 16) hx hb dX5_multiply_48 (by decide) ?_
              refine lv_iand hx hb dX5_multiply_50 ?_
              refine lv_istore_n (lv' := [(2, .int ((x ^^^ y) &&& 16)), (0, .int x), (1, .int y)]) hx hb dX5_multiply_51 rfl hl (by decide) rfl (fun ls hl => ?_)
              refine lv_iload_n hx hb dX5_multiply_52 rfl (lv_at hl 1 rfl) ?_
              refine vp_callSi (W.runS (As := [.int x]) (rest := []) ⟨hx, hb, hml, hown, hts⟩ (ctX5_infinite l x) (va_cwS 1 hts (wA_wsS wm_ml_X5_38 wm_st_X5_infinite wm_in_X5 wm_cd_X5_infinite) rfl rfl rfl (by decide +kernel) ⟨Nat.le_of_ble_eq_true rfl, Nat.le_of_ble_eq_true rfl⟩) ⟨fun a U g mk q => q, fun U hU hW => ⟨rfl, trivial⟩⟩ rfl rfl hl.1 rfl (lv_room (Nat.le_of_ble_eq_true rfl)) dX5_multiply_53 ⟨Nat.zero_le _, Nat.zero_le _⟩) (fun r38 er38 => ?_)
              subst er38
              refine lv_if_ne (tgt := 66) hx hb dX5_multiply_56 (by decide) (fun h39 => ?_) (fun h39 => ?_)
              · skip
                refine lv_iload_n hx hb dX5_multiply_66 rfl (lv_at hl 0 rfl) ?_
                refine lv_bipush (v := 12) hx hb dX5_multiply_67 (by decide) ?_
                refine lv_iadd hx hb dX5_multiply_69 ?_
                exact W.iret (v := ((x ^^^ y) &&& 16) + 12) hx hb hr (fun t ht hW => ⟨((x ^^^ y) &&& 16) + 12, rfl, by first | (simp only [pm_mul, h2, h4, h6, h26, h28, h37, h39, ↓reduceIte, not_true_eq_false, not_false_eq_true, and_true, true_and, and_false, false_and, or_true, true_or, or_false, false_or, and_self, or_self]; done) | (simp [pm_mul, h2, h4, h6, h26, h28, h37, h39]; done) | (simp_all [pm_mul]; done), ht⟩) (fun q hq => by cases hq) dX5_multiply_70
              · skip
                refine lv_iload_n hx hb dX5_multiply_59 rfl (lv_at hl 2 rfl) ?_
                refine vp_callSi (W.runS (As := [.int y]) (rest := []) ⟨hx, hb, hml, hown, hts⟩ (ctX5_infinite l y) (va_cwS 1 hts (wA_wsS wm_ml_X5_38 wm_st_X5_infinite wm_in_X5 wm_cd_X5_infinite) rfl rfl rfl (by decide +kernel) ⟨Nat.le_of_ble_eq_true rfl, Nat.le_of_ble_eq_true rfl⟩) ⟨fun a U g mk q => q, fun U hU hW => ⟨rfl, trivial⟩⟩ rfl rfl hl.1 rfl (lv_room (Nat.le_of_ble_eq_true rfl)) dX5_multiply_60 ⟨Nat.zero_le _, Nat.zero_le _⟩) (fun r40 er40 => ?_)
                subst er40
                refine lv_if_eq (tgt := 71) hx hb dX5_multiply_63 (by decide) (fun h41 => ?_) (fun h41 => ?_)
                · skip
                  refine lv_iload_n hx hb dX5_multiply_71 rfl (lv_at hl 0 rfl) ?_
                  refine lv_iload_n hx hb dX5_multiply_72 rfl (lv_at hl 1 rfl) ?_
                  refine lv_bipush (v := 15) hx hb dX5_multiply_73 (by decide) ?_
                  refine lv_iand hx hb dX5_multiply_75 ?_
                  refine vp_callSi (W.runS (As := [.int (x &&& 15)]) (rest := [.int ((x ^^^ y) &&& 16)]) ⟨hx, hb, hml, hown, hts⟩ (ctX5_quarters l (x &&& 15)) (va_cwS 1 hts (wA_wsS wm_ml_X5_42 wm_st_X5_quarters wm_in_X5 wm_cd_X5_quarters) rfl rfl rfl (by decide +kernel) ⟨Nat.le_of_ble_eq_true rfl, Nat.le_of_ble_eq_true rfl⟩) ⟨fun a U g mk q => q, fun U hU hW => ⟨rfl, trivial⟩⟩ rfl rfl hl.1 rfl (lv_room (Nat.le_of_ble_eq_true rfl)) dX5_multiply_76 ⟨Nat.zero_le _, Nat.zero_le _⟩) (fun r42 er42 => ?_)
                  subst er42
                  refine lv_iload_n hx hb dX5_multiply_79 rfl (lv_at hl 2 rfl) ?_
                  refine lv_bipush (v := 15) hx hb dX5_multiply_80 (by decide) ?_
                  refine lv_iand hx hb dX5_multiply_82 ?_
                  refine vp_callSi (W.runS (As := [.int (y &&& 15)]) (rest := [.int (pm_q (x &&& 15)), .int ((x ^^^ y) &&& 16)]) ⟨hx, hb, hml, hown, hts⟩ (ctX5_quarters l (y &&& 15)) (va_cwS 1 hts (wA_wsS wm_ml_X5_42 wm_st_X5_quarters wm_in_X5 wm_cd_X5_quarters) rfl rfl rfl (by decide +kernel) ⟨Nat.le_of_ble_eq_true rfl, Nat.le_of_ble_eq_true rfl⟩) ⟨fun a U g mk q => q, fun U hU hW => ⟨rfl, trivial⟩⟩ rfl rfl hl.1 rfl (lv_room (Nat.le_of_ble_eq_true rfl)) dX5_multiply_83 ⟨Nat.zero_le _, Nat.zero_le _⟩) (fun r43 er43 => ?_)
                  subst er43
                  refine lv_imul hx hb dX5_multiply_86 ?_
                  refine vp_callSi (W.runS (As := [.int ((pm_q (x &&& 15)) * (pm_q (y &&& 15)))]) (rest := [.int ((x ^^^ y) &&& 16)]) ⟨hx, hb, hml, hown, hts⟩ (ctX5_round l ((pm_q (x &&& 15)) * (pm_q (y &&& 15)))) (va_cwS 1 hts (wA_wsS wm_ml_X5_52 wm_st_X5_round wm_in_X5 wm_cd_X5_round) rfl rfl rfl (by decide +kernel) ⟨Nat.le_of_ble_eq_true rfl, Nat.le_of_ble_eq_true rfl⟩) ⟨fun a U g mk q => q, fun U hU hW => ⟨rfl, trivial⟩⟩ rfl rfl hl.1 rfl (lv_room (Nat.le_of_ble_eq_true rfl)) dX5_multiply_87 ⟨Nat.zero_le _, Nat.zero_le _⟩) (fun r44 er44 => ?_)
                  subst er44
                  refine lv_iadd hx hb dX5_multiply_90 ?_
                  exact W.iret (v := ((x ^^^ y) &&& 16) + (pm_rnd ((pm_q (x &&& 15)) * (pm_q (y &&& 15))))) hx hb hr (fun t ht hW => ⟨((x ^^^ y) &&& 16) + (pm_rnd ((pm_q (x &&& 15)) * (pm_q (y &&& 15)))), rfl, by first | (simp only [pm_mul, h2, h4, h6, h26, h28, h37, h39, h41, ↓reduceIte, not_true_eq_false, not_false_eq_true, and_true, true_and, and_false, false_and, or_true, true_or, or_false, false_or, and_self, or_self]; done) | (simp [pm_mul, h2, h4, h6, h26, h28, h37, h39, h41]; done) | (simp_all [pm_mul]; done), ht⟩) (fun q hq => by cases hq) dX5_multiply_91
                · skip
                  refine lv_iload_n hx hb dX5_multiply_66 rfl (lv_at hl 0 rfl) ?_
                  refine lv_bipush (v := 12) hx hb dX5_multiply_67 (by decide) ?_
                  refine lv_iadd hx hb dX5_multiply_69 ?_
                  exact W.iret (v := ((x ^^^ y) &&& 16) + 12) hx hb hr (fun t ht hW => ⟨((x ^^^ y) &&& 16) + 12, rfl, by first | (simp only [pm_mul, h2, h4, h6, h26, h28, h37, h39, h41, ↓reduceIte, not_true_eq_false, not_false_eq_true, and_true, true_and, and_false, false_and, or_true, true_or, or_false, false_or, and_self, or_self]; done) | (simp [pm_mul, h2, h4, h6, h26, h28, h37, h39, h41]; done) | (simp_all [pm_mul]; done), ht⟩) (fun q hq => by cases hq) dX5_multiply_70
            · skip
              refine lv_bipush (v := 13) hx hb dX5_multiply_42 (by decide) ?_
              exact W.iret (v := 13) hx hb hr (fun t ht hW => ⟨13, rfl, by first | (simp only [pm_mul, h2, h4, h6, h26, h28, h37, ↓reduceIte, not_true_eq_false, not_false_eq_true, and_true, true_and, and_false, false_and, or_true, true_or, or_false, false_or, and_self, or_self]; done) | (simp [pm_mul, h2, h4, h6, h26, h28, h37]; done) | (simp_all [pm_mul]; done), ht⟩) (fun q hq => by cases hq) dX5_multiply_44
set_option maxHeartbeats 4000000 in
set_option maxRecDepth 100000 in
theorem ctX5_operate (l : Launch) (k x y : Int32) : Met l yX5_operate wsX5_operate ({ frames := 3, cells := 0, slots := 0, locals := 68 }) (va_Pc [.int k, .int x, .int y] (fun _ => True)) (vp_Si (fun r => r = pm_op k x y)) 0 0 (fun _ => False) := by
  refine Met.ofW (cc := cX5_operate) (maxL := 3) (ret := (some .int)) (by decide) rfl ?_
  intro p e s m args below meth c s₁ B hml hv
  obtain ⟨rfl, -⟩ := hv
  have hx := B.exec
  have hb := B.bytes
  have hr := B.returns
  have hts := atoms_spec (ws := wsX5_operate) B.pre
  have hown : s.vm.findClass RX5 = some m.cls := findClass_of_methodNamed B.named
  have hlocks := B.notSynchronized
  have hl := lv_entry ([.int k, .int x, .int y]) (n := 3) (Nat.le_of_ble_eq_true rfl)
  rw [lg_entry_eq]
  generalize (lg_sl ([.int k, .int x, .int y]) ++ List.replicate (3 - (lg_sl ([.int k, .int x, .int y])).length) Slot.unset).toArray = ls at hl ⊢
  have hl : lv_has ls 3 [(0, .int k), (1, .int x), (2, .int y)] := hl
  refine lv_iload_n hx hb dX5_operate_0 rfl (lv_at hl 0 rfl) ?_
  by_cases k1 : k = 2
  · refine lv_tableIn (off := 83) (tgt := 84) hx hb dX5_operate_1 (by rw [k1]; decide) (by rw [k1]; decide) (by rw [k1]; rfl) (by decide) ?_
    refine lv_iload_n hx hb dX5_operate_84 rfl (lv_at hl 1 rfl) ?_
    refine lv_bipush (v := 16) hx hb dX5_operate_85 (by decide) ?_
    refine lv_ixor hx hb dX5_operate_87 ?_
    exact W.iret (v := x ^^^ 16) hx hb hr (fun t ht hW => ⟨x ^^^ 16, rfl, by first | (subst k1; simp [pm_op, pm_tru, pu_nan]; done) | (simp [pm_op, pm_tru, k1]; done) | (subst k1; simp_all [pm_op, pm_tru]; done) | (simp_all [pm_op, pm_tru]; done), ht⟩) (fun q hq => by cases hq) dX5_operate_88
  by_cases k2 : k = 3
  · refine lv_tableIn (off := 88) (tgt := 89) hx hb dX5_operate_1 (by rw [k2]; decide) (by rw [k2]; decide) (by rw [k2]; rfl) (by decide) ?_
    refine lv_iload_n hx hb dX5_operate_89 rfl (lv_at hl 1 rfl) ?_
    refine lv_bipush (v := 15) hx hb dX5_operate_90 (by decide) ?_
    refine lv_iand hx hb dX5_operate_92 ?_
    exact W.iret (v := x &&& 15) hx hb hr (fun t ht hW => ⟨x &&& 15, rfl, by first | (subst k2; simp [pm_op, pm_tru, pu_nan]; done) | (simp [pm_op, pm_tru, k1, k2]; done) | (subst k2; simp_all [pm_op, pm_tru]; done) | (simp_all [pm_op, pm_tru]; done), ht⟩) (fun q hq => by cases hq) dX5_operate_93
  by_cases k3 : k = 4
  · refine lv_tableIn (off := 93) (tgt := 94) hx hb dX5_operate_1 (by rw [k3]; decide) (by rw [k3]; decide) (by rw [k3]; rfl) (by decide) ?_
    refine lv_iload_n hx hb dX5_operate_94 rfl (lv_at hl 1 rfl) ?_
    refine lv_iload_n hx hb dX5_operate_95 rfl (lv_at hl 2 rfl) ?_
    refine vp_callSi (W.runS (As := [.int x, .int y]) (rest := []) ⟨hx, hb, hml, hown, hts⟩ (ctX5_add l x y) (va_cwS 2 hts (wA_wsS wm_ml_X5_58 wm_st_X5_add wm_in_X5 wm_cd_X5_add) rfl rfl rfl (by decide +kernel) ⟨Nat.le_of_ble_eq_true rfl, Nat.le_of_ble_eq_true rfl⟩) ⟨fun a U g mk q => q, fun U hU hW => ⟨rfl, trivial⟩⟩ rfl rfl hl.1 rfl (lv_room (Nat.le_of_ble_eq_true rfl)) dX5_operate_96 ⟨Nat.zero_le _, Nat.zero_le _⟩) (fun r4 er4 => ?_)
    subst er4
    exact W.iret (v := pm_add x y) hx hb hr (fun t ht hW => ⟨pm_add x y, rfl, by first | (subst k3; simp [pm_op, pm_tru, pu_nan]; done) | (simp [pm_op, pm_tru, k1, k2, k3]; done) | (subst k3; simp_all [pm_op, pm_tru]; done) | (simp_all [pm_op, pm_tru]; done), ht⟩) (fun q hq => by cases hq) dX5_operate_99
  by_cases k5 : k = 5
  · refine lv_tableIn (off := 99) (tgt := 100) hx hb dX5_operate_1 (by rw [k5]; decide) (by rw [k5]; decide) (by rw [k5]; rfl) (by decide) ?_
    refine lv_iload_n hx hb dX5_operate_100 rfl (lv_at hl 1 rfl) ?_
    refine lv_iload_n hx hb dX5_operate_101 rfl (lv_at hl 2 rfl) ?_
    refine lv_bipush (v := 16) hx hb dX5_operate_102 (by decide) ?_
    refine lv_ixor hx hb dX5_operate_104 ?_
    refine vp_callSi (W.runS (As := [.int x, .int (y ^^^ 16)]) (rest := []) ⟨hx, hb, hml, hown, hts⟩ (ctX5_add l x (y ^^^ 16)) (va_cwS 2 hts (wA_wsS wm_ml_X5_58 wm_st_X5_add wm_in_X5 wm_cd_X5_add) rfl rfl rfl (by decide +kernel) ⟨Nat.le_of_ble_eq_true rfl, Nat.le_of_ble_eq_true rfl⟩) ⟨fun a U g mk q => q, fun U hU hW => ⟨rfl, trivial⟩⟩ rfl rfl hl.1 rfl (lv_room (Nat.le_of_ble_eq_true rfl)) dX5_operate_105 ⟨Nat.zero_le _, Nat.zero_le _⟩) (fun r6 er6 => ?_)
    subst er6
    exact W.iret (v := pm_add x (y ^^^ 16)) hx hb hr (fun t ht hW => ⟨pm_add x (y ^^^ 16), rfl, by first | (subst k5; simp [pm_op, pm_tru, pu_nan]; done) | (simp [pm_op, pm_tru, k1, k2, k3, k5]; done) | (subst k5; simp_all [pm_op, pm_tru]; done) | (simp_all [pm_op, pm_tru]; done), ht⟩) (fun q hq => by cases hq) dX5_operate_108
  by_cases k7 : k = 6
  · refine lv_tableIn (off := 108) (tgt := 109) hx hb dX5_operate_1 (by rw [k7]; decide) (by rw [k7]; decide) (by rw [k7]; rfl) (by decide) ?_
    refine lv_iload_n hx hb dX5_operate_109 rfl (lv_at hl 1 rfl) ?_
    refine lv_iload_n hx hb dX5_operate_110 rfl (lv_at hl 2 rfl) ?_
    refine vp_callSi (W.runS (As := [.int x, .int y]) (rest := []) ⟨hx, hb, hml, hown, hts⟩ (ctX5_multiply l x y) (va_cwS 2 hts (wA_wsS wm_ml_X5_62 wm_st_X5_multiply wm_in_X5 wm_cd_X5_multiply) rfl rfl rfl (by decide +kernel) ⟨Nat.le_of_ble_eq_true rfl, Nat.le_of_ble_eq_true rfl⟩) ⟨fun a U g mk q => q, fun U hU hW => ⟨rfl, trivial⟩⟩ rfl rfl hl.1 rfl (lv_room (Nat.le_of_ble_eq_true rfl)) dX5_operate_111 ⟨Nat.zero_le _, Nat.zero_le _⟩) (fun r8 er8 => ?_)
    subst er8
    exact W.iret (v := pm_mul x y) hx hb hr (fun t ht hW => ⟨pm_mul x y, rfl, by first | (subst k7; simp [pm_op, pm_tru, pu_nan]; done) | (simp [pm_op, pm_tru, k1, k2, k3, k5, k7]; done) | (subst k7; simp_all [pm_op, pm_tru]; done) | (simp_all [pm_op, pm_tru]; done), ht⟩) (fun q hq => by cases hq) dX5_operate_114
  by_cases k9 : k = 7
  · refine lv_tableIn (off := 114) (tgt := 115) hx hb dX5_operate_1 (by rw [k9]; decide) (by rw [k9]; decide) (by rw [k9]; rfl) (by decide) ?_
    refine lv_iload_n hx hb dX5_operate_115 rfl (lv_at hl 1 rfl) ?_
    refine vp_callSi (W.runS (As := [.int x]) (rest := []) ⟨hx, hb, hml, hown, hts⟩ (ctX5_nan l x) (va_cwS 1 hts (wA_wsS wm_ml_X5_46 wm_st_X5_nan wm_in_X5 wm_cd_X5_nan) rfl rfl rfl (by decide +kernel) ⟨Nat.le_of_ble_eq_true rfl, Nat.le_of_ble_eq_true rfl⟩) ⟨fun a U g mk q => q, fun U hU hW => ⟨rfl, trivial⟩⟩ rfl rfl hl.1 rfl (lv_room (Nat.le_of_ble_eq_true rfl)) dX5_operate_116 ⟨Nat.zero_le _, Nat.zero_le _⟩) (fun r10 er10 => ?_)
    subst er10
    refine lv_if_ne (tgt := 130) hx hb dX5_operate_119 (by decide) (fun h11 => ?_) (fun h11 => ?_)
    · skip
      refine lv_iload_n hx hb dX5_operate_130 rfl (lv_at hl 2 rfl) ?_
      refine lv_goto (tgt := 135) hx hb dX5_operate_131 (by decide) ?_
      exact W.iret (v := y) hx hb hr (fun t ht hW => ⟨y, rfl, by first | (subst k9; simp [pm_op, pm_tru, h11]; done) | (simp [pm_op, pm_tru, k1, k2, k3, k5, k7, k9, h11]; done) | (subst k9; simp_all [pm_op, pm_tru]; done) | (simp_all [pm_op, pm_tru]; done), ht⟩) (fun q hq => by cases hq) dX5_operate_135
    · skip
      refine lv_iload_n hx hb dX5_operate_122 rfl (lv_at hl 2 rfl) ?_
      refine lv_iload_n hx hb dX5_operate_123 rfl (lv_at hl 1 rfl) ?_
      refine vp_callSi (W.runS (As := [.int y, .int x]) (rest := []) ⟨hx, hb, hml, hown, hts⟩ (ctX5_less l y x) (va_cwS 2 hts (wA_wsS wm_ml_X5_65 wm_st_X5_less wm_in_X5 wm_cd_X5_less) rfl rfl rfl (by decide +kernel) ⟨Nat.le_of_ble_eq_true rfl, Nat.le_of_ble_eq_true rfl⟩) ⟨fun a U g mk q => q, fun U hU hW => ⟨rfl, trivial⟩⟩ rfl rfl hl.1 rfl (lv_room (Nat.le_of_ble_eq_true rfl)) dX5_operate_124 ⟨Nat.zero_le _, Nat.zero_le _⟩) (fun r12 er12 => ?_)
      subst er12
      refine lv_if_eq (tgt := 134) hx hb dX5_operate_127 (by decide) (fun h13 => ?_) (fun h13 => ?_)
      · skip
        refine lv_iload_n hx hb dX5_operate_134 rfl (lv_at hl 1 rfl) ?_
        exact W.iret (v := x) hx hb hr (fun t ht hW => ⟨x, rfl, by first | (subst k9; simp [pm_op, pm_tru, h11, h13]; done) | (simp [pm_op, pm_tru, k1, k2, k3, k5, k7, k9, h11, h13]; done) | (subst k9; simp_all [pm_op, pm_tru]; done) | (simp_all [pm_op, pm_tru]; done), ht⟩) (fun q hq => by cases hq) dX5_operate_135
      · skip
        refine lv_iload_n hx hb dX5_operate_130 rfl (lv_at hl 2 rfl) ?_
        refine lv_goto (tgt := 135) hx hb dX5_operate_131 (by decide) ?_
        exact W.iret (v := y) hx hb hr (fun t ht hW => ⟨y, rfl, by first | (subst k9; simp [pm_op, pm_tru, h11, h13]; done) | (simp [pm_op, pm_tru, k1, k2, k3, k5, k7, k9, h11, h13]; done) | (subst k9; simp_all [pm_op, pm_tru]; done) | (simp_all [pm_op, pm_tru]; done), ht⟩) (fun q hq => by cases hq) dX5_operate_135
  by_cases k14 : k = 8
  · refine lv_tableIn (off := 135) (tgt := 136) hx hb dX5_operate_1 (by rw [k14]; decide) (by rw [k14]; decide) (by rw [k14]; rfl) (by decide) ?_
    refine lv_iload_n hx hb dX5_operate_136 rfl (lv_at hl 1 rfl) ?_
    refine vp_callSi (W.runS (As := [.int x]) (rest := []) ⟨hx, hb, hml, hown, hts⟩ (ctX5_nan l x) (va_cwS 1 hts (wA_wsS wm_ml_X5_46 wm_st_X5_nan wm_in_X5 wm_cd_X5_nan) rfl rfl rfl (by decide +kernel) ⟨Nat.le_of_ble_eq_true rfl, Nat.le_of_ble_eq_true rfl⟩) ⟨fun a U g mk q => q, fun U hU hW => ⟨rfl, trivial⟩⟩ rfl rfl hl.1 rfl (lv_room (Nat.le_of_ble_eq_true rfl)) dX5_operate_137 ⟨Nat.zero_le _, Nat.zero_le _⟩) (fun r15 er15 => ?_)
    subst er15
    refine lv_if_ne (tgt := 151) hx hb dX5_operate_140 (by decide) (fun h16 => ?_) (fun h16 => ?_)
    · skip
      refine lv_iload_n hx hb dX5_operate_151 rfl (lv_at hl 2 rfl) ?_
      refine lv_goto (tgt := 156) hx hb dX5_operate_152 (by decide) ?_
      exact W.iret (v := y) hx hb hr (fun t ht hW => ⟨y, rfl, by first | (subst k14; simp [pm_op, pm_tru, h16]; done) | (simp [pm_op, pm_tru, k1, k2, k3, k5, k7, k9, k14, h16]; done) | (subst k14; simp_all [pm_op, pm_tru]; done) | (simp_all [pm_op, pm_tru]; done), ht⟩) (fun q hq => by cases hq) dX5_operate_156
    · skip
      refine lv_iload_n hx hb dX5_operate_143 rfl (lv_at hl 1 rfl) ?_
      refine lv_iload_n hx hb dX5_operate_144 rfl (lv_at hl 2 rfl) ?_
      refine vp_callSi (W.runS (As := [.int x, .int y]) (rest := []) ⟨hx, hb, hml, hown, hts⟩ (ctX5_less l x y) (va_cwS 2 hts (wA_wsS wm_ml_X5_65 wm_st_X5_less wm_in_X5 wm_cd_X5_less) rfl rfl rfl (by decide +kernel) ⟨Nat.le_of_ble_eq_true rfl, Nat.le_of_ble_eq_true rfl⟩) ⟨fun a U g mk q => q, fun U hU hW => ⟨rfl, trivial⟩⟩ rfl rfl hl.1 rfl (lv_room (Nat.le_of_ble_eq_true rfl)) dX5_operate_145 ⟨Nat.zero_le _, Nat.zero_le _⟩) (fun r17 er17 => ?_)
      subst er17
      refine lv_if_eq (tgt := 155) hx hb dX5_operate_148 (by decide) (fun h18 => ?_) (fun h18 => ?_)
      · skip
        refine lv_iload_n hx hb dX5_operate_155 rfl (lv_at hl 1 rfl) ?_
        exact W.iret (v := x) hx hb hr (fun t ht hW => ⟨x, rfl, by first | (subst k14; simp [pm_op, pm_tru, h16, h18]; done) | (simp [pm_op, pm_tru, k1, k2, k3, k5, k7, k9, k14, h16, h18]; done) | (subst k14; simp_all [pm_op, pm_tru]; done) | (simp_all [pm_op, pm_tru]; done), ht⟩) (fun q hq => by cases hq) dX5_operate_156
      · skip
        refine lv_iload_n hx hb dX5_operate_151 rfl (lv_at hl 2 rfl) ?_
        refine lv_goto (tgt := 156) hx hb dX5_operate_152 (by decide) ?_
        exact W.iret (v := y) hx hb hr (fun t ht hW => ⟨y, rfl, by first | (subst k14; simp [pm_op, pm_tru, h16, h18]; done) | (simp [pm_op, pm_tru, k1, k2, k3, k5, k7, k9, k14, h16, h18]; done) | (subst k14; simp_all [pm_op, pm_tru]; done) | (simp_all [pm_op, pm_tru]; done), ht⟩) (fun q hq => by cases hq) dX5_operate_156
  by_cases k19 : k = 10
  · refine lv_tableIn (off := 156) (tgt := 157) hx hb dX5_operate_1 (by rw [k19]; decide) (by rw [k19]; decide) (by rw [k19]; rfl) (by decide) ?_
    refine lv_iload_n hx hb dX5_operate_157 rfl (lv_at hl 1 rfl) ?_
    refine lv_iload_n hx hb dX5_operate_158 rfl (lv_at hl 2 rfl) ?_
    refine lv_icmp_eq (tgt := 176) hx hb dX5_operate_159 (by decide) (fun h20 => ?_) (fun h20 => ?_)
    · skip
      refine lv_iconst (v := 1) hx hb dX5_operate_176 (by decide) ?_
      refine lv_goto (tgt := 181) hx hb dX5_operate_177 (by decide) ?_
      refine vp_callSi (W.runS (As := [.int 1]) (rest := []) ⟨hx, hb, hml, hown, hts⟩ (ctX5_truth l 1) (va_cwS 1 hts (wA_wsS wm_ml_X5_69 wm_st_X5_truth wm_in_X5 wm_cd_X5_truth) rfl rfl rfl (by decide +kernel) ⟨Nat.le_of_ble_eq_true rfl, Nat.le_of_ble_eq_true rfl⟩) ⟨fun a U g mk q => q, fun U hU hW => ⟨rfl, trivial⟩⟩ rfl rfl hl.1 rfl (lv_room (Nat.le_of_ble_eq_true rfl)) dX5_operate_181 ⟨Nat.zero_le _, Nat.zero_le _⟩) (fun r21 er21 => ?_)
      subst er21
      exact W.iret (v := pm_tru 1) hx hb hr (fun t ht hW => ⟨pm_tru 1, rfl, by first | (subst k19; simp [pm_op, pm_tru, h20]; done) | (simp [pm_op, pm_tru, k1, k2, k3, k5, k7, k9, k14, k19, h20]; done) | (subst k19; simp_all [pm_op, pm_tru]; done) | (simp_all [pm_op, pm_tru]; done), ht⟩) (fun q hq => by cases hq) dX5_operate_184
    · skip
      refine lv_iload_n hx hb dX5_operate_162 rfl (lv_at hl 1 rfl) ?_
      refine vp_callSi (W.runS (As := [.int x]) (rest := []) ⟨hx, hb, hml, hown, hts⟩ (ctX5_nan l x) (va_cwS 1 hts (wA_wsS wm_ml_X5_46 wm_st_X5_nan wm_in_X5 wm_cd_X5_nan) rfl rfl rfl (by decide +kernel) ⟨Nat.le_of_ble_eq_true rfl, Nat.le_of_ble_eq_true rfl⟩) ⟨fun a U g mk q => q, fun U hU hW => ⟨rfl, trivial⟩⟩ rfl rfl hl.1 rfl (lv_room (Nat.le_of_ble_eq_true rfl)) dX5_operate_163 ⟨Nat.zero_le _, Nat.zero_le _⟩) (fun r22 er22 => ?_)
      subst er22
      refine lv_if_eq (tgt := 180) hx hb dX5_operate_166 (by decide) (fun h23 => ?_) (fun h23 => ?_)
      · skip
        refine lv_iconst (v := 0) hx hb dX5_operate_180 (by decide) ?_
        refine vp_callSi (W.runS (As := [.int 0]) (rest := []) ⟨hx, hb, hml, hown, hts⟩ (ctX5_truth l 0) (va_cwS 1 hts (wA_wsS wm_ml_X5_69 wm_st_X5_truth wm_in_X5 wm_cd_X5_truth) rfl rfl rfl (by decide +kernel) ⟨Nat.le_of_ble_eq_true rfl, Nat.le_of_ble_eq_true rfl⟩) ⟨fun a U g mk q => q, fun U hU hW => ⟨rfl, trivial⟩⟩ rfl rfl hl.1 rfl (lv_room (Nat.le_of_ble_eq_true rfl)) dX5_operate_181 ⟨Nat.zero_le _, Nat.zero_le _⟩) (fun r24 er24 => ?_)
        subst er24
        exact W.iret (v := pm_tru 0) hx hb hr (fun t ht hW => ⟨pm_tru 0, rfl, by first | (subst k19; simp [pm_op, pm_tru, h20, h23]; done) | (simp [pm_op, pm_tru, k1, k2, k3, k5, k7, k9, k14, k19, h20, h23]; done) | (subst k19; simp_all [pm_op, pm_tru]; done) | (simp_all [pm_op, pm_tru]; done), ht⟩) (fun q hq => by cases hq) dX5_operate_184
      · skip
        refine lv_iload_n hx hb dX5_operate_169 rfl (lv_at hl 2 rfl) ?_
        refine vp_callSi (W.runS (As := [.int y]) (rest := []) ⟨hx, hb, hml, hown, hts⟩ (ctX5_nan l y) (va_cwS 1 hts (wA_wsS wm_ml_X5_46 wm_st_X5_nan wm_in_X5 wm_cd_X5_nan) rfl rfl rfl (by decide +kernel) ⟨Nat.le_of_ble_eq_true rfl, Nat.le_of_ble_eq_true rfl⟩) ⟨fun a U g mk q => q, fun U hU hW => ⟨rfl, trivial⟩⟩ rfl rfl hl.1 rfl (lv_room (Nat.le_of_ble_eq_true rfl)) dX5_operate_170 ⟨Nat.zero_le _, Nat.zero_le _⟩) (fun r25 er25 => ?_)
        subst er25
        refine lv_if_eq (tgt := 180) hx hb dX5_operate_173 (by decide) (fun h26 => ?_) (fun h26 => ?_)
        · skip
          refine lv_iconst (v := 0) hx hb dX5_operate_180 (by decide) ?_
          refine vp_callSi (W.runS (As := [.int 0]) (rest := []) ⟨hx, hb, hml, hown, hts⟩ (ctX5_truth l 0) (va_cwS 1 hts (wA_wsS wm_ml_X5_69 wm_st_X5_truth wm_in_X5 wm_cd_X5_truth) rfl rfl rfl (by decide +kernel) ⟨Nat.le_of_ble_eq_true rfl, Nat.le_of_ble_eq_true rfl⟩) ⟨fun a U g mk q => q, fun U hU hW => ⟨rfl, trivial⟩⟩ rfl rfl hl.1 rfl (lv_room (Nat.le_of_ble_eq_true rfl)) dX5_operate_181 ⟨Nat.zero_le _, Nat.zero_le _⟩) (fun r27 er27 => ?_)
          subst er27
          exact W.iret (v := pm_tru 0) hx hb hr (fun t ht hW => ⟨pm_tru 0, rfl, by first | (subst k19; simp [pm_op, pm_tru, h20, h23, h26]; done) | (simp [pm_op, pm_tru, k1, k2, k3, k5, k7, k9, k14, k19, h20, h23, h26]; done) | (subst k19; simp_all [pm_op, pm_tru]; done) | (simp_all [pm_op, pm_tru]; done), ht⟩) (fun q hq => by cases hq) dX5_operate_184
        · skip
          refine lv_iconst (v := 1) hx hb dX5_operate_176 (by decide) ?_
          refine lv_goto (tgt := 181) hx hb dX5_operate_177 (by decide) ?_
          refine vp_callSi (W.runS (As := [.int 1]) (rest := []) ⟨hx, hb, hml, hown, hts⟩ (ctX5_truth l 1) (va_cwS 1 hts (wA_wsS wm_ml_X5_69 wm_st_X5_truth wm_in_X5 wm_cd_X5_truth) rfl rfl rfl (by decide +kernel) ⟨Nat.le_of_ble_eq_true rfl, Nat.le_of_ble_eq_true rfl⟩) ⟨fun a U g mk q => q, fun U hU hW => ⟨rfl, trivial⟩⟩ rfl rfl hl.1 rfl (lv_room (Nat.le_of_ble_eq_true rfl)) dX5_operate_181 ⟨Nat.zero_le _, Nat.zero_le _⟩) (fun r28 er28 => ?_)
          subst er28
          exact W.iret (v := pm_tru 1) hx hb hr (fun t ht hW => ⟨pm_tru 1, rfl, by first | (subst k19; simp [pm_op, pm_tru, h20, h23, h26]; done) | (simp [pm_op, pm_tru, k1, k2, k3, k5, k7, k9, k14, k19, h20, h23, h26]; done) | (subst k19; simp_all [pm_op, pm_tru]; done) | (simp_all [pm_op, pm_tru]; done), ht⟩) (fun q hq => by cases hq) dX5_operate_184
  by_cases k29 : k = 11
  · refine lv_tableIn (off := 184) (tgt := 185) hx hb dX5_operate_1 (by rw [k29]; decide) (by rw [k29]; decide) (by rw [k29]; rfl) (by decide) ?_
    refine lv_iload_n hx hb dX5_operate_185 rfl (lv_at hl 1 rfl) ?_
    refine lv_iload_n hx hb dX5_operate_186 rfl (lv_at hl 2 rfl) ?_
    refine vp_callSi (W.runS (As := [.int x, .int y]) (rest := []) ⟨hx, hb, hml, hown, hts⟩ (ctX5_equal l x y) (va_cwS 2 hts (wA_wsS wm_ml_X5_73 wm_st_X5_equal wm_in_X5 wm_cd_X5_equal) rfl rfl rfl (by decide +kernel) ⟨Nat.le_of_ble_eq_true rfl, Nat.le_of_ble_eq_true rfl⟩) ⟨fun a U g mk q => q, fun U hU hW => ⟨rfl, trivial⟩⟩ rfl rfl hl.1 rfl (lv_room (Nat.le_of_ble_eq_true rfl)) dX5_operate_187 ⟨Nat.zero_le _, Nat.zero_le _⟩) (fun r30 er30 => ?_)
    subst er30
    refine vp_callSi (W.runS (As := [.int (pm_eq x y)]) (rest := []) ⟨hx, hb, hml, hown, hts⟩ (ctX5_truth l (pm_eq x y)) (va_cwS 1 hts (wA_wsS wm_ml_X5_69 wm_st_X5_truth wm_in_X5 wm_cd_X5_truth) rfl rfl rfl (by decide +kernel) ⟨Nat.le_of_ble_eq_true rfl, Nat.le_of_ble_eq_true rfl⟩) ⟨fun a U g mk q => q, fun U hU hW => ⟨rfl, trivial⟩⟩ rfl rfl hl.1 rfl (lv_room (Nat.le_of_ble_eq_true rfl)) dX5_operate_190 ⟨Nat.zero_le _, Nat.zero_le _⟩) (fun r31 er31 => ?_)
    subst er31
    exact W.iret (v := pm_tru (pm_eq x y)) hx hb hr (fun t ht hW => ⟨pm_tru (pm_eq x y), rfl, by first | (subst k29; simp [pm_op, pm_tru, pu_nan]; done) | (simp [pm_op, pm_tru, k1, k2, k3, k5, k7, k9, k14, k19, k29]; done) | (subst k29; simp_all [pm_op, pm_tru]; done) | (simp_all [pm_op, pm_tru]; done), ht⟩) (fun q hq => by cases hq) dX5_operate_193
  by_cases k32 : k = 12
  · refine lv_tableIn (off := 193) (tgt := 194) hx hb dX5_operate_1 (by rw [k32]; decide) (by rw [k32]; decide) (by rw [k32]; rfl) (by decide) ?_
    refine lv_iload_n hx hb dX5_operate_194 rfl (lv_at hl 1 rfl) ?_
    refine lv_iload_n hx hb dX5_operate_195 rfl (lv_at hl 2 rfl) ?_
    refine vp_callSi (W.runS (As := [.int x, .int y]) (rest := []) ⟨hx, hb, hml, hown, hts⟩ (ctX5_less l x y) (va_cwS 2 hts (wA_wsS wm_ml_X5_65 wm_st_X5_less wm_in_X5 wm_cd_X5_less) rfl rfl rfl (by decide +kernel) ⟨Nat.le_of_ble_eq_true rfl, Nat.le_of_ble_eq_true rfl⟩) ⟨fun a U g mk q => q, fun U hU hW => ⟨rfl, trivial⟩⟩ rfl rfl hl.1 rfl (lv_room (Nat.le_of_ble_eq_true rfl)) dX5_operate_196 ⟨Nat.zero_le _, Nat.zero_le _⟩) (fun r33 er33 => ?_)
    subst er33
    refine vp_callSi (W.runS (As := [.int (pm_les x y)]) (rest := []) ⟨hx, hb, hml, hown, hts⟩ (ctX5_truth l (pm_les x y)) (va_cwS 1 hts (wA_wsS wm_ml_X5_69 wm_st_X5_truth wm_in_X5 wm_cd_X5_truth) rfl rfl rfl (by decide +kernel) ⟨Nat.le_of_ble_eq_true rfl, Nat.le_of_ble_eq_true rfl⟩) ⟨fun a U g mk q => q, fun U hU hW => ⟨rfl, trivial⟩⟩ rfl rfl hl.1 rfl (lv_room (Nat.le_of_ble_eq_true rfl)) dX5_operate_199 ⟨Nat.zero_le _, Nat.zero_le _⟩) (fun r34 er34 => ?_)
    subst er34
    exact W.iret (v := pm_tru (pm_les x y)) hx hb hr (fun t ht hW => ⟨pm_tru (pm_les x y), rfl, by first | (subst k32; simp [pm_op, pm_tru, pu_nan]; done) | (simp [pm_op, pm_tru, k1, k2, k3, k5, k7, k9, k14, k19, k29, k32]; done) | (subst k32; simp_all [pm_op, pm_tru]; done) | (simp_all [pm_op, pm_tru]; done), ht⟩) (fun q hq => by cases hq) dX5_operate_202
  by_cases k35 : k = 13
  · refine lv_tableIn (off := 202) (tgt := 203) hx hb dX5_operate_1 (by rw [k35]; decide) (by rw [k35]; decide) (by rw [k35]; rfl) (by decide) ?_
    refine lv_iload_n hx hb dX5_operate_203 rfl (lv_at hl 1 rfl) ?_
    refine lv_iload_n hx hb dX5_operate_204 rfl (lv_at hl 2 rfl) ?_
    refine vp_callSi (W.runS (As := [.int x, .int y]) (rest := []) ⟨hx, hb, hml, hown, hts⟩ (ctX5_less l x y) (va_cwS 2 hts (wA_wsS wm_ml_X5_65 wm_st_X5_less wm_in_X5 wm_cd_X5_less) rfl rfl rfl (by decide +kernel) ⟨Nat.le_of_ble_eq_true rfl, Nat.le_of_ble_eq_true rfl⟩) ⟨fun a U g mk q => q, fun U hU hW => ⟨rfl, trivial⟩⟩ rfl rfl hl.1 rfl (lv_room (Nat.le_of_ble_eq_true rfl)) dX5_operate_205 ⟨Nat.zero_le _, Nat.zero_le _⟩) (fun r36 er36 => ?_)
    subst er36
    refine lv_if_ne (tgt := 219) hx hb dX5_operate_208 (by decide) (fun h37 => ?_) (fun h37 => ?_)
    · skip
      refine lv_iconst (v := 1) hx hb dX5_operate_219 (by decide) ?_
      refine lv_goto (tgt := 224) hx hb dX5_operate_220 (by decide) ?_
      refine vp_callSi (W.runS (As := [.int 1]) (rest := []) ⟨hx, hb, hml, hown, hts⟩ (ctX5_truth l 1) (va_cwS 1 hts (wA_wsS wm_ml_X5_69 wm_st_X5_truth wm_in_X5 wm_cd_X5_truth) rfl rfl rfl (by decide +kernel) ⟨Nat.le_of_ble_eq_true rfl, Nat.le_of_ble_eq_true rfl⟩) ⟨fun a U g mk q => q, fun U hU hW => ⟨rfl, trivial⟩⟩ rfl rfl hl.1 rfl (lv_room (Nat.le_of_ble_eq_true rfl)) dX5_operate_224 ⟨Nat.zero_le _, Nat.zero_le _⟩) (fun r38 er38 => ?_)
      subst er38
      exact W.iret (v := pm_tru 1) hx hb hr (fun t ht hW => ⟨pm_tru 1, rfl, by first | (subst k35; simp [pm_op, pm_tru, h37]; done) | (simp [pm_op, pm_tru, k1, k2, k3, k5, k7, k9, k14, k19, k29, k32, k35, h37]; done) | (subst k35; simp_all [pm_op, pm_tru]; done) | (simp_all [pm_op, pm_tru]; done), ht⟩) (fun q hq => by cases hq) dX5_operate_227
    · skip
      refine lv_iload_n hx hb dX5_operate_211 rfl (lv_at hl 1 rfl) ?_
      refine lv_iload_n hx hb dX5_operate_212 rfl (lv_at hl 2 rfl) ?_
      refine vp_callSi (W.runS (As := [.int x, .int y]) (rest := []) ⟨hx, hb, hml, hown, hts⟩ (ctX5_equal l x y) (va_cwS 2 hts (wA_wsS wm_ml_X5_73 wm_st_X5_equal wm_in_X5 wm_cd_X5_equal) rfl rfl rfl (by decide +kernel) ⟨Nat.le_of_ble_eq_true rfl, Nat.le_of_ble_eq_true rfl⟩) ⟨fun a U g mk q => q, fun U hU hW => ⟨rfl, trivial⟩⟩ rfl rfl hl.1 rfl (lv_room (Nat.le_of_ble_eq_true rfl)) dX5_operate_213 ⟨Nat.zero_le _, Nat.zero_le _⟩) (fun r39 er39 => ?_)
      subst er39
      refine lv_if_eq (tgt := 223) hx hb dX5_operate_216 (by decide) (fun h40 => ?_) (fun h40 => ?_)
      · skip
        refine lv_iconst (v := 0) hx hb dX5_operate_223 (by decide) ?_
        refine vp_callSi (W.runS (As := [.int 0]) (rest := []) ⟨hx, hb, hml, hown, hts⟩ (ctX5_truth l 0) (va_cwS 1 hts (wA_wsS wm_ml_X5_69 wm_st_X5_truth wm_in_X5 wm_cd_X5_truth) rfl rfl rfl (by decide +kernel) ⟨Nat.le_of_ble_eq_true rfl, Nat.le_of_ble_eq_true rfl⟩) ⟨fun a U g mk q => q, fun U hU hW => ⟨rfl, trivial⟩⟩ rfl rfl hl.1 rfl (lv_room (Nat.le_of_ble_eq_true rfl)) dX5_operate_224 ⟨Nat.zero_le _, Nat.zero_le _⟩) (fun r41 er41 => ?_)
        subst er41
        exact W.iret (v := pm_tru 0) hx hb hr (fun t ht hW => ⟨pm_tru 0, rfl, by first | (subst k35; simp [pm_op, pm_tru, h37, h40]; done) | (simp [pm_op, pm_tru, k1, k2, k3, k5, k7, k9, k14, k19, k29, k32, k35, h37, h40]; done) | (subst k35; simp_all [pm_op, pm_tru]; done) | (simp_all [pm_op, pm_tru]; done), ht⟩) (fun q hq => by cases hq) dX5_operate_227
      · skip
        refine lv_iconst (v := 1) hx hb dX5_operate_219 (by decide) ?_
        refine lv_goto (tgt := 224) hx hb dX5_operate_220 (by decide) ?_
        refine vp_callSi (W.runS (As := [.int 1]) (rest := []) ⟨hx, hb, hml, hown, hts⟩ (ctX5_truth l 1) (va_cwS 1 hts (wA_wsS wm_ml_X5_69 wm_st_X5_truth wm_in_X5 wm_cd_X5_truth) rfl rfl rfl (by decide +kernel) ⟨Nat.le_of_ble_eq_true rfl, Nat.le_of_ble_eq_true rfl⟩) ⟨fun a U g mk q => q, fun U hU hW => ⟨rfl, trivial⟩⟩ rfl rfl hl.1 rfl (lv_room (Nat.le_of_ble_eq_true rfl)) dX5_operate_224 ⟨Nat.zero_le _, Nat.zero_le _⟩) (fun r42 er42 => ?_)
        subst er42
        exact W.iret (v := pm_tru 1) hx hb hr (fun t ht hW => ⟨pm_tru 1, rfl, by first | (subst k35; simp [pm_op, pm_tru, h37, h40]; done) | (simp [pm_op, pm_tru, k1, k2, k3, k5, k7, k9, k14, k19, k29, k32, k35, h37, h40]; done) | (subst k35; simp_all [pm_op, pm_tru]; done) | (simp_all [pm_op, pm_tru]; done), ht⟩) (fun q hq => by cases hq) dX5_operate_227
  by_cases k43 : k = 14
  · refine lv_tableIn (off := 227) (tgt := 228) hx hb dX5_operate_1 (by rw [k43]; decide) (by rw [k43]; decide) (by rw [k43]; rfl) (by decide) ?_
    refine lv_iload_n hx hb dX5_operate_228 rfl (lv_at hl 1 rfl) ?_
    refine vp_callSi (W.runS (As := [.int x]) (rest := []) ⟨hx, hb, hml, hown, hts⟩ (ctX5_nan l x) (va_cwS 1 hts (wA_wsS wm_ml_X5_46 wm_st_X5_nan wm_in_X5 wm_cd_X5_nan) rfl rfl rfl (by decide +kernel) ⟨Nat.le_of_ble_eq_true rfl, Nat.le_of_ble_eq_true rfl⟩) ⟨fun a U g mk q => q, fun U hU hW => ⟨rfl, trivial⟩⟩ rfl rfl hl.1 rfl (lv_room (Nat.le_of_ble_eq_true rfl)) dX5_operate_229 ⟨Nat.zero_le _, Nat.zero_le _⟩) (fun r44 er44 => ?_)
    subst er44
    refine vp_callSi (W.runS (As := [.int (pu_nan x)]) (rest := []) ⟨hx, hb, hml, hown, hts⟩ (ctX5_truth l (pu_nan x)) (va_cwS 1 hts (wA_wsS wm_ml_X5_69 wm_st_X5_truth wm_in_X5 wm_cd_X5_truth) rfl rfl rfl (by decide +kernel) ⟨Nat.le_of_ble_eq_true rfl, Nat.le_of_ble_eq_true rfl⟩) ⟨fun a U g mk q => q, fun U hU hW => ⟨rfl, trivial⟩⟩ rfl rfl hl.1 rfl (lv_room (Nat.le_of_ble_eq_true rfl)) dX5_operate_232 ⟨Nat.zero_le _, Nat.zero_le _⟩) (fun r45 er45 => ?_)
    subst er45
    exact W.iret (v := pm_tru (pu_nan x)) hx hb hr (fun t ht hW => ⟨pm_tru (pu_nan x), rfl, by first | (subst k43; simp [pm_op, pm_tru, pu_nan]; done) | (simp [pm_op, pm_tru, k1, k2, k3, k5, k7, k9, k14, k19, k29, k32, k35, k43]; done) | (subst k43; simp_all [pm_op, pm_tru]; done) | (simp_all [pm_op, pm_tru]; done), ht⟩) (fun q hq => by cases hq) dX5_operate_235
  by_cases k46 : k = 15
  · refine lv_tableIn (off := 235) (tgt := 236) hx hb dX5_operate_1 (by rw [k46]; decide) (by rw [k46]; decide) (by rw [k46]; rfl) (by decide) ?_
    refine lv_iload_n hx hb dX5_operate_236 rfl (lv_at hl 1 rfl) ?_
    refine vp_callSi (W.runS (As := [.int x]) (rest := []) ⟨hx, hb, hml, hown, hts⟩ (ctX5_infinite l x) (va_cwS 1 hts (wA_wsS wm_ml_X5_38 wm_st_X5_infinite wm_in_X5 wm_cd_X5_infinite) rfl rfl rfl (by decide +kernel) ⟨Nat.le_of_ble_eq_true rfl, Nat.le_of_ble_eq_true rfl⟩) ⟨fun a U g mk q => q, fun U hU hW => ⟨rfl, trivial⟩⟩ rfl rfl hl.1 rfl (lv_room (Nat.le_of_ble_eq_true rfl)) dX5_operate_237 ⟨Nat.zero_le _, Nat.zero_le _⟩) (fun r47 er47 => ?_)
    subst er47
    refine vp_callSi (W.runS (As := [.int (pu_inf x)]) (rest := []) ⟨hx, hb, hml, hown, hts⟩ (ctX5_truth l (pu_inf x)) (va_cwS 1 hts (wA_wsS wm_ml_X5_69 wm_st_X5_truth wm_in_X5 wm_cd_X5_truth) rfl rfl rfl (by decide +kernel) ⟨Nat.le_of_ble_eq_true rfl, Nat.le_of_ble_eq_true rfl⟩) ⟨fun a U g mk q => q, fun U hU hW => ⟨rfl, trivial⟩⟩ rfl rfl hl.1 rfl (lv_room (Nat.le_of_ble_eq_true rfl)) dX5_operate_240 ⟨Nat.zero_le _, Nat.zero_le _⟩) (fun r48 er48 => ?_)
    subst er48
    exact W.iret (v := pm_tru (pu_inf x)) hx hb hr (fun t ht hW => ⟨pm_tru (pu_inf x), rfl, by first | (subst k46; simp [pm_op, pm_tru, pu_nan]; done) | (simp [pm_op, pm_tru, k1, k2, k3, k5, k7, k9, k14, k19, k29, k32, k35, k43, k46]; done) | (subst k46; simp_all [pm_op, pm_tru]; done) | (simp_all [pm_op, pm_tru]; done), ht⟩) (fun q hq => by cases hq) dX5_operate_243
  by_cases k49 : k = 16
  · refine lv_tableIn (off := 243) (tgt := 244) hx hb dX5_operate_1 (by rw [k49]; decide) (by rw [k49]; decide) (by rw [k49]; rfl) (by decide) ?_
    refine lv_iload_n hx hb dX5_operate_244 rfl (lv_at hl 1 rfl) ?_
    refine vp_callSi (W.runS (As := [.int x]) (rest := []) ⟨hx, hb, hml, hown, hts⟩ (ctX5_zero l x) (va_cwS 1 hts (wA_wsS wm_ml_X5_55 wm_st_X5_zero wm_in_X5 wm_cd_X5_zero) rfl rfl rfl (by decide +kernel) ⟨Nat.le_of_ble_eq_true rfl, Nat.le_of_ble_eq_true rfl⟩) ⟨fun a U g mk q => q, fun U hU hW => ⟨rfl, trivial⟩⟩ rfl rfl hl.1 rfl (lv_room (Nat.le_of_ble_eq_true rfl)) dX5_operate_245 ⟨Nat.zero_le _, Nat.zero_le _⟩) (fun r50 er50 => ?_)
    subst er50
    refine vp_callSi (W.runS (As := [.int (pu_zer x)]) (rest := []) ⟨hx, hb, hml, hown, hts⟩ (ctX5_truth l (pu_zer x)) (va_cwS 1 hts (wA_wsS wm_ml_X5_69 wm_st_X5_truth wm_in_X5 wm_cd_X5_truth) rfl rfl rfl (by decide +kernel) ⟨Nat.le_of_ble_eq_true rfl, Nat.le_of_ble_eq_true rfl⟩) ⟨fun a U g mk q => q, fun U hU hW => ⟨rfl, trivial⟩⟩ rfl rfl hl.1 rfl (lv_room (Nat.le_of_ble_eq_true rfl)) dX5_operate_248 ⟨Nat.zero_le _, Nat.zero_le _⟩) (fun r51 er51 => ?_)
    subst er51
    exact W.iret (v := pm_tru (pu_zer x)) hx hb hr (fun t ht hW => ⟨pm_tru (pu_zer x), rfl, by first | (subst k49; simp [pm_op, pm_tru, pu_nan]; done) | (simp [pm_op, pm_tru, k1, k2, k3, k5, k7, k9, k14, k19, k29, k32, k35, k43, k46, k49]; done) | (subst k49; simp_all [pm_op, pm_tru]; done) | (simp_all [pm_op, pm_tru]; done), ht⟩) (fun q hq => by cases hq) dX5_operate_251
  by_cases k52 : k = 17
  · refine lv_tableIn (off := 251) (tgt := 252) hx hb dX5_operate_1 (by rw [k52]; decide) (by rw [k52]; decide) (by rw [k52]; rfl) (by decide) ?_
    refine lv_iconst (v := 1) hx hb dX5_operate_252 (by decide) ?_
    refine lv_iload_n hx hb dX5_operate_253 rfl (lv_at hl 1 rfl) ?_
    refine lv_isub hx hb dX5_operate_254 ?_
    exact W.iret (v := 1 - x) hx hb hr (fun t ht hW => ⟨1 - x, rfl, by first | (subst k52; simp [pm_op, pm_tru, pu_nan]; done) | (simp [pm_op, pm_tru, k1, k2, k3, k5, k7, k9, k14, k19, k29, k32, k35, k43, k46, k49, k52]; done) | (subst k52; simp_all [pm_op, pm_tru]; done) | (simp_all [pm_op, pm_tru]; done), ht⟩) (fun q hq => by cases hq) dX5_operate_255
  by_cases k53 : k = 18
  · refine lv_tableIn (off := 255) (tgt := 256) hx hb dX5_operate_1 (by rw [k53]; decide) (by rw [k53]; decide) (by rw [k53]; rfl) (by decide) ?_
    refine lv_iload_n hx hb dX5_operate_256 rfl (lv_at hl 1 rfl) ?_
    refine lv_iload_n hx hb dX5_operate_257 rfl (lv_at hl 2 rfl) ?_
    refine lv_imul hx hb dX5_operate_258 ?_
    exact W.iret (v := x * y) hx hb hr (fun t ht hW => ⟨x * y, rfl, by first | (subst k53; simp [pm_op, pm_tru, pu_nan]; done) | (simp [pm_op, pm_tru, k1, k2, k3, k5, k7, k9, k14, k19, k29, k32, k35, k43, k46, k49, k52, k53]; done) | (subst k53; simp_all [pm_op, pm_tru]; done) | (simp_all [pm_op, pm_tru]; done), ht⟩) (fun q hq => by cases hq) dX5_operate_259
  by_cases k54 : k = 9
  · refine lv_tableIn (off := 259) (tgt := 260) hx hb dX5_operate_1 (by rw [k54]; decide) (by rw [k54]; decide) (by rw [k54]; rfl) (by decide) ?_
    refine lv_iload_n hx hb dX5_operate_260 rfl (lv_at hl 1 rfl) ?_
    refine lv_iload_n hx hb dX5_operate_261 rfl (lv_at hl 2 rfl) ?_
    refine lv_iadd hx hb dX5_operate_262 ?_
    refine lv_if_le (tgt := 270) hx hb dX5_operate_263 (by decide) (fun h55 => ?_) (fun h55 => ?_)
    · skip
      have h55b := Int32.not_lt.mpr h55
      refine lv_iconst (v := 0) hx hb dX5_operate_270 (by decide) ?_
      refine vp_callSi (W.runS (As := [.int 0]) (rest := []) ⟨hx, hb, hml, hown, hts⟩ (ctX5_truth l 0) (va_cwS 1 hts (wA_wsS wm_ml_X5_69 wm_st_X5_truth wm_in_X5 wm_cd_X5_truth) rfl rfl rfl (by decide +kernel) ⟨Nat.le_of_ble_eq_true rfl, Nat.le_of_ble_eq_true rfl⟩) ⟨fun a U g mk q => q, fun U hU hW => ⟨rfl, trivial⟩⟩ rfl rfl hl.1 rfl (lv_room (Nat.le_of_ble_eq_true rfl)) dX5_operate_271 ⟨Nat.zero_le _, Nat.zero_le _⟩) (fun r56 er56 => ?_)
      subst er56
      exact W.iret (v := pm_tru 0) hx hb hr (fun t ht hW => ⟨pm_tru 0, rfl, by first | (subst k54; simp [pm_op, pm_tru, h55, h55b]; done) | (simp [pm_op, pm_tru, k1, k2, k3, k5, k7, k9, k14, k19, k29, k32, k35, k43, k46, k49, k52, k53, k54, h55, h55b]; done) | (subst k54; simp_all [pm_op, pm_tru]; done) | (simp_all [pm_op, pm_tru]; done), ht⟩) (fun q hq => by cases hq) dX5_operate_274
    · skip
      have h55b := Int32.not_le.mp h55
      refine lv_iconst (v := 1) hx hb dX5_operate_266 (by decide) ?_
      refine lv_goto (tgt := 271) hx hb dX5_operate_267 (by decide) ?_
      refine vp_callSi (W.runS (As := [.int 1]) (rest := []) ⟨hx, hb, hml, hown, hts⟩ (ctX5_truth l 1) (va_cwS 1 hts (wA_wsS wm_ml_X5_69 wm_st_X5_truth wm_in_X5 wm_cd_X5_truth) rfl rfl rfl (by decide +kernel) ⟨Nat.le_of_ble_eq_true rfl, Nat.le_of_ble_eq_true rfl⟩) ⟨fun a U g mk q => q, fun U hU hW => ⟨rfl, trivial⟩⟩ rfl rfl hl.1 rfl (lv_room (Nat.le_of_ble_eq_true rfl)) dX5_operate_271 ⟨Nat.zero_le _, Nat.zero_le _⟩) (fun r57 er57 => ?_)
      subst er57
      exact W.iret (v := pm_tru 1) hx hb hr (fun t ht hW => ⟨pm_tru 1, rfl, by first | (subst k54; simp [pm_op, pm_tru, h55, h55b]; done) | (simp [pm_op, pm_tru, k1, k2, k3, k5, k7, k9, k14, k19, k29, k32, k35, k43, k46, k49, k52, k53, k54, h55, h55b]; done) | (subst k54; simp_all [pm_op, pm_tru]; done) | (simp_all [pm_op, pm_tru]; done), ht⟩) (fun q hq => by cases hq) dX5_operate_274
  refine lv_tableOut (tgt := 260) hx hb dX5_operate_1 (sw_out 2 18 (by decide) (fun j h1 h2 e => ?_)) (by decide) ?_
  · rcases (show j = 2 ∨ j = 3 ∨ j = 4 ∨ j = 5 ∨ j = 6 ∨ j = 7 ∨ j = 8 ∨ j = 9 ∨ j = 10 ∨ j = 11 ∨ j = 12 ∨ j = 13 ∨ j = 14 ∨ j = 15 ∨ j = 16 ∨ j = 17 ∨ j = 18 by omega) with rfl | rfl | rfl | rfl | rfl | rfl | rfl | rfl | rfl | rfl | rfl | rfl | rfl | rfl | rfl | rfl | rfl
    · exact k1 e
    · exact k2 e
    · exact k3 e
    · exact k5 e
    · exact k7 e
    · exact k9 e
    · exact k14 e
    · exact k54 e
    · exact k19 e
    · exact k29 e
    · exact k32 e
    · exact k35 e
    · exact k43 e
    · exact k46 e
    · exact k49 e
    · exact k52 e
    · exact k53 e
  refine lv_iload_n hx hb dX5_operate_260 rfl (lv_at hl 1 rfl) ?_
  refine lv_iload_n hx hb dX5_operate_261 rfl (lv_at hl 2 rfl) ?_
  refine lv_iadd hx hb dX5_operate_262 ?_
  refine lv_if_le (tgt := 270) hx hb dX5_operate_263 (by decide) (fun h58 => ?_) (fun h58 => ?_)
  · skip
    have h58b := Int32.not_lt.mpr h58
    refine lv_iconst (v := 0) hx hb dX5_operate_270 (by decide) ?_
    refine vp_callSi (W.runS (As := [.int 0]) (rest := []) ⟨hx, hb, hml, hown, hts⟩ (ctX5_truth l 0) (va_cwS 1 hts (wA_wsS wm_ml_X5_69 wm_st_X5_truth wm_in_X5 wm_cd_X5_truth) rfl rfl rfl (by decide +kernel) ⟨Nat.le_of_ble_eq_true rfl, Nat.le_of_ble_eq_true rfl⟩) ⟨fun a U g mk q => q, fun U hU hW => ⟨rfl, trivial⟩⟩ rfl rfl hl.1 rfl (lv_room (Nat.le_of_ble_eq_true rfl)) dX5_operate_271 ⟨Nat.zero_le _, Nat.zero_le _⟩) (fun r59 er59 => ?_)
    subst er59
    exact W.iret (v := pm_tru 0) hx hb hr (fun t ht hW => ⟨pm_tru 0, rfl, by first | (subst k54; simp [pm_op, pm_tru, h58, h58b]; done) | (simp [pm_op, pm_tru, k1, k2, k3, k5, k7, k9, k14, k19, k29, k32, k35, k43, k46, k49, k52, k53, k54, h58, h58b]; done) | (subst k54; simp_all [pm_op, pm_tru]; done) | (simp_all [pm_op, pm_tru]; done), ht⟩) (fun q hq => by cases hq) dX5_operate_274
  · skip
    have h58b := Int32.not_le.mp h58
    refine lv_iconst (v := 1) hx hb dX5_operate_266 (by decide) ?_
    refine lv_goto (tgt := 271) hx hb dX5_operate_267 (by decide) ?_
    refine vp_callSi (W.runS (As := [.int 1]) (rest := []) ⟨hx, hb, hml, hown, hts⟩ (ctX5_truth l 1) (va_cwS 1 hts (wA_wsS wm_ml_X5_69 wm_st_X5_truth wm_in_X5 wm_cd_X5_truth) rfl rfl rfl (by decide +kernel) ⟨Nat.le_of_ble_eq_true rfl, Nat.le_of_ble_eq_true rfl⟩) ⟨fun a U g mk q => q, fun U hU hW => ⟨rfl, trivial⟩⟩ rfl rfl hl.1 rfl (lv_room (Nat.le_of_ble_eq_true rfl)) dX5_operate_271 ⟨Nat.zero_le _, Nat.zero_le _⟩) (fun r60 er60 => ?_)
    subst er60
    exact W.iret (v := pm_tru 1) hx hb hr (fun t ht hW => ⟨pm_tru 1, rfl, by first | (subst k54; simp [pm_op, pm_tru, h58, h58b]; done) | (simp [pm_op, pm_tru, k1, k2, k3, k5, k7, k9, k14, k19, k29, k32, k35, k43, k46, k49, k52, k53, k54, h58, h58b]; done) | (subst k54; simp_all [pm_op, pm_tru]; done) | (simp_all [pm_op, pm_tru]; done), ht⟩) (fun q hq => by cases hq) dX5_operate_274
end
section
/-! rows on arrays of ints, at places that are numbers -/
section XRA
variable {p : Program} {l : Launch} {e : Env} {R : Room} {s : State} {m : MethodId} {args : Array Value} {below : List Frame} {meth : Method} {c : Code} {H : Heap} {locs : List Loc} {cells slots : Nat} {Q : State → Prop}
variable {cc : ByteArray} {pc : Nat} {ls : Array Slot} {rest : List Value} {D : va_G} {cl : List vw_C} {A : Nat → Prop} {a : Nat} {tys : List (ClassId × FieldType)} {ws : va_W} {H0 : Heap}
theorem xr_iald (hexec : p.tables.exec = Jvm.exec) (hb : c.code = cc) (hK : va_K D cl tys s) (hP : va_P D cl ws H) (q0 t0 : Nat) {cA : ClassId} {n : Nat} {f : Nat → Int32} (ha : ws[q0]? = some (a, .inl (cA, n, .inl f))) (ht : tys[t0]? = some (cA, .int)) {t : Nat} (hlt : t < n) (hn : n < 2 ^ 31) {v : Int32} (hv : f t = v) (hdg : decode cc pc = .ok (.iaload, 1))
    (kk : W p l e R s m args below meth c H locs cells slots Q (F0 m (pc + 1) ls (.int v :: rest))) : W p l e R s m args below meth c H locs cells slots Q (F0 m pc ls (.int (nI t) :: .ref a :: rest)) := by
  refine va_iald hexec hb hK hP q0 t0 ha ht (vp_in_nI hlt hn) hdg ?_
  rw [nI_clamp (Nat.lt_trans hlt hn), hv]
  exact kk
theorem xr_iast (hexec : p.tables.exec = Jvm.exec) (hb : c.code = cc) (hK : va_K D cl tys s) (hP : va_P D cl ws H) (hD : va_D A ws) (hS : va_S A H0 H locs) (q0 t0 : Nat) {cA : ClassId} {n : Nat} {f : Nat → Int32} (ha : ws[q0]? = some (a, .inl (cA, n, .inl f))) (ht : tys[t0]? = some (cA, .int)) {t : Nat} (hlt : t < n) (hn : n < 2 ^ 31) {x : Int32} (hdg : decode cc pc = .ok (.iastore, 1))
    (kk : ∀ (H1 : Heap) (locs1 : List Loc), va_P D cl (ws.set q0 (a, .inl (cA, n, .inl (upd f t x)))) H1 → va_D A (ws.set q0 (a, .inl (cA, n, .inl (upd f t x)))) → va_S A H0 H1 locs1 → W p l e R s m args below meth c H1 locs1 cells slots Q (F0 m (pc + 1) ls rest)) : W p l e R s m args below meth c H locs cells slots Q (F0 m pc ls (.int x :: .int (nI t) :: .ref a :: rest)) := by
  refine va_iast hexec hb hK hP hD hS q0 t0 ha ht (vp_in_nI hlt hn) hdg fun H1 locs1 h1 h2 h3 => ?_
  rw [nI_clamp (Nat.lt_trans hlt hn)] at h1 h2
  exact kk H1 locs1 h1 h2 h3
end XRA
/-! the table's cells: its object, then kinds, firsts, seconds, thirds, parts, varying, answers -/
abbrev wT (cI : ClassId) (ad : Nat → Nat) (K A B C P V N : Nat → Int32) (n : Nat) : va_W :=
  [(ad 0, .inr (1, [.ref (ad 1), .ref (ad 2), .ref (ad 3), .ref (ad 4), .ref (ad 5), .ref (ad 6), .ref (ad 7), .int (nI n)])), (ad 1, .inl (cI, 12, .inl K)), (ad 2, .inl (cI, 12, .inl A)), (ad 3, .inl (cI, 12, .inl B)), (ad 4, .inl (cI, 12, .inl C)), (ad 5, .inl (cI, 12, .inl P)), (ad 6, .inl (cI, 2, .inl V)), (ad 7, .inl (cI, 12, .inl N))]
/-! small rows -/
theorem xh_a {x : Int32} {n : Nat} (hn : n ≤ 2560) (h : x < 0) : ¬ ∃ j, j < n ∧ x = nI j := by
  rintro ⟨j, hj, rfl⟩
  exact nI_pos (by omega) h
theorem xh_b {x : Int32} {n : Nat} (hn : n ≤ 2560) (h : nI n ≤ x) : ¬ ∃ j, j < n ∧ x = nI j := by
  rintro ⟨j, hj, rfl⟩
  exact nI_ge hj (by omega) h
theorem xh_c {x : Int32} {n : Nat} (hn : n ≤ 2560) (h : ¬ x < 0) (h2 : ¬ nI n ≤ x) : ∃ j, j < n ∧ x = nI j := by
  rcases pk_ix x (n := n) (by omega) with q | q | q
  · exact absurd q h
  · exact absurd q h2
  · exact q
theorem xh_inj {a b : Nat} (ha : a ≤ 2560) (hb : b ≤ 2560) (h : nI a = nI b) : a = b := (nI_eq (by omega) (by omega)).mp h
theorem px_tru_lo {κ : Nat} (h : κ < 10) : px_tru (nI κ) = 0 := by
  have : ∀ κ, κ < 10 → px_tru (nI κ) = 0 := by decide +kernel
  exact this κ h
theorem px_tru_hi {κ : Nat} (h : 10 ≤ κ) (h2 : κ < 20) : px_tru (nI κ) = 1 := by
  have : ∀ κ, κ < 20 → 10 ≤ κ → px_tru (nI κ) = 1 := by decide +kernel
  exact this κ h2 h
theorem px_s1_n {κ : Nat} (h : κ < 20) : px_s1 (nI κ) = nI (pv_s1 κ) := by
  have : ∀ κ, κ < 20 → px_s1 (nI κ) = nI (pv_s1 κ) := by decide +kernel
  exact this κ h
theorem px_s2_n {κ : Nat} (h : κ < 20) : px_s2 (nI κ) = nI (pv_s2 κ) := by
  have : ∀ κ, κ < 20 → px_s2 (nI κ) = nI (pv_s2 κ) := by decide +kernel
  exact this κ h
theorem px_s3_n {κ : Nat} (h : κ < 20) : px_s3 (nI κ) = nI (pv_s3 κ) := by
  have : ∀ κ, κ < 20 → px_s3 (nI κ) = nI (pv_s3 κ) := by decide +kernel
  exact this κ h
theorem px_knd_n {κ : Nat} (h : κ < 20) : px_knd (nI κ) = 1 := by
  have : ∀ κ, κ < 20 → px_knd (nI κ) = 1 := by decide +kernel
  exact this κ h
theorem px_knd_no {x : Int32} (h : ¬ ∃ κ, κ < 20 ∧ x = nI κ) : px_knd x = 0 := by
  unfold px_knd
  by_cases h1 : x < 0
  · rw [if_pos h1]
  · by_cases h2 : (19 : Int32) < x
    · rw [if_neg h1, if_pos h2]
    · exfalso
      refine h (xh_c (n := 20) (by omega) h1 fun z => h2 ?_)
      have z2 : (20 : Int32) ≤ x := z
      rw [Int32.lt_iff_toInt_lt]
      have := Int32.le_iff_toInt_le.mp z2
      have e1 : (20 : Int32).toInt = 20 := by decide
      have e2 : (19 : Int32).toInt = 19 := by decide
      omega
theorem px_ter_n {σ : Nat} (h : σ ≤ 4) : px_ter (nI σ) = if 3 ≤ σ then 1 else 0 := by
  have : ∀ σ, σ ≤ 4 → px_ter (nI σ) = if 3 ≤ σ then 1 else 0 := by decide +kernel
  exact this σ h
theorem pu_isn_y {j : Nat} (h : j < 32) : pu_isn (nI j) = 1 := by
  have : ∀ j, j < 32 → pu_isn (nI j) = 1 := by decide +kernel
  exact this j h
theorem pu_isn_no {x : Int32} (h : ¬ ∃ j, j < 32 ∧ x = nI j) : pu_isn x = 0 := by
  unfold pu_isn
  by_cases h1 : x < 0
  · rw [if_pos h1]
  · by_cases h2 : (31 : Int32) < x
    · rw [if_neg h1, if_pos h2]
    · exfalso
      refine h (xh_c (n := 32) (by omega) h1 fun z => h2 ?_)
      have z2 : (32 : Int32) ≤ x := z
      rw [Int32.lt_iff_toInt_lt]
      have := Int32.le_iff_toInt_le.mp z2
      have e1 : (32 : Int32).toInt = 32 := by decide
      have e2 : (31 : Int32).toInt = 31 := by decide
      omega
theorem pq_alw_n {k : Nat → Nat} {n κ : Nat} {a b c : Int32} (h : κ < 20) : pq_alw k n (nI κ) a b c ↔ pq_fit k n (pv_s1 κ) a ∧ pq_fit k n (pv_s2 κ) b ∧ pq_fit k n (pv_s3 κ) c := by
  constructor
  · rintro ⟨κ', h1, h2, h3⟩
    have e := xh_inj (by omega) (by omega) h2
    subst e
    exact h3
  · exact fun h3 => ⟨κ, h, rfl, h3⟩
section TT1
variable (l : Launch) (dC : Nat → ClassId) (dI : Nat → Nat → Nat) (cI : ClassId) (ad : Nat → Nat) (aK aA aB aC aP aV aN : Nat → Int32) (n : Nat)
set_option maxHeartbeats 4000000 in
set_option maxRecDepth 100000 in
theorem ctX3_count  : Met l yX3_count wsX3_count ({ frames := 0, cells := 0, slots := 0, locals := 0 }) (va_Pc [.ref (ad 0)] (fun U => va_P (dC, dI) vwCl (wT cI ad aK aA aB aC aP aV aN n) U.heap ∧ va_K (dC, dI) vwCl [(cI, .int)] U)) (vp_Si (fun r => r = nI n)) 0 0 (fun _ => False) := by
  refine Met.ofW (cc := cX3_count) (maxL := 1) (ret := (some .int)) (by decide) rfl ?_
  intro p e s m args below meth c s₁ B hml hv
  obtain ⟨rfl, hP, hK⟩ := hv
  have hx := B.exec
  have hb := B.bytes
  have hr := B.returns
  have hts := atoms_spec (ws := wsX3_count) B.pre
  have hown : s.vm.findClass RX3 = some m.cls := findClass_of_methodNamed B.named
  have hlocks := B.notSynchronized
  have hl := lv_entry ([.ref (ad 0)]) (n := 1) (Nat.le_of_ble_eq_true rfl)
  rw [lg_entry_eq]
  generalize (lg_sl ([.ref (ad 0)]) ++ List.replicate (1 - (lg_sl ([.ref (ad 0)])).length) Slot.unset).toArray = ls at hl ⊢
  have hl : lv_has ls 1 [(0, .ref (ad 0))] := hl
  refine lv_aload_n hx hb dX3_count_0 rfl (lv_at hl 0 rfl) ?_
  refine va_get (D := (dC, dI)) (ci := 1) (v := .int (nI n)) (C := RX3) (T := TX3) (N := 8) hx hb hts (fun w h => List.mem_cons_of_mem _ (wf_X3 w h)) hown hK hP 0 rfl rfl 7 (by decide) (hts _ (List.mem_cons_of_mem _ wm_fl_X3_33)) (fun _ h9 => h9) rfl dX3_count_1 ?_
  exact W.iret (v := nI n) hx hb hr (fun t9 ht9 hW9 => ⟨nI n, rfl, rfl, ht9⟩) (fun q hq => by cases hq) dX3_count_4
set_option maxHeartbeats 4000000 in
set_option maxRecDepth 100000 in
theorem ctX3_isFull (hn : n ≤ 12) : Met l yX3_isFull wsX3_isFull ({ frames := 0, cells := 0, slots := 0, locals := 0 }) (va_Pc [.ref (ad 0)] (fun U => va_P (dC, dI) vwCl (wT cI ad aK aA aB aC aP aV aN n) U.heap ∧ va_K (dC, dI) vwCl [(cI, .int)] U)) (vp_Si (fun r => (r = 0 ∧ n < 12) ∨ (r = 1 ∧ n = 12))) 0 0 (fun _ => False) := by
  refine Met.ofW (cc := cX3_isFull) (maxL := 1) (ret := (some .boolean)) (by decide) rfl ?_
  intro p e s m args below meth c s₁ B hml hv
  obtain ⟨rfl, hP, hK⟩ := hv
  have hx := B.exec
  have hb := B.bytes
  have hr := B.returns
  have hts := atoms_spec (ws := wsX3_isFull) B.pre
  have hown : s.vm.findClass RX3 = some m.cls := findClass_of_methodNamed B.named
  have hlocks := B.notSynchronized
  have hl := lv_entry ([.ref (ad 0)]) (n := 1) (Nat.le_of_ble_eq_true rfl)
  rw [lg_entry_eq]
  generalize (lg_sl ([.ref (ad 0)]) ++ List.replicate (1 - (lg_sl ([.ref (ad 0)])).length) Slot.unset).toArray = ls at hl ⊢
  have hl : lv_has ls 1 [(0, .ref (ad 0))] := hl
  refine lv_aload_n hx hb dX3_isFull_0 rfl (lv_at hl 0 rfl) ?_
  refine va_get (D := (dC, dI)) (ci := 1) (v := .int (nI n)) (C := RX3) (T := TX3) (N := 8) hx hb hts (fun w h => List.mem_cons_of_mem _ (wf_X3 w h)) hown hK hP 0 rfl rfl 7 (by decide) (hts _ (List.mem_cons_of_mem _ wm_fl_X3_33)) (fun _ h9 => h9) rfl dX3_isFull_1 ?_
  refine lv_bipush (v := nI 12) hx hb dX3_isFull_4 (by decide) ?_
  refine lv_icmp_lt (tgt := 13) hx hb dX3_isFull_6 (by decide) (fun h1 => ?_) (fun h1 => ?_)
  · skip
    have h1 : n < 12 := (nI_ltI (a := n) (b := 12) (by omega) (by omega)).mp h1
    refine lv_iconst (v := 0) hx hb dX3_isFull_13 (by decide) ?_
    exact W.zret (v := 0) hx hb hr (rfl) (fun t9 ht9 hW9 => ⟨0, rfl, Or.inl ⟨rfl, h1⟩, ht9⟩) (fun q hq => by cases hq) dX3_isFull_14
  · skip
    have h1 : ¬ n < 12 := fun z => h1 ((nI_ltI (a := n) (b := 12) (by omega) (by omega)).mpr z)
    refine lv_iconst (v := nI 1) hx hb dX3_isFull_9 (by decide) ?_
    refine lv_goto (tgt := 14) hx hb dX3_isFull_10 (by decide) ?_
    exact W.zret (v := nI 1) hx hb hr (rfl) (fun t9 ht9 hW9 => ⟨nI 1, rfl, Or.inr ⟨rfl, by omega⟩, ht9⟩) (fun q hq => by cases hq) dX3_isFull_14
set_option maxHeartbeats 4000000 in
set_option maxRecDepth 100000 in
theorem ctX3_has (hn : n ≤ 12) (x : Int32) : Met l yX3_has wsX3_has ({ frames := 0, cells := 0, slots := 0, locals := 0 }) (va_Pc [.ref (ad 0), .int x] (fun U => va_P (dC, dI) vwCl (wT cI ad aK aA aB aC aP aV aN n) U.heap ∧ va_K (dC, dI) vwCl [(cI, .int)] U)) (vp_Si (fun r => (r = 1 ∧ ∃ j, j < n ∧ x = nI j) ∨ (r = 0 ∧ ¬ ∃ j, j < n ∧ x = nI j))) 0 0 (fun _ => False) := by
  refine Met.ofW (cc := cX3_has) (maxL := 2) (ret := (some .boolean)) (by decide) rfl ?_
  intro p e s m args below meth c s₁ B hml hv
  obtain ⟨rfl, hP, hK⟩ := hv
  have hx := B.exec
  have hb := B.bytes
  have hr := B.returns
  have hts := atoms_spec (ws := wsX3_has) B.pre
  have hown : s.vm.findClass RX3 = some m.cls := findClass_of_methodNamed B.named
  have hlocks := B.notSynchronized
  have hl := lv_entry ([.ref (ad 0), .int x]) (n := 2) (Nat.le_of_ble_eq_true rfl)
  rw [lg_entry_eq]
  generalize (lg_sl ([.ref (ad 0), .int x]) ++ List.replicate (2 - (lg_sl ([.ref (ad 0), .int x])).length) Slot.unset).toArray = ls at hl ⊢
  have hl : lv_has ls 2 [(0, .ref (ad 0)), (1, .int x)] := hl
  refine lv_iload_n hx hb dX3_has_0 rfl (lv_at hl 1 rfl) ?_
  refine lv_if_lt (tgt := 16) hx hb dX3_has_1 (by decide) (fun h1 => ?_) (fun h1 => ?_)
  · skip
    refine lv_iconst (v := 0) hx hb dX3_has_16 (by decide) ?_
    exact W.zret (v := 0) hx hb hr (rfl) (fun t9 ht9 hW9 => ⟨0, rfl, Or.inr ⟨rfl, xh_a (by omega) h1⟩, ht9⟩) (fun q hq => by cases hq) dX3_has_17
  · skip
    refine lv_iload_n hx hb dX3_has_4 rfl (lv_at hl 1 rfl) ?_
    refine lv_aload_n hx hb dX3_has_5 rfl (lv_at hl 0 rfl) ?_
    refine va_get (D := (dC, dI)) (ci := 1) (v := .int (nI n)) (C := RX3) (T := TX3) (N := 8) hx hb hts (fun w h => List.mem_cons_of_mem _ (wf_X3 w h)) hown hK hP 0 rfl rfl 7 (by decide) (hts _ (List.mem_cons_of_mem _ wm_fl_X3_33)) (fun _ h9 => h9) rfl dX3_has_6 ?_
    refine lv_icmp_ge (tgt := 16) hx hb dX3_has_9 (by decide) (fun h2 => ?_) (fun h2 => ?_)
    · skip
      refine lv_iconst (v := 0) hx hb dX3_has_16 (by decide) ?_
      exact W.zret (v := 0) hx hb hr (rfl) (fun t9 ht9 hW9 => ⟨0, rfl, Or.inr ⟨rfl, xh_b (by omega) h2⟩, ht9⟩) (fun q hq => by cases hq) dX3_has_17
    · skip
      refine lv_iconst (v := nI 1) hx hb dX3_has_12 (by decide) ?_
      refine lv_goto (tgt := 17) hx hb dX3_has_13 (by decide) ?_
      exact W.zret (v := nI 1) hx hb hr (rfl) (fun t9 ht9 hW9 => ⟨nI 1, rfl, Or.inl ⟨rfl, xh_c (by omega) h1 h2⟩, ht9⟩) (fun q hq => by cases hq) dX3_has_17
set_option maxHeartbeats 4000000 in
set_option maxRecDepth 100000 in
theorem ctX3_isTruth (hn : n ≤ 12) (fk : Nat → Nat) (hk : ∀ t, t < n → aK t = nI (fk t)) (hk2 : ∀ t, t < n → fk t < 20) (x : Int32) : Met l yX3_isTruth wsX3_isTruth ({ frames := 1, cells := 0, slots := 0, locals := 21 }) (va_Pc [.ref (ad 0), .int x] (fun U => va_P (dC, dI) vwCl (wT cI ad aK aA aB aC aP aV aN n) U.heap ∧ va_K (dC, dI) vwCl [(cI, .int)] U)) (vp_Si (fun r => (r = 1 ∧ ∃ j, j < n ∧ x = nI j ∧ 10 ≤ fk j) ∨ (r = 0 ∧ ¬ ∃ j, j < n ∧ x = nI j ∧ 10 ≤ fk j))) 0 0 (fun _ => False) := by
  refine Met.ofW (cc := cX3_isTruth) (maxL := 2) (ret := (some .boolean)) (by decide) rfl ?_
  intro p e s m args below meth c s₁ B hml hv
  obtain ⟨rfl, hP, hK⟩ := hv
  have hx := B.exec
  have hb := B.bytes
  have hr := B.returns
  have hts := atoms_spec (ws := wsX3_isTruth) B.pre
  have hown : s.vm.findClass RX3 = some m.cls := findClass_of_methodNamed B.named
  have hlocks := B.notSynchronized
  have hl := lv_entry ([.ref (ad 0), .int x]) (n := 2) (Nat.le_of_ble_eq_true rfl)
  rw [lg_entry_eq]
  generalize (lg_sl ([.ref (ad 0), .int x]) ++ List.replicate (2 - (lg_sl ([.ref (ad 0), .int x])).length) Slot.unset).toArray = ls at hl ⊢
  have hl : lv_has ls 2 [(0, .ref (ad 0)), (1, .int x)] := hl
  refine lv_aload_n hx hb dX3_isTruth_0 rfl (lv_at hl 0 rfl) ?_
  refine lv_iload_n hx hb dX3_isTruth_1 rfl (lv_at hl 1 rfl) ?_
  refine vp_callSi (W.runV (C := RX3) (b := ad 0) (As := [.int x]) (rest := []) ⟨hx, hb, hml, hown, hts⟩ (ctX3_has l dC dI cI ad aK aA aB aC aP aV aN n hn x) (cwV 1 hts (wA_wsV wm_ml_X3_37 wm_im_X3_has wm_se_X3_has wm_in_X3 wm_cd_X3_has) rfl rfl rfl (by decide +kernel) ⟨Nat.le_of_ble_eq_true rfl, Nat.le_of_ble_eq_true rfl⟩) ⟨fun a U g mk q => by obtain ⟨q0, qP, qK⟩ := q; exact ⟨q0, qP, va_K.moved (u := U) (U := U.calling g mk a) (Vm.Alike.refl U.vm) qK⟩, va_recv (q := (RX3, TX3, 8)) (q0 := 0) hK hP rfl rfl, fun U hU hW => ⟨rfl, by rw [hU]; exact hP, va_K.moved hW.alike hK⟩⟩ rfl rfl hl.1 rfl (lv_room (Nat.le_of_ble_eq_true rfl)) dX3_isTruth_2 ⟨Nat.zero_le _, Nat.zero_le _⟩) (fun r1 er1 => ?_)
  rcases er1 with ⟨rfl, j, hj, rfl⟩ | ⟨rfl, hno⟩
  · skip
    refine lv_if_eq (tgt := 24) hx hb dX3_isTruth_5 (by decide) (fun h2 => absurd h2 (by decide)) (fun _ => ?_)
    refine lv_aload_n hx hb dX3_isTruth_8 rfl (lv_at hl 0 rfl) ?_
    refine va_get (D := (dC, dI)) (ci := 1) (v := .ref (ad 1)) (C := RX3) (T := TX3) (N := 8) hx hb hts (fun w h => List.mem_cons_of_mem _ (wf_X3 w h)) hown hK hP 0 rfl rfl 0 (by decide) (hts _ (List.mem_cons_of_mem _ wm_fl_X3_9)) (fun _ h9 => h9) rfl dX3_isTruth_9 ?_
    refine lv_iload_n hx hb dX3_isTruth_12 rfl (lv_at hl 1 rfl) ?_
    refine xr_iald (t := j) (v := nI (fk j)) hx hb hK hP 1 0 rfl rfl (by omega) (by omega) (hk j (by omega)) dX3_isTruth_13 ?_
    refine vp_callSi (W.runS (As := [.int (nI (fk j))]) (rest := []) ⟨hx, hb, hml, hown, hts⟩ (ctX2_givesTruth l (nI (fk j))) (va_cwS 1 hts (wA_wsS wm_ml_X3_41 wm_st_X2_givesTruth wm_in_X2 wm_cd_X2_givesTruth) rfl rfl rfl (by decide +kernel) ⟨Nat.le_of_ble_eq_true rfl, Nat.le_of_ble_eq_true rfl⟩) ⟨fun a U g mk q => q, fun U hU hW => ⟨rfl, trivial⟩⟩ rfl rfl hl.1 rfl (lv_room (Nat.le_of_ble_eq_true rfl)) dX3_isTruth_14 ⟨Nat.zero_le _, Nat.zero_le _⟩) (fun r3 er3 => ?_)
    by_cases h10 : fk j < 10
    · rw [px_tru_lo h10] at er3
      subst er3
      refine lv_if_eq (tgt := 24) hx hb dX3_isTruth_17 (by decide) (fun _ => ?_) (fun h4 => absurd (by decide) h4)
      refine lv_iconst (v := 0) hx hb dX3_isTruth_24 (by decide) ?_
      exact W.zret (v := 0) hx hb hr (rfl) (fun t9 ht9 hW9 => ⟨0, rfl, Or.inr ⟨rfl, fun ⟨i, h1, h2, h3⟩ => by have e := xh_inj (by omega) (by omega) h2; subst e; omega⟩, ht9⟩) (fun q hq => by cases hq) dX3_isTruth_25
    · rw [px_tru_hi (by omega) (hk2 j hj)] at er3
      subst er3
      refine lv_if_eq (tgt := 24) hx hb dX3_isTruth_17 (by decide) (fun h5 => absurd h5 (by decide)) (fun _ => ?_)
      refine lv_iconst (v := nI 1) hx hb dX3_isTruth_20 (by decide) ?_
      refine lv_goto (tgt := 25) hx hb dX3_isTruth_21 (by decide) ?_
      exact W.zret (v := nI 1) hx hb hr (rfl) (fun t9 ht9 hW9 => ⟨nI 1, rfl, Or.inl ⟨rfl, j, hj, rfl, by omega⟩, ht9⟩) (fun q hq => by cases hq) dX3_isTruth_25
  · skip
    refine lv_if_eq (tgt := 24) hx hb dX3_isTruth_5 (by decide) (fun _ => ?_) (fun h6 => absurd (by decide) h6)
    refine lv_iconst (v := 0) hx hb dX3_isTruth_24 (by decide) ?_
    exact W.zret (v := 0) hx hb hr (rfl) (fun t9 ht9 hW9 => ⟨0, rfl, Or.inr ⟨rfl, fun ⟨j, h1, h2, _⟩ => hno ⟨j, h1, h2⟩⟩, ht9⟩) (fun q hq => by cases hq) dX3_isTruth_25
set_option maxHeartbeats 4000000 in
set_option maxRecDepth 100000 in
theorem ctX3_isNumberTerm (hn : n ≤ 12) (fk : Nat → Nat) (hk : ∀ t, t < n → aK t = nI (fk t)) (hk2 : ∀ t, t < n → fk t < 20) (x : Int32) : Met l yX3_isNumberTerm wsX3_isNumberTerm ({ frames := 1, cells := 0, slots := 0, locals := 21 }) (va_Pc [.ref (ad 0), .int x] (fun U => va_P (dC, dI) vwCl (wT cI ad aK aA aB aC aP aV aN n) U.heap ∧ va_K (dC, dI) vwCl [(cI, .int)] U)) (vp_Si (fun r => (r = 1 ∧ ∃ j, j < n ∧ x = nI j ∧ fk j < 10) ∨ (r = 0 ∧ ¬ ∃ j, j < n ∧ x = nI j ∧ fk j < 10))) 0 0 (fun _ => False) := by
  refine Met.ofW (cc := cX3_isNumberTerm) (maxL := 2) (ret := (some .boolean)) (by decide) rfl ?_
  intro p e s m args below meth c s₁ B hml hv
  obtain ⟨rfl, hP, hK⟩ := hv
  have hx := B.exec
  have hb := B.bytes
  have hr := B.returns
  have hts := atoms_spec (ws := wsX3_isNumberTerm) B.pre
  have hown : s.vm.findClass RX3 = some m.cls := findClass_of_methodNamed B.named
  have hlocks := B.notSynchronized
  have hl := lv_entry ([.ref (ad 0), .int x]) (n := 2) (Nat.le_of_ble_eq_true rfl)
  rw [lg_entry_eq]
  generalize (lg_sl ([.ref (ad 0), .int x]) ++ List.replicate (2 - (lg_sl ([.ref (ad 0), .int x])).length) Slot.unset).toArray = ls at hl ⊢
  have hl : lv_has ls 2 [(0, .ref (ad 0)), (1, .int x)] := hl
  refine lv_aload_n hx hb dX3_isNumberTerm_0 rfl (lv_at hl 0 rfl) ?_
  refine lv_iload_n hx hb dX3_isNumberTerm_1 rfl (lv_at hl 1 rfl) ?_
  refine vp_callSi (W.runV (C := RX3) (b := ad 0) (As := [.int x]) (rest := []) ⟨hx, hb, hml, hown, hts⟩ (ctX3_has l dC dI cI ad aK aA aB aC aP aV aN n hn x) (cwV 1 hts (wA_wsV wm_ml_X3_37 wm_im_X3_has wm_se_X3_has wm_in_X3 wm_cd_X3_has) rfl rfl rfl (by decide +kernel) ⟨Nat.le_of_ble_eq_true rfl, Nat.le_of_ble_eq_true rfl⟩) ⟨fun a U g mk q => by obtain ⟨q0, qP, qK⟩ := q; exact ⟨q0, qP, va_K.moved (u := U) (U := U.calling g mk a) (Vm.Alike.refl U.vm) qK⟩, va_recv (q := (RX3, TX3, 8)) (q0 := 0) hK hP rfl rfl, fun U hU hW => ⟨rfl, by rw [hU]; exact hP, va_K.moved hW.alike hK⟩⟩ rfl rfl hl.1 rfl (lv_room (Nat.le_of_ble_eq_true rfl)) dX3_isNumberTerm_2 ⟨Nat.zero_le _, Nat.zero_le _⟩) (fun r1 er1 => ?_)
  rcases er1 with ⟨rfl, j, hj, rfl⟩ | ⟨rfl, hno⟩
  · skip
    refine lv_if_eq (tgt := 24) hx hb dX3_isNumberTerm_5 (by decide) (fun h2 => absurd h2 (by decide)) (fun _ => ?_)
    refine lv_aload_n hx hb dX3_isNumberTerm_8 rfl (lv_at hl 0 rfl) ?_
    refine va_get (D := (dC, dI)) (ci := 1) (v := .ref (ad 1)) (C := RX3) (T := TX3) (N := 8) hx hb hts (fun w h => List.mem_cons_of_mem _ (wf_X3 w h)) hown hK hP 0 rfl rfl 0 (by decide) (hts _ (List.mem_cons_of_mem _ wm_fl_X3_9)) (fun _ h9 => h9) rfl dX3_isNumberTerm_9 ?_
    refine lv_iload_n hx hb dX3_isNumberTerm_12 rfl (lv_at hl 1 rfl) ?_
    refine xr_iald (t := j) (v := nI (fk j)) hx hb hK hP 1 0 rfl rfl (by omega) (by omega) (hk j (by omega)) dX3_isNumberTerm_13 ?_
    refine vp_callSi (W.runS (As := [.int (nI (fk j))]) (rest := []) ⟨hx, hb, hml, hown, hts⟩ (ctX2_givesTruth l (nI (fk j))) (va_cwS 1 hts (wA_wsS wm_ml_X3_41 wm_st_X2_givesTruth wm_in_X2 wm_cd_X2_givesTruth) rfl rfl rfl (by decide +kernel) ⟨Nat.le_of_ble_eq_true rfl, Nat.le_of_ble_eq_true rfl⟩) ⟨fun a U g mk q => q, fun U hU hW => ⟨rfl, trivial⟩⟩ rfl rfl hl.1 rfl (lv_room (Nat.le_of_ble_eq_true rfl)) dX3_isNumberTerm_14 ⟨Nat.zero_le _, Nat.zero_le _⟩) (fun r3 er3 => ?_)
    by_cases h10 : fk j < 10
    · rw [px_tru_lo h10] at er3
      subst er3
      refine lv_if_ne (tgt := 24) hx hb dX3_isNumberTerm_17 (by decide) (fun h4 => absurd (by decide) h4) (fun _ => ?_)
      refine lv_iconst (v := nI 1) hx hb dX3_isNumberTerm_20 (by decide) ?_
      refine lv_goto (tgt := 25) hx hb dX3_isNumberTerm_21 (by decide) ?_
      exact W.zret (v := nI 1) hx hb hr (rfl) (fun t9 ht9 hW9 => ⟨nI 1, rfl, Or.inl ⟨rfl, j, hj, rfl, by omega⟩, ht9⟩) (fun q hq => by cases hq) dX3_isNumberTerm_25
    · rw [px_tru_hi (by omega) (hk2 j hj)] at er3
      subst er3
      refine lv_if_ne (tgt := 24) hx hb dX3_isNumberTerm_17 (by decide) (fun _ => ?_) (fun h5 => absurd h5 (by decide))
      refine lv_iconst (v := 0) hx hb dX3_isNumberTerm_24 (by decide) ?_
      exact W.zret (v := 0) hx hb hr (rfl) (fun t9 ht9 hW9 => ⟨0, rfl, Or.inr ⟨rfl, fun ⟨i, h1, h2, h3⟩ => by have e := xh_inj (by omega) (by omega) h2; subst e; omega⟩, ht9⟩) (fun q hq => by cases hq) dX3_isNumberTerm_25
  · skip
    refine lv_if_eq (tgt := 24) hx hb dX3_isNumberTerm_5 (by decide) (fun _ => ?_) (fun h6 => absurd (by decide) h6)
    refine lv_iconst (v := 0) hx hb dX3_isNumberTerm_24 (by decide) ?_
    exact W.zret (v := 0) hx hb hr (rfl) (fun t9 ht9 hW9 => ⟨0, rfl, Or.inr ⟨rfl, fun ⟨j, h1, h2, _⟩ => hno ⟨j, h1, h2⟩⟩, ht9⟩) (fun q hq => by cases hq) dX3_isNumberTerm_25
set_option maxHeartbeats 4000000 in
set_option maxRecDepth 100000 in
theorem ctX3_fits (hn : n ≤ 12) (fk : Nat → Nat) (hk : ∀ t, t < n → aK t = nI (fk t)) (hk2 : ∀ t, t < n → fk t < 20) (σ : Nat) (hσ : σ ≤ 4) (x : Int32) : Met l yX3_fits wsX3_fits ({ frames := 2, cells := 0, slots := 0, locals := 42 }) (va_Pc [.ref (ad 0), .int (nI σ), .int x] (fun U => va_P (dC, dI) vwCl (wT cI ad aK aA aB aC aP aV aN n) U.heap ∧ va_K (dC, dI) vwCl [(cI, .int)] U)) (vp_Si (fun r => (r = 1 ∧ pq_fit fk n σ x) ∨ (r = 0 ∧ ¬ pq_fit fk n σ x))) 0 0 (fun _ => False) := by
  refine Met.ofW (cc := cX3_fits) (maxL := 3) (ret := (some .boolean)) (by decide) rfl ?_
  intro p e s m args below meth c s₁ B hml hv
  obtain ⟨rfl, hP, hK⟩ := hv
  have hx := B.exec
  have hb := B.bytes
  have hr := B.returns
  have hts := atoms_spec (ws := wsX3_fits) B.pre
  have hown : s.vm.findClass RX3 = some m.cls := findClass_of_methodNamed B.named
  have hlocks := B.notSynchronized
  have hl := lv_entry ([.ref (ad 0), .int (nI σ), .int x]) (n := 3) (Nat.le_of_ble_eq_true rfl)
  rw [lg_entry_eq]
  generalize (lg_sl ([.ref (ad 0), .int (nI σ), .int x]) ++ List.replicate (3 - (lg_sl ([.ref (ad 0), .int (nI σ), .int x])).length) Slot.unset).toArray = ls at hl ⊢
  have hl : lv_has ls 3 [(0, .ref (ad 0)), (1, .int (nI σ)), (2, .int x)] := hl
  refine lv_iload_n hx hb dX3_fits_0 rfl (lv_at hl 1 rfl) ?_
  rcases (show σ = 0 ∨ σ = 1 ∨ σ = 2 ∨ σ = 3 ∨ σ = 4 by omega) with rfl | rfl | rfl | rfl | rfl
  · refine lv_tableOut (tgt := 64) hx hb dX3_fits_1 (by decide) (by decide) ?_
    refine lv_iconst (v := nI 1) hx hb dX3_fits_64 (by decide) ?_
    exact W.zret (v := nI 1) hx hb hr (rfl) (fun t9 ht9 hW9 => ⟨nI 1, rfl, Or.inl ⟨rfl, Or.inl rfl⟩, ht9⟩) (fun q hq => by cases hq) dX3_fits_65
  · refine lv_tableIn (off := 31) (tgt := 32) hx hb dX3_fits_1 (by decide) (by decide) (by decide) (by decide) ?_
    refine lv_iload_n hx hb dX3_fits_32 rfl (lv_at hl 2 rfl) ?_
    refine lv_if_lt (tgt := 45) hx hb dX3_fits_33 (by decide) (fun h1 => ?_) (fun h1 => ?_)
    · skip
      refine lv_iconst (v := 0) hx hb dX3_fits_45 (by decide) ?_
      exact W.zret (v := 0) hx hb hr (rfl) (fun t9 ht9 hW9 => ⟨0, rfl, Or.inr ⟨rfl, by rintro (z | ⟨z, q⟩ | ⟨z, q⟩ | ⟨z, q⟩ | ⟨z, q⟩) <;> first | omega | exact (xh_a (n := 2) (by omega) h1) q⟩, ht9⟩) (fun q hq => by cases hq) dX3_fits_46
    · skip
      refine lv_iload_n hx hb dX3_fits_36 rfl (lv_at hl 2 rfl) ?_
      refine lv_iconst (v := nI 2) hx hb dX3_fits_37 (by decide) ?_
      refine lv_icmp_ge (tgt := 45) hx hb dX3_fits_38 (by decide) (fun h2 => ?_) (fun h2 => ?_)
      · skip
        refine lv_iconst (v := 0) hx hb dX3_fits_45 (by decide) ?_
        exact W.zret (v := 0) hx hb hr (rfl) (fun t9 ht9 hW9 => ⟨0, rfl, Or.inr ⟨rfl, by rintro (z | ⟨z, q⟩ | ⟨z, q⟩ | ⟨z, q⟩ | ⟨z, q⟩) <;> first | omega | exact (xh_b (n := 2) (by omega) h2) q⟩, ht9⟩) (fun q hq => by cases hq) dX3_fits_46
      · skip
        refine lv_iconst (v := nI 1) hx hb dX3_fits_41 (by decide) ?_
        refine lv_goto (tgt := 46) hx hb dX3_fits_42 (by decide) ?_
        exact W.zret (v := nI 1) hx hb hr (rfl) (fun t9 ht9 hW9 => ⟨nI 1, rfl, Or.inl ⟨rfl, Or.inr (Or.inl ⟨rfl, xh_c (n := 2) (by omega) h1 h2⟩)⟩, ht9⟩) (fun q hq => by cases hq) dX3_fits_46
  · refine lv_tableIn (off := 46) (tgt := 47) hx hb dX3_fits_1 (by decide) (by decide) (by decide) (by decide) ?_
    refine lv_iload_n hx hb dX3_fits_47 rfl (lv_at hl 2 rfl) ?_
    refine vp_callSi (W.runS (As := [.int x]) (rest := []) ⟨hx, hb, hml, hown, hts⟩ (ctX1_isNumber l x) (va_cwS 1 hts (wA_wsS wm_ml_X3_63 wm_st_X1_isNumber wm_in_X1 wm_cd_X1_isNumber) rfl rfl rfl (by decide +kernel) ⟨Nat.le_of_ble_eq_true rfl, Nat.le_of_ble_eq_true rfl⟩) ⟨fun a U g mk q => q, fun U hU hW => ⟨rfl, trivial⟩⟩ rfl rfl hl.1 rfl (lv_room (Nat.le_of_ble_eq_true rfl)) dX3_fits_48 ⟨Nat.zero_le _, Nat.zero_le _⟩) (fun r3 er3 => ?_)
    by_cases h32 : ∃ j, j < 32 ∧ x = nI j
    · obtain ⟨j, hj, rfl⟩ := h32
      rw [pu_isn_y hj] at er3
      subst er3
      exact W.zret (v := 1) hx hb hr (rfl) (fun t9 ht9 hW9 => ⟨1, rfl, Or.inl ⟨rfl, Or.inr (Or.inr (Or.inl ⟨rfl, j, hj, rfl⟩))⟩, ht9⟩) (fun q hq => by cases hq) dX3_fits_51
    · rw [pu_isn_no h32] at er3
      subst er3
      exact W.zret (v := 0) hx hb hr (rfl) (fun t9 ht9 hW9 => ⟨0, rfl, Or.inr ⟨rfl, by rintro (z | ⟨z, q⟩ | ⟨z, q⟩ | ⟨z, q⟩ | ⟨z, q⟩) <;> first | omega | exact h32 q⟩, ht9⟩) (fun q hq => by cases hq) dX3_fits_51
  · refine lv_tableIn (off := 51) (tgt := 52) hx hb dX3_fits_1 (by decide) (by decide) (by decide) (by decide) ?_
    refine lv_aload_n hx hb dX3_fits_52 rfl (lv_at hl 0 rfl) ?_
    refine lv_iload_n hx hb dX3_fits_53 rfl (lv_at hl 2 rfl) ?_
    refine vp_callSi (W.runV (C := RX3) (b := ad 0) (As := [.int x]) (rest := []) ⟨hx, hb, hml, hown, hts⟩ (ctX3_isNumberTerm l dC dI cI ad aK aA aB aC aP aV aN n hn fk hk hk2 x) (cwV 1 hts (wA_wsV wm_ml_X3_68 wm_im_X3_isNumberTerm wm_se_X3_isNumberTerm wm_in_X3 wm_cd_X3_isNumberTerm) rfl rfl rfl (by decide +kernel) ⟨Nat.le_of_ble_eq_true rfl, Nat.le_of_ble_eq_true rfl⟩) ⟨fun a U g mk q => by obtain ⟨q0, qP, qK⟩ := q; exact ⟨q0, qP, va_K.moved (u := U) (U := U.calling g mk a) (Vm.Alike.refl U.vm) qK⟩, va_recv (q := (RX3, TX3, 8)) (q0 := 0) hK hP rfl rfl, fun U hU hW => ⟨rfl, by rw [hU]; exact hP, va_K.moved hW.alike hK⟩⟩ rfl rfl hl.1 rfl (lv_room (Nat.le_of_ble_eq_true rfl)) dX3_fits_54 ⟨Nat.zero_le _, Nat.zero_le _⟩) (fun r4 er4 => ?_)
    rcases er4 with ⟨rfl, hy⟩ | ⟨rfl, hno⟩
    · skip
      exact W.zret (v := 1) hx hb hr (rfl) (fun t9 ht9 hW9 => ⟨1, rfl, Or.inl ⟨rfl, Or.inr (Or.inr (Or.inr (Or.inl ⟨rfl, hy⟩)))⟩, ht9⟩) (fun q hq => by cases hq) dX3_fits_57
    · skip
      exact W.zret (v := 0) hx hb hr (rfl) (fun t9 ht9 hW9 => ⟨0, rfl, Or.inr ⟨rfl, by rintro (z | ⟨z, q⟩ | ⟨z, q⟩ | ⟨z, q⟩ | ⟨z, q⟩) <;> first | omega | exact hno q⟩, ht9⟩) (fun q hq => by cases hq) dX3_fits_57
  · refine lv_tableIn (off := 57) (tgt := 58) hx hb dX3_fits_1 (by decide) (by decide) (by decide) (by decide) ?_
    refine lv_aload_n hx hb dX3_fits_58 rfl (lv_at hl 0 rfl) ?_
    refine lv_iload_n hx hb dX3_fits_59 rfl (lv_at hl 2 rfl) ?_
    refine vp_callSi (W.runV (C := RX3) (b := ad 0) (As := [.int x]) (rest := []) ⟨hx, hb, hml, hown, hts⟩ (ctX3_isTruth l dC dI cI ad aK aA aB aC aP aV aN n hn fk hk hk2 x) (cwV 1 hts (wA_wsV wm_ml_X3_71 wm_im_X3_isTruth wm_se_X3_isTruth wm_in_X3 wm_cd_X3_isTruth) rfl rfl rfl (by decide +kernel) ⟨Nat.le_of_ble_eq_true rfl, Nat.le_of_ble_eq_true rfl⟩) ⟨fun a U g mk q => by obtain ⟨q0, qP, qK⟩ := q; exact ⟨q0, qP, va_K.moved (u := U) (U := U.calling g mk a) (Vm.Alike.refl U.vm) qK⟩, va_recv (q := (RX3, TX3, 8)) (q0 := 0) hK hP rfl rfl, fun U hU hW => ⟨rfl, by rw [hU]; exact hP, va_K.moved hW.alike hK⟩⟩ rfl rfl hl.1 rfl (lv_room (Nat.le_of_ble_eq_true rfl)) dX3_fits_60 ⟨Nat.zero_le _, Nat.zero_le _⟩) (fun r5 er5 => ?_)
    rcases er5 with ⟨rfl, hy⟩ | ⟨rfl, hno⟩
    · skip
      exact W.zret (v := 1) hx hb hr (rfl) (fun t9 ht9 hW9 => ⟨1, rfl, Or.inl ⟨rfl, Or.inr (Or.inr (Or.inr (Or.inr ⟨rfl, hy⟩)))⟩, ht9⟩) (fun q hq => by cases hq) dX3_fits_63
    · skip
      exact W.zret (v := 0) hx hb hr (rfl) (fun t9 ht9 hW9 => ⟨0, rfl, Or.inr ⟨rfl, by rintro (z | ⟨z, q⟩ | ⟨z, q⟩ | ⟨z, q⟩ | ⟨z, q⟩) <;> first | omega | exact hno q⟩, ht9⟩) (fun q hq => by cases hq) dX3_fits_63
set_option maxHeartbeats 4000000 in
set_option maxRecDepth 100000 in
theorem ctX3_allows (hn : n ≤ 12) (fk : Nat → Nat) (hk : ∀ t, t < n → aK t = nI (fk t)) (hk2 : ∀ t, t < n → fk t < 20) (kd a0 b0 c0 : Int32) : Met l yX3_allows wsX3_allows ({ frames := 3, cells := 0, slots := 0, locals := 64 }) (va_Pc [.ref (ad 0), .int kd, .int a0, .int b0, .int c0] (fun U => va_P (dC, dI) vwCl (wT cI ad aK aA aB aC aP aV aN n) U.heap ∧ va_K (dC, dI) vwCl [(cI, .int)] U)) (vp_Si (fun r => (r = 1 ∧ pq_alw fk n kd a0 b0 c0) ∨ (r = 0 ∧ ¬ pq_alw fk n kd a0 b0 c0))) 0 0 (fun _ => False) := by
  refine Met.ofW (cc := cX3_allows) (maxL := 5) (ret := (some .boolean)) (by decide) rfl ?_
  intro p e s m args below meth c s₁ B hml hv
  obtain ⟨rfl, hP, hK⟩ := hv
  have hx := B.exec
  have hb := B.bytes
  have hr := B.returns
  have hts := atoms_spec (ws := wsX3_allows) B.pre
  have hown : s.vm.findClass RX3 = some m.cls := findClass_of_methodNamed B.named
  have hlocks := B.notSynchronized
  have hl := lv_entry ([.ref (ad 0), .int kd, .int a0, .int b0, .int c0]) (n := 5) (Nat.le_of_ble_eq_true rfl)
  rw [lg_entry_eq]
  generalize (lg_sl ([.ref (ad 0), .int kd, .int a0, .int b0, .int c0]) ++ List.replicate (5 - (lg_sl ([.ref (ad 0), .int kd, .int a0, .int b0, .int c0])).length) Slot.unset).toArray = ls at hl ⊢
  have hl : lv_has ls 5 [(0, .ref (ad 0)), (1, .int kd), (2, .int a0), (3, .int b0), (4, .int c0)] := hl
  refine lv_iload_n hx hb dX3_allows_0 rfl (lv_at hl 1 rfl) ?_
  refine vp_callSi (W.runS (As := [.int kd]) (rest := []) ⟨hx, hb, hml, hown, hts⟩ (ctX2_isKind l kd) (va_cwS 1 hts (wA_wsS wm_ml_X3_46 wm_st_X2_isKind wm_in_X2 wm_cd_X2_isKind) rfl rfl rfl (by decide +kernel) ⟨Nat.le_of_ble_eq_true rfl, Nat.le_of_ble_eq_true rfl⟩) ⟨fun a U g mk q => q, fun U hU hW => ⟨rfl, trivial⟩⟩ rfl rfl hl.1 rfl (lv_room (Nat.le_of_ble_eq_true rfl)) dX3_allows_1 ⟨Nat.zero_le _, Nat.zero_le _⟩) (fun r1 er1 => ?_)
  by_cases h20 : ∃ κ, κ < 20 ∧ kd = nI κ
  · obtain ⟨κ, hκ, rfl⟩ := h20
    rw [px_knd_n hκ] at er1
    subst er1
    have s1 := pv_s1_le κ
    have s2 := pv_s2_le κ
    have s3 := pv_s3_le κ
    refine lv_if_eq (tgt := 48) hx hb dX3_allows_4 (by decide) (fun h2 => absurd h2 (by decide)) (fun _ => ?_)
    refine lv_aload_n hx hb dX3_allows_7 rfl (lv_at hl 0 rfl) ?_
    refine lv_iload_n hx hb dX3_allows_8 rfl (lv_at hl 1 rfl) ?_
    refine vp_callSi (W.runS (As := [.int (nI κ)]) (rest := [.ref (ad 0)]) ⟨hx, hb, hml, hown, hts⟩ (ctX2_ofFirst l (nI κ)) (va_cwS 1 hts (wA_wsS wm_ml_X3_49 wm_st_X2_ofFirst wm_in_X2 wm_cd_X2_ofFirst) rfl rfl rfl (by decide +kernel) ⟨Nat.le_of_ble_eq_true rfl, Nat.le_of_ble_eq_true rfl⟩) ⟨fun a U g mk q => q, fun U hU hW => ⟨rfl, trivial⟩⟩ rfl rfl hl.1 rfl (lv_room (Nat.le_of_ble_eq_true rfl)) dX3_allows_9 ⟨Nat.zero_le _, Nat.zero_le _⟩) (fun r3 er3 => ?_)
    rw [px_s1_n hκ] at er3
    subst er3
    refine lv_iload_n hx hb dX3_allows_12 rfl (lv_at hl 2 rfl) ?_
    refine vp_callSi (W.runV (C := RX3) (b := ad 0) (As := [.int (nI (pv_s1 κ)), .int a0]) (rest := []) ⟨hx, hb, hml, hown, hts⟩ (ctX3_fits l dC dI cI ad aK aA aB aC aP aV aN n hn fk hk hk2 (pv_s1 κ) (by omega) a0) (cwV 2 hts (wA_wsV wm_ml_X3_53 wm_im_X3_fits wm_se_X3_fits wm_in_X3 wm_cd_X3_fits) rfl rfl rfl (by decide +kernel) ⟨Nat.le_of_ble_eq_true rfl, Nat.le_of_ble_eq_true rfl⟩) ⟨fun a U g mk q => by obtain ⟨q0, qP, qK⟩ := q; exact ⟨q0, qP, va_K.moved (u := U) (U := U.calling g mk a) (Vm.Alike.refl U.vm) qK⟩, va_recv (q := (RX3, TX3, 8)) (q0 := 0) hK hP rfl rfl, fun U hU hW => ⟨rfl, by rw [hU]; exact hP, va_K.moved hW.alike hK⟩⟩ rfl rfl hl.1 rfl (lv_room (Nat.le_of_ble_eq_true rfl)) dX3_allows_13 ⟨Nat.zero_le _, Nat.zero_le _⟩) (fun r4 er4 => ?_)
    rcases er4 with ⟨rfl, hf1⟩ | ⟨rfl, hno⟩
    · skip
      refine lv_if_eq (tgt := 48) hx hb dX3_allows_16 (by decide) (fun h5 => absurd h5 (by decide)) (fun _ => ?_)
      refine lv_aload_n hx hb dX3_allows_19 rfl (lv_at hl 0 rfl) ?_
      refine lv_iload_n hx hb dX3_allows_20 rfl (lv_at hl 1 rfl) ?_
      refine vp_callSi (W.runS (As := [.int (nI κ)]) (rest := [.ref (ad 0)]) ⟨hx, hb, hml, hown, hts⟩ (ctX2_ofSecond l (nI κ)) (va_cwS 1 hts (wA_wsS wm_ml_X3_57 wm_st_X2_ofSecond wm_in_X2 wm_cd_X2_ofSecond) rfl rfl rfl (by decide +kernel) ⟨Nat.le_of_ble_eq_true rfl, Nat.le_of_ble_eq_true rfl⟩) ⟨fun a U g mk q => q, fun U hU hW => ⟨rfl, trivial⟩⟩ rfl rfl hl.1 rfl (lv_room (Nat.le_of_ble_eq_true rfl)) dX3_allows_21 ⟨Nat.zero_le _, Nat.zero_le _⟩) (fun r6 er6 => ?_)
      rw [px_s2_n hκ] at er6
      subst er6
      refine lv_iload_n hx hb dX3_allows_24 rfl (lv_at hl 3 rfl) ?_
      refine vp_callSi (W.runV (C := RX3) (b := ad 0) (As := [.int (nI (pv_s2 κ)), .int b0]) (rest := []) ⟨hx, hb, hml, hown, hts⟩ (ctX3_fits l dC dI cI ad aK aA aB aC aP aV aN n hn fk hk hk2 (pv_s2 κ) (by omega) b0) (cwV 2 hts (wA_wsV wm_ml_X3_53 wm_im_X3_fits wm_se_X3_fits wm_in_X3 wm_cd_X3_fits) rfl rfl rfl (by decide +kernel) ⟨Nat.le_of_ble_eq_true rfl, Nat.le_of_ble_eq_true rfl⟩) ⟨fun a U g mk q => by obtain ⟨q0, qP, qK⟩ := q; exact ⟨q0, qP, va_K.moved (u := U) (U := U.calling g mk a) (Vm.Alike.refl U.vm) qK⟩, va_recv (q := (RX3, TX3, 8)) (q0 := 0) hK hP rfl rfl, fun U hU hW => ⟨rfl, by rw [hU]; exact hP, va_K.moved hW.alike hK⟩⟩ rfl rfl hl.1 rfl (lv_room (Nat.le_of_ble_eq_true rfl)) dX3_allows_25 ⟨Nat.zero_le _, Nat.zero_le _⟩) (fun r7 er7 => ?_)
      rcases er7 with ⟨rfl, hf2⟩ | ⟨rfl, hno⟩
      · skip
        refine lv_if_eq (tgt := 48) hx hb dX3_allows_28 (by decide) (fun h8 => absurd h8 (by decide)) (fun _ => ?_)
        refine lv_aload_n hx hb dX3_allows_31 rfl (lv_at hl 0 rfl) ?_
        refine lv_iload_n hx hb dX3_allows_32 rfl (lv_at hl 1 rfl) ?_
        refine vp_callSi (W.runS (As := [.int (nI κ)]) (rest := [.ref (ad 0)]) ⟨hx, hb, hml, hown, hts⟩ (ctX2_ofThird l (nI κ)) (va_cwS 1 hts (wA_wsS wm_ml_X3_60 wm_st_X2_ofThird wm_in_X2 wm_cd_X2_ofThird) rfl rfl rfl (by decide +kernel) ⟨Nat.le_of_ble_eq_true rfl, Nat.le_of_ble_eq_true rfl⟩) ⟨fun a U g mk q => q, fun U hU hW => ⟨rfl, trivial⟩⟩ rfl rfl hl.1 rfl (lv_room (Nat.le_of_ble_eq_true rfl)) dX3_allows_33 ⟨Nat.zero_le _, Nat.zero_le _⟩) (fun r9 er9 => ?_)
        rw [px_s3_n hκ] at er9
        subst er9
        refine lv_iload hx hb dX3_allows_36 (lv_at hl 4 rfl) ?_
        refine vp_callSi (W.runV (C := RX3) (b := ad 0) (As := [.int (nI (pv_s3 κ)), .int c0]) (rest := []) ⟨hx, hb, hml, hown, hts⟩ (ctX3_fits l dC dI cI ad aK aA aB aC aP aV aN n hn fk hk hk2 (pv_s3 κ) (by omega) c0) (cwV 2 hts (wA_wsV wm_ml_X3_53 wm_im_X3_fits wm_se_X3_fits wm_in_X3 wm_cd_X3_fits) rfl rfl rfl (by decide +kernel) ⟨Nat.le_of_ble_eq_true rfl, Nat.le_of_ble_eq_true rfl⟩) ⟨fun a U g mk q => by obtain ⟨q0, qP, qK⟩ := q; exact ⟨q0, qP, va_K.moved (u := U) (U := U.calling g mk a) (Vm.Alike.refl U.vm) qK⟩, va_recv (q := (RX3, TX3, 8)) (q0 := 0) hK hP rfl rfl, fun U hU hW => ⟨rfl, by rw [hU]; exact hP, va_K.moved hW.alike hK⟩⟩ rfl rfl hl.1 rfl (lv_room (Nat.le_of_ble_eq_true rfl)) dX3_allows_38 ⟨Nat.zero_le _, Nat.zero_le _⟩) (fun r10 er10 => ?_)
        rcases er10 with ⟨rfl, hf3⟩ | ⟨rfl, hno⟩
        · skip
          refine lv_if_eq (tgt := 48) hx hb dX3_allows_41 (by decide) (fun h11 => absurd h11 (by decide)) (fun _ => ?_)
          refine lv_iconst (v := 1) hx hb dX3_allows_44 (by decide) ?_
          refine lv_goto (tgt := 49) hx hb dX3_allows_45 (by decide) ?_
          exact W.zret (v := 1) hx hb hr (rfl) (fun t9 ht9 hW9 => ⟨1, rfl, Or.inl ⟨rfl, (pq_alw_n hκ).mpr ⟨hf1, hf2, hf3⟩⟩, ht9⟩) (fun q hq => by cases hq) dX3_allows_49
        · skip
          refine lv_if_eq (tgt := 48) hx hb dX3_allows_41 (by decide) (fun _ => ?_) (fun h12 => absurd (by decide) h12)
          refine lv_iconst (v := 0) hx hb dX3_allows_48 (by decide) ?_
          exact W.zret (v := 0) hx hb hr (rfl) (fun t9 ht9 hW9 => ⟨0, rfl, Or.inr ⟨rfl, fun z => hno ((pq_alw_n hκ).mp z).2.2⟩, ht9⟩) (fun q hq => by cases hq) dX3_allows_49
      · skip
        refine lv_if_eq (tgt := 48) hx hb dX3_allows_28 (by decide) (fun _ => ?_) (fun h13 => absurd (by decide) h13)
        refine lv_iconst (v := 0) hx hb dX3_allows_48 (by decide) ?_
        exact W.zret (v := 0) hx hb hr (rfl) (fun t9 ht9 hW9 => ⟨0, rfl, Or.inr ⟨rfl, fun z => hno ((pq_alw_n hκ).mp z).2.1⟩, ht9⟩) (fun q hq => by cases hq) dX3_allows_49
    · skip
      refine lv_if_eq (tgt := 48) hx hb dX3_allows_16 (by decide) (fun _ => ?_) (fun h14 => absurd (by decide) h14)
      refine lv_iconst (v := 0) hx hb dX3_allows_48 (by decide) ?_
      exact W.zret (v := 0) hx hb hr (rfl) (fun t9 ht9 hW9 => ⟨0, rfl, Or.inr ⟨rfl, fun z => hno ((pq_alw_n hκ).mp z).1⟩, ht9⟩) (fun q hq => by cases hq) dX3_allows_49
  · rw [px_knd_no h20] at er1
    subst er1
    refine lv_if_eq (tgt := 48) hx hb dX3_allows_4 (by decide) (fun _ => ?_) (fun h15 => absurd (by decide) h15)
    refine lv_iconst (v := 0) hx hb dX3_allows_48 (by decide) ?_
    exact W.zret (v := 0) hx hb hr (rfl) (fun t9 ht9 hW9 => ⟨0, rfl, Or.inr ⟨rfl, fun ⟨κ, h1, h2, _⟩ => h20 ⟨κ, h1, h2⟩⟩, ht9⟩) (fun q hq => by cases hq) dX3_allows_49
end TT1
end
section
theorem pt_bc32_b {fk fa fb fc : Nat → Nat} {n t : Nat} (hn : n ≤ 12) (hT : pv_TI fk fa fb fc n) (ht : t < n) : fb t < 32 := by
  obtain ⟨hk, q1, q2, q3⟩ := hT t ht
  rcases pv_s2_le (fk t) with z | z | z
  · have := q2.1 z; omega
  · have := (q2.2.2.2.1 z).1; omega
  · have := (q2.2.2.2.2 z).1; omega
theorem pt_bc32_c {fk fa fb fc : Nat → Nat} {n t : Nat} (hn : n ≤ 12) (hT : pv_TI fk fa fb fc n) (ht : t < n) : fc t < 32 := by
  obtain ⟨hk, q1, q2, q3⟩ := hT t ht
  rcases pv_s3_le (fk t) with z | z
  · have := q3.1 z; omega
  · have := (q3.2.2.2.1 z).1; omega
def pq_res (o : Option Nat) : Int32 := match o with
  | some t => nI t
  | none => -1
theorem pq_fd_y {k a b c : Nat → Nat} {κ α β γ r t : Nat} (h : k t = κ ∧ a t = α ∧ b t = β ∧ c t = γ) : pq_fd k a b c κ α β γ (r + 1) t = some t := by
  unfold pq_fd
  rw [if_pos h]
theorem pq_fd_n {k a b c : Nat → Nat} {κ α β γ r t : Nat} (h : ¬ (k t = κ ∧ a t = α ∧ b t = β ∧ c t = γ)) : pq_fd k a b c κ α β γ (r + 1) t = pq_fd k a b c κ α β γ r (t + 1) := by
  conv => lhs; unfold pq_fd
  rw [if_neg h]
theorem pc_po_y {P : Nat → Int32} {set : Int32} {t : Nat} (h : bb_t set t = true) : pc_po P set (t + 1) = pc_po P set t ||| P t := by
  conv => lhs; unfold pc_po
  rw [if_pos h]
theorem pc_po_n {P : Nat → Int32} {set : Int32} {t : Nat} (h : bb_t set t = false) : pc_po P set (t + 1) = pc_po P set t := by
  conv => lhs; unfold pc_po
  rw [if_neg (by rw [h]; decide)]
theorem pt_lt {fk fa fb fc : Nat → Nat} {n t : Nat} (hn : n ≤ 12) (hT : pv_TI fk fa fb fc n) (ht : t < n) (h0 : ¬ fk t = 0) (h1 : ¬ fk t = 1) : fa t < 12 ∧ fb t < 12 ∧ fc t < 12 := by
  obtain ⟨hk, q1, q2, q3⟩ := hT t ht
  refine ⟨?_, ?_, ?_⟩
  · have := pv_ch_lt (hT t ht) (u := fa t) (Or.inl ⟨by unfold pv_s1; rw [if_neg h0, if_neg h1]; split <;> omega, rfl⟩)
    omega
  · rcases pv_s2_le (fk t) with z | z | z
    · have := q2.1 z; omega
    · have := (q2.2.2.2.1 z).1; omega
    · have := (q2.2.2.2.2 z).1; omega
  · rcases pv_s3_le (fk t) with z | z
    · have := q3.1 z; omega
    · have := (q3.2.2.2.1 z).1; omega
theorem pt_k20 {fk fa fb fc : Nat → Nat} {n t : Nat} (hT : pv_TI fk fa fb fc n) (ht : t < n) : fk t < 20 := (hT t ht).1
theorem pt_a32 {fk fa fb fc : Nat → Nat} {n t : Nat} (hn : n ≤ 12) (hT : pv_TI fk fa fb fc n) (ht : t < n) : fa t < 32 := by
  by_cases h0 : fk t = 0
  · have := (hT t ht).2.1.2.1 (by simp [pv_s1, h0]); omega
  · by_cases h1 : fk t = 1
    · have := (hT t ht).2.1.2.2.1 (by simp [pv_s1, h1]); omega
    · have := (pt_lt hn hT ht h0 h1).1; omega
theorem sw_look {κ : Nat} (h : κ < 20) (h9 : ¬ κ = 9) (h17 : ¬ κ = 17) (h18 : ¬ κ = 18) (h19 : ¬ κ = 19) : Op.lookupswitch.offset [(9, 42), (17, 56), (18, 61), (19, 67)] 73 (nI κ).toInt = 73 := by
  have : ∀ κ, κ < 20 → ¬ κ = 9 → ¬ κ = 17 → ¬ κ = 18 → ¬ κ = 19 → Op.lookupswitch.offset [(9, 42), (17, 56), (18, 61), (19, 67)] 73 (nI κ).toInt = 73 := by decide +kernel
  exact this κ h h9 h17 h18 h19
section TT2
variable (l : Launch) (dC : Nat → ClassId) (dI : Nat → Nat → Nat) (cI : ClassId) (ad : Nat → Nat) (aK aA aB aC aP aV aN : Nat → Int32) (n : Nat)
set_option maxHeartbeats 4000000 in
set_option maxRecDepth 100000 in
theorem ctX3_varyingWith (i : Nat) (hi : i < 2) : Met l yX3_varyingWith wsX3_varyingWith ({ frames := 0, cells := 0, slots := 0, locals := 0 }) (va_Pc [.ref (ad 0), .int (nI i)] (fun U => va_P (dC, dI) vwCl (wT cI ad aK aA aB aC aP aV aN n) U.heap ∧ va_K (dC, dI) vwCl [(cI, .int)] U)) (vp_Si (fun r => r = aV i)) 0 0 (fun _ => False) := by
  refine Met.ofW (cc := cX3_varyingWith) (maxL := 2) (ret := (some .int)) (by decide) rfl ?_
  intro p e s m args below meth c s₁ B hml hv
  obtain ⟨rfl, hP, hK⟩ := hv
  have hx := B.exec
  have hb := B.bytes
  have hr := B.returns
  have hts := atoms_spec (ws := wsX3_varyingWith) B.pre
  have hown : s.vm.findClass RX3 = some m.cls := findClass_of_methodNamed B.named
  have hlocks := B.notSynchronized
  have hl := lv_entry ([.ref (ad 0), .int (nI i)]) (n := 2) (Nat.le_of_ble_eq_true rfl)
  rw [lg_entry_eq]
  generalize (lg_sl ([.ref (ad 0), .int (nI i)]) ++ List.replicate (2 - (lg_sl ([.ref (ad 0), .int (nI i)])).length) Slot.unset).toArray = ls at hl ⊢
  have hl : lv_has ls 2 [(0, .ref (ad 0)), (1, .int (nI i))] := hl
  refine lv_aload_n hx hb dX3_varyingWith_0 rfl (lv_at hl 0 rfl) ?_
  refine va_get (D := (dC, dI)) (ci := 1) (v := .ref (ad 6)) (C := RX3) (T := TX3) (N := 8) hx hb hts (fun w h => List.mem_cons_of_mem _ (wf_X3 w h)) hown hK hP 0 rfl rfl 5 (by decide) (hts _ (List.mem_cons_of_mem _ wm_fl_X3_27)) (fun _ h9 => h9) rfl dX3_varyingWith_1 ?_
  refine lv_iload_n hx hb dX3_varyingWith_4 rfl (lv_at hl 1 rfl) ?_
  refine xr_iald (t := i) (v := aV i) hx hb hK hP 6 0 rfl rfl (by omega) (by omega) (rfl) dX3_varyingWith_5 ?_
  exact W.iret (v := aV i) hx hb hr (fun t9 ht9 hW9 => ⟨aV i, rfl, rfl, ht9⟩) (fun q hq => by cases hq) dX3_varyingWith_6
set_option maxHeartbeats 4000000 in
set_option maxRecDepth 100000 in
theorem ctX3_partsBelow (σ j : Nat) (hσ : σ ≤ 4) (hj : 3 ≤ σ → j < 12) : Met l yX3_partsBelow wsX3_partsBelow ({ frames := 1, cells := 0, slots := 0, locals := 20 }) (va_Pc [.ref (ad 0), .int (nI σ), .int (nI j)] (fun U => va_P (dC, dI) vwCl (wT cI ad aK aA aB aC aP aV aN n) U.heap ∧ va_K (dC, dI) vwCl [(cI, .int)] U)) (vp_Si (fun r => r = pp_pb aP σ j)) 0 0 (fun _ => False) := by
  refine Met.ofW (cc := cX3_partsBelow) (maxL := 3) (ret := (some .int)) (by decide) rfl ?_
  intro p e s m args below meth c s₁ B hml hv
  obtain ⟨rfl, hP, hK⟩ := hv
  have hx := B.exec
  have hb := B.bytes
  have hr := B.returns
  have hts := atoms_spec (ws := wsX3_partsBelow) B.pre
  have hown : s.vm.findClass RX3 = some m.cls := findClass_of_methodNamed B.named
  have hlocks := B.notSynchronized
  have hl := lv_entry ([.ref (ad 0), .int (nI σ), .int (nI j)]) (n := 3) (Nat.le_of_ble_eq_true rfl)
  rw [lg_entry_eq]
  generalize (lg_sl ([.ref (ad 0), .int (nI σ), .int (nI j)]) ++ List.replicate (3 - (lg_sl ([.ref (ad 0), .int (nI σ), .int (nI j)])).length) Slot.unset).toArray = ls at hl ⊢
  have hl : lv_has ls 3 [(0, .ref (ad 0)), (1, .int (nI σ)), (2, .int (nI j))] := hl
  refine lv_iload_n hx hb dX3_partsBelow_0 rfl (lv_at hl 1 rfl) ?_
  refine vp_callSi (W.runS (As := [.int (nI σ)]) (rest := []) ⟨hx, hb, hml, hown, hts⟩ (ctX2_isTerm l (nI σ)) (va_cwS 1 hts (wA_wsS wm_ml_X3_82 wm_st_X2_isTerm wm_in_X2 wm_cd_X2_isTerm) rfl rfl rfl (by decide +kernel) ⟨Nat.le_of_ble_eq_true rfl, Nat.le_of_ble_eq_true rfl⟩) ⟨fun a U g mk q => q, fun U hU hW => ⟨rfl, trivial⟩⟩ rfl rfl hl.1 rfl (lv_room (Nat.le_of_ble_eq_true rfl)) dX3_partsBelow_1 ⟨Nat.zero_le _, Nat.zero_le _⟩) (fun r1 er1 => ?_)
  rw [px_ter_n hσ] at er1
  by_cases h3 : 3 ≤ σ
  · rw [if_pos h3] at er1
    subst er1
    have hj12 := hj h3
    refine lv_if_eq (tgt := 16) hx hb dX3_partsBelow_4 (by decide) (fun h2 => absurd h2 (by decide)) (fun _ => ?_)
    refine lv_aload_n hx hb dX3_partsBelow_7 rfl (lv_at hl 0 rfl) ?_
    refine va_get (D := (dC, dI)) (ci := 1) (v := .ref (ad 5)) (C := RX3) (T := TX3) (N := 8) hx hb hts (fun w h => List.mem_cons_of_mem _ (wf_X3 w h)) hown hK hP 0 rfl rfl 4 (by decide) (hts _ (List.mem_cons_of_mem _ wm_fl_X3_24)) (fun _ h9 => h9) rfl dX3_partsBelow_8 ?_
    refine lv_iload_n hx hb dX3_partsBelow_11 rfl (lv_at hl 2 rfl) ?_
    refine xr_iald (t := j) (v := aP j) hx hb hK hP 5 0 rfl rfl (by omega) (by omega) (rfl) dX3_partsBelow_12 ?_
    refine lv_goto (tgt := 17) hx hb dX3_partsBelow_13 (by decide) ?_
    exact W.iret (v := aP j) hx hb hr (fun t9 ht9 hW9 => ⟨aP j, rfl, (by unfold pp_pb; rw [if_pos h3]), ht9⟩) (fun q hq => by cases hq) dX3_partsBelow_17
  · rw [if_neg h3] at er1
    subst er1
    refine lv_if_eq (tgt := 16) hx hb dX3_partsBelow_4 (by decide) (fun _ => ?_) (fun h3 => absurd (by decide) h3)
    refine lv_iconst (v := 0) hx hb dX3_partsBelow_16 (by decide) ?_
    exact W.iret (v := 0) hx hb hr (fun t9 ht9 hW9 => ⟨0, rfl, (by unfold pp_pb; rw [if_neg h3]), ht9⟩) (fun q hq => by cases hq) dX3_partsBelow_17
set_option maxHeartbeats 4000000 in
set_option maxRecDepth 100000 in
theorem ctX3_find (hn : n ≤ 12) (fk fa fb fc : Nat → Nat) (hk : ∀ t, t < n → aK t = nI (fk t)) (ha : ∀ t, t < n → aA t = nI (fa t)) (hbb : ∀ t, t < n → aB t = nI (fb t)) (hc : ∀ t, t < n → aC t = nI (fc t)) (hT : pv_TI fk fa fb fc n) (κ α β γ : Nat) (hκ : κ < 20) (hα : α < 32) (hβ : β < 32) (hγ : γ < 32) : Met l yX3_find wsX3_find ({ frames := 0, cells := 0, slots := 0, locals := 0 }) (va_Pc [.ref (ad 0), .int (nI κ), .int (nI α), .int (nI β), .int (nI γ)] (fun U => va_P (dC, dI) vwCl (wT cI ad aK aA aB aC aP aV aN n) U.heap ∧ va_K (dC, dI) vwCl [(cI, .int)] U)) (vp_Si (fun r => r = pq_res (pq_fd fk fa fb fc κ α β γ n 0))) 0 0 (fun _ => False) := by
  refine Met.ofW (cc := cX3_find) (maxL := 6) (ret := (some .int)) (by decide) rfl ?_
  intro p e s m args below meth c s₁ B hml hv
  obtain ⟨rfl, hP, hK⟩ := hv
  have hx := B.exec
  have hb := B.bytes
  have hr := B.returns
  have hts := atoms_spec (ws := wsX3_find) B.pre
  have hown : s.vm.findClass RX3 = some m.cls := findClass_of_methodNamed B.named
  have hlocks := B.notSynchronized
  have hl := lv_entry ([.ref (ad 0), .int (nI κ), .int (nI α), .int (nI β), .int (nI γ)]) (n := 6) (Nat.le_of_ble_eq_true rfl)
  rw [lg_entry_eq]
  generalize (lg_sl ([.ref (ad 0), .int (nI κ), .int (nI α), .int (nI β), .int (nI γ)]) ++ List.replicate (6 - (lg_sl ([.ref (ad 0), .int (nI κ), .int (nI α), .int (nI β), .int (nI γ)])).length) Slot.unset).toArray = ls at hl ⊢
  have hl : lv_has ls 6 [(0, .ref (ad 0)), (1, .int (nI κ)), (2, .int (nI α)), (3, .int (nI β)), (4, .int (nI γ))] := hl
  refine lv_iconst (v := nI 0) hx hb dX3_find_0 (by decide) ?_
  refine lv_istore (lv' := [(5, .int (nI 0)), (0, .ref (ad 0)), (1, .int (nI κ)), (2, .int (nI α)), (3, .int (nI β)), (4, .int (nI γ))]) hx hb dX3_find_1 hl (by decide) rfl (fun ls hl => ?_)
  have hl : lv_has ls 6 [(5, .int (nI 0)), (4, .int (nI γ)), (3, .int (nI β)), (2, .int (nI α)), (1, .int (nI κ)), (0, .ref (ad 0))] := lv_sub hl [0, 5, 4, 3, 2, 1] rfl
  refine xw_loop (pc := 3) (fun (t : Nat) => n - t) (fun (t : Nat) ls H9 locs9 => (t ≤ n ∧ pq_fd fk fa fb fc κ α β γ (n - t) t = pq_fd fk fa fb fc κ α β γ n 0) ∧ H9 = s.heap ∧ locs9 = [] ∧ lv_has ls 6 [(5, .int (nI t)), (4, .int (nI γ)), (3, .int (nI β)), (2, .int (nI α)), (1, .int (nI κ)), (0, .ref (ad 0))]) ?_ 0 ls _ _ ⟨⟨Nat.zero_le _, rfl⟩, rfl, rfl, hl⟩
  intro t ls H9 locs9 ⟨⟨htn, hfd⟩, hH9, hL9, hl⟩ ih
  subst hH9
  subst hL9
  refine lv_iload hx hb dX3_find_3 (lv_at hl 0 rfl) ?_
  refine lv_aload_n hx hb dX3_find_5 rfl (lv_at hl 5 rfl) ?_
  refine va_get (D := (dC, dI)) (ci := 1) (v := .int (nI n)) (C := RX3) (T := TX3) (N := 8) hx hb hts (fun w h => List.mem_cons_of_mem _ (wf_X3 w h)) hown hK hP 0 rfl rfl 7 (by decide) (hts _ (List.mem_cons_of_mem _ wm_fl_X3_33)) (fun _ h9 => h9) rfl dX3_find_6 ?_
  refine lv_icmp_ge (tgt := 66) hx hb dX3_find_9 (by decide) (fun h1 => ?_) (fun h1 => ?_)
  · skip
    have h1 : n ≤ t := (nI_leI (a := n) (b := t) (by omega) (by omega)).mp h1
    refine lv_iconst (v := (-1)) hx hb dX3_find_66 (by decide) ?_
    have etn : t = n := by omega
    have efd : pq_fd fk fa fb fc κ α β γ n 0 = none := by rw [← hfd, etn, Nat.sub_self]; rfl
    exact W.iret (v := (-1)) hx hb hr (fun t9 ht9 hW9 => ⟨(-1), rfl, by rw [efd]; rfl, ht9⟩) (fun q hq => by cases hq) dX3_find_67
  · skip
    have h1 : ¬ n ≤ t := fun z => h1 ((nI_leI (a := n) (b := t) (by omega) (by omega)).mpr z)
    have ht : t < n := by omega
    have hk20 := pt_k20 hT ht
    have ha32 := pt_a32 hn hT ht
    refine lv_aload_n hx hb dX3_find_12 rfl (lv_at hl 5 rfl) ?_
    refine va_get (D := (dC, dI)) (ci := 1) (v := .ref (ad 1)) (C := RX3) (T := TX3) (N := 8) hx hb hts (fun w h => List.mem_cons_of_mem _ (wf_X3 w h)) hown hK hP 0 rfl rfl 0 (by decide) (hts _ (List.mem_cons_of_mem _ wm_fl_X3_9)) (fun _ h9 => h9) rfl dX3_find_13 ?_
    refine lv_iload hx hb dX3_find_16 (lv_at hl 0 rfl) ?_
    refine xr_iald (t := t) (v := nI (fk t)) hx hb hK hP 1 0 rfl rfl (by omega) (by omega) (hk t (by omega)) dX3_find_18 ?_
    refine lv_iload_n hx hb dX3_find_19 rfl (lv_at hl 4 rfl) ?_
    refine lv_icmp_ne (tgt := 60) hx hb dX3_find_20 (by decide) (fun h2 => ?_) (fun h2 => ?_)
    · skip
      have h2 : ¬ fk t = κ := fun z => h2 ((nI_eq (a := (fk t)) (b := κ) (by omega) (by omega)).mpr z)
      refine lv_iinc (k := 0) (v := nI (t + 1)) (lv' := [(5, .int (nI (t + 1))), (4, .int (nI γ)), (3, .int (nI β)), (2, .int (nI α)), (1, .int (nI κ)), (0, .ref (ad 0))]) hx hb dX3_find_60 hl rfl (nI_1 t) (by decide) rfl (fun ls hl => ?_)
      refine lv_goto (tgt := 3) hx hb dX3_find_63 (by decide) ?_
      refine ih (t + 1) ls _ _ ⟨⟨by omega, ?_⟩, rfl, rfl, lv_sub hl [0, 1, 2, 3, 4, 5] rfl⟩ (by show n - (t + 1) < n - t; omega)
      rw [← hfd, show n - t = n - (t + 1) + 1 by omega]
      exact (pq_fd_n fun z => h2 z.1).symm
    · skip
      have h2 : fk t = κ := (nI_eq (a := (fk t)) (b := κ) (by omega) (by omega)).mp h2
      refine lv_aload_n hx hb dX3_find_23 rfl (lv_at hl 5 rfl) ?_
      refine va_get (D := (dC, dI)) (ci := 1) (v := .ref (ad 2)) (C := RX3) (T := TX3) (N := 8) hx hb hts (fun w h => List.mem_cons_of_mem _ (wf_X3 w h)) hown hK hP 0 rfl rfl 1 (by decide) (hts _ (List.mem_cons_of_mem _ wm_fl_X3_15)) (fun _ h9 => h9) rfl dX3_find_24 ?_
      refine lv_iload hx hb dX3_find_27 (lv_at hl 0 rfl) ?_
      refine xr_iald (t := t) (v := nI (fa t)) hx hb hK hP 2 0 rfl rfl (by omega) (by omega) (ha t (by omega)) dX3_find_29 ?_
      refine lv_iload_n hx hb dX3_find_30 rfl (lv_at hl 3 rfl) ?_
      refine lv_icmp_ne (tgt := 60) hx hb dX3_find_31 (by decide) (fun h3 => ?_) (fun h3 => ?_)
      · skip
        have h3 : ¬ fa t = α := fun z => h3 ((nI_eq (a := (fa t)) (b := α) (by omega) (by omega)).mpr z)
        refine lv_iinc (k := 0) (v := nI (t + 1)) (lv' := [(5, .int (nI (t + 1))), (4, .int (nI γ)), (3, .int (nI β)), (2, .int (nI α)), (1, .int (nI κ)), (0, .ref (ad 0))]) hx hb dX3_find_60 hl rfl (nI_1 t) (by decide) rfl (fun ls hl => ?_)
        refine lv_goto (tgt := 3) hx hb dX3_find_63 (by decide) ?_
        refine ih (t + 1) ls _ _ ⟨⟨by omega, ?_⟩, rfl, rfl, lv_sub hl [0, 1, 2, 3, 4, 5] rfl⟩ (by show n - (t + 1) < n - t; omega)
        rw [← hfd, show n - t = n - (t + 1) + 1 by omega]
        exact (pq_fd_n fun z => h3 z.2.1).symm
      · skip
        have h3 : fa t = α := (nI_eq (a := (fa t)) (b := α) (by omega) (by omega)).mp h3
        refine lv_aload_n hx hb dX3_find_34 rfl (lv_at hl 5 rfl) ?_
        refine va_get (D := (dC, dI)) (ci := 1) (v := .ref (ad 3)) (C := RX3) (T := TX3) (N := 8) hx hb hts (fun w h => List.mem_cons_of_mem _ (wf_X3 w h)) hown hK hP 0 rfl rfl 2 (by decide) (hts _ (List.mem_cons_of_mem _ wm_fl_X3_18)) (fun _ h9 => h9) rfl dX3_find_35 ?_
        refine lv_iload hx hb dX3_find_38 (lv_at hl 0 rfl) ?_
        refine xr_iald (t := t) (v := nI (fb t)) hx hb hK hP 3 0 rfl rfl (by omega) (by omega) (hbb t (by omega)) dX3_find_40 ?_
        refine lv_iload_n hx hb dX3_find_41 rfl (lv_at hl 2 rfl) ?_
        refine lv_icmp_ne (tgt := 60) hx hb dX3_find_42 (by decide) (fun h4 => ?_) (fun h4 => ?_)
        · skip
          have hz32 : fb t < 32 := pt_bc32_b hn hT ht
          have h4 : ¬ fb t = β := fun z => h4 ((nI_eq (a := (fb t)) (b := β) (by omega) (by omega)).mpr z)
          refine lv_iinc (k := 0) (v := nI (t + 1)) (lv' := [(5, .int (nI (t + 1))), (4, .int (nI γ)), (3, .int (nI β)), (2, .int (nI α)), (1, .int (nI κ)), (0, .ref (ad 0))]) hx hb dX3_find_60 hl rfl (nI_1 t) (by decide) rfl (fun ls hl => ?_)
          refine lv_goto (tgt := 3) hx hb dX3_find_63 (by decide) ?_
          refine ih (t + 1) ls _ _ ⟨⟨by omega, ?_⟩, rfl, rfl, lv_sub hl [0, 1, 2, 3, 4, 5] rfl⟩ (by show n - (t + 1) < n - t; omega)
          rw [← hfd, show n - t = n - (t + 1) + 1 by omega]
          exact (pq_fd_n fun z => h4 z.2.2.1).symm
        · skip
          have hz32 : fb t < 32 := pt_bc32_b hn hT ht
          have h4 : fb t = β := (nI_eq (a := (fb t)) (b := β) (by omega) (by omega)).mp h4
          refine lv_aload_n hx hb dX3_find_45 rfl (lv_at hl 5 rfl) ?_
          refine va_get (D := (dC, dI)) (ci := 1) (v := .ref (ad 4)) (C := RX3) (T := TX3) (N := 8) hx hb hts (fun w h => List.mem_cons_of_mem _ (wf_X3 w h)) hown hK hP 0 rfl rfl 3 (by decide) (hts _ (List.mem_cons_of_mem _ wm_fl_X3_21)) (fun _ h9 => h9) rfl dX3_find_46 ?_
          refine lv_iload hx hb dX3_find_49 (lv_at hl 0 rfl) ?_
          refine xr_iald (t := t) (v := nI (fc t)) hx hb hK hP 4 0 rfl rfl (by omega) (by omega) (hc t (by omega)) dX3_find_51 ?_
          refine lv_iload hx hb dX3_find_52 (lv_at hl 1 rfl) ?_
          refine lv_icmp_ne (tgt := 60) hx hb dX3_find_54 (by decide) (fun h5 => ?_) (fun h5 => ?_)
          · skip
            have hz32 : fc t < 32 := pt_bc32_c hn hT ht
            have h5 : ¬ fc t = γ := fun z => h5 ((nI_eq (a := (fc t)) (b := γ) (by omega) (by omega)).mpr z)
            refine lv_iinc (k := 0) (v := nI (t + 1)) (lv' := [(5, .int (nI (t + 1))), (4, .int (nI γ)), (3, .int (nI β)), (2, .int (nI α)), (1, .int (nI κ)), (0, .ref (ad 0))]) hx hb dX3_find_60 hl rfl (nI_1 t) (by decide) rfl (fun ls hl => ?_)
            refine lv_goto (tgt := 3) hx hb dX3_find_63 (by decide) ?_
            refine ih (t + 1) ls _ _ ⟨⟨by omega, ?_⟩, rfl, rfl, lv_sub hl [0, 1, 2, 3, 4, 5] rfl⟩ (by show n - (t + 1) < n - t; omega)
            rw [← hfd, show n - t = n - (t + 1) + 1 by omega]
            exact (pq_fd_n fun z => h5 z.2.2.2).symm
          · skip
            have hz32 : fc t < 32 := pt_bc32_c hn hT ht
            have h5 : fc t = γ := (nI_eq (a := (fc t)) (b := γ) (by omega) (by omega)).mp h5
            refine lv_iload hx hb dX3_find_57 (lv_at hl 0 rfl) ?_
            have efd : pq_fd fk fa fb fc κ α β γ n 0 = some t := by
              rw [← hfd, show n - t = n - (t + 1) + 1 by omega]
              exact pq_fd_y ⟨h2, h3, h4, h5⟩
            exact W.iret (v := nI t) hx hb hr (fun t9 ht9 hW9 => ⟨nI t, rfl, by rw [efd]; rfl, ht9⟩) (fun q hq => by cases hq) dX3_find_59
set_option maxHeartbeats 4000000 in
set_option maxRecDepth 100000 in
theorem ctX3_partsOf (hn : n ≤ 12) (st : Int32) : Met l yX3_partsOf wsX3_partsOf ({ frames := 0, cells := 0, slots := 0, locals := 0 }) (va_Pc [.ref (ad 0), .int st] (fun U => va_P (dC, dI) vwCl (wT cI ad aK aA aB aC aP aV aN n) U.heap ∧ va_K (dC, dI) vwCl [(cI, .int)] U)) (vp_Si (fun r => r = pc_po aP st n)) 0 0 (fun _ => False) := by
  refine Met.ofW (cc := cX3_partsOf) (maxL := 4) (ret := (some .int)) (by decide) rfl ?_
  intro p e s m args below meth c s₁ B hml hv
  obtain ⟨rfl, hP, hK⟩ := hv
  have hx := B.exec
  have hb := B.bytes
  have hr := B.returns
  have hts := atoms_spec (ws := wsX3_partsOf) B.pre
  have hown : s.vm.findClass RX3 = some m.cls := findClass_of_methodNamed B.named
  have hlocks := B.notSynchronized
  have hl := lv_entry ([.ref (ad 0), .int st]) (n := 4) (Nat.le_of_ble_eq_true rfl)
  rw [lg_entry_eq]
  generalize (lg_sl ([.ref (ad 0), .int st]) ++ List.replicate (4 - (lg_sl ([.ref (ad 0), .int st])).length) Slot.unset).toArray = ls at hl ⊢
  have hl : lv_has ls 4 [(0, .ref (ad 0)), (1, .int st)] := hl
  refine lv_iconst (v := 0) hx hb dX3_partsOf_0 (by decide) ?_
  refine lv_istore_n (lv' := [(2, .int 0), (0, .ref (ad 0)), (1, .int st)]) hx hb dX3_partsOf_1 rfl hl (by decide) rfl (fun ls hl => ?_)
  refine lv_iconst (v := 0) hx hb dX3_partsOf_2 (by decide) ?_
  refine lv_istore_n (lv' := [(3, .int 0), (2, .int 0), (0, .ref (ad 0)), (1, .int st)]) hx hb dX3_partsOf_3 rfl hl (by decide) rfl (fun ls hl => ?_)
  have hl : lv_has ls 4 [(3, .int (nI 0)), (2, .int (pc_po aP st 0)), (1, .int st), (0, .ref (ad 0))] := lv_sub hl [0, 1, 3, 2] rfl
  refine xw_loop (pc := 4) (fun (t : Nat) => n - t) (fun (t : Nat) ls H9 locs9 => (t ≤ n) ∧ H9 = s.heap ∧ locs9 = [] ∧ lv_has ls 4 [(3, .int (nI t)), (2, .int (pc_po aP st t)), (1, .int st), (0, .ref (ad 0))]) ?_ 0 ls _ _ ⟨Nat.zero_le _, rfl, rfl, hl⟩
  intro t ls H9 locs9 ⟨htn, hH9, hL9, hl⟩ ih
  subst hH9
  subst hL9
  refine lv_iload_n hx hb dX3_partsOf_4 rfl (lv_at hl 0 rfl) ?_
  refine lv_aload_n hx hb dX3_partsOf_5 rfl (lv_at hl 3 rfl) ?_
  refine va_get (D := (dC, dI)) (ci := 1) (v := .int (nI n)) (C := RX3) (T := TX3) (N := 8) hx hb hts (fun w h => List.mem_cons_of_mem _ (wf_X3 w h)) hown hK hP 0 rfl rfl 7 (by decide) (hts _ (List.mem_cons_of_mem _ wm_fl_X3_33)) (fun _ h9 => h9) rfl dX3_partsOf_6 ?_
  refine lv_icmp_ge (tgt := 35) hx hb dX3_partsOf_9 (by decide) (fun h1 => ?_) (fun h1 => ?_)
  · skip
    have h1 : n ≤ t := (nI_leI (a := n) (b := t) (by omega) (by omega)).mp h1
    refine lv_iload_n hx hb dX3_partsOf_35 rfl (lv_at hl 1 rfl) ?_
    have etn : t = n := by omega
    exact W.iret (v := pc_po aP st t) hx hb hr (fun t9 ht9 hW9 => ⟨pc_po aP st t, rfl, by rw [etn], ht9⟩) (fun q hq => by cases hq) dX3_partsOf_36
  · skip
    have h1 : ¬ n ≤ t := fun z => h1 ((nI_leI (a := n) (b := t) (by omega) (by omega)).mpr z)
    refine lv_iload_n hx hb dX3_partsOf_12 rfl (lv_at hl 2 rfl) ?_
    refine lv_iconst (v := 1) hx hb dX3_partsOf_13 (by decide) ?_
    refine lv_iload_n hx hb dX3_partsOf_14 rfl (lv_at hl 0 rfl) ?_
    refine lv_ishl hx hb dX3_partsOf_15 ?_
    refine lv_iand hx hb dX3_partsOf_16 ?_
    refine lv_if_eq (tgt := 29) hx hb dX3_partsOf_17 (by decide) (fun h2 => ?_) (fun h2 => ?_)
    · skip
      refine lv_iinc (k := 0) (v := nI (t + 1)) (lv' := [(3, .int (nI (t + 1))), (2, .int (pc_po aP st t)), (1, .int st), (0, .ref (ad 0))]) hx hb dX3_partsOf_29 hl rfl (nI_1 t) (by decide) rfl (fun ls hl => ?_)
      refine lv_goto (tgt := 4) hx hb dX3_partsOf_32 (by decide) ?_
      have hl := lv_sub hl [0, 1, 2, 3] rfl
      have ep : pc_po aP st t = pc_po aP st (t + 1) := (pc_po_n ((bb_ask st (by omega)).mp h2)).symm
      rw [ep] at hl
      exact ih (t + 1) ls _ _ ⟨by omega, rfl, rfl, hl⟩ (by show n - (t + 1) < n - t; omega)
    · skip
      refine lv_iload_n hx hb dX3_partsOf_20 rfl (lv_at hl 1 rfl) ?_
      refine lv_aload_n hx hb dX3_partsOf_21 rfl (lv_at hl 3 rfl) ?_
      refine va_get (D := (dC, dI)) (ci := 1) (v := .ref (ad 5)) (C := RX3) (T := TX3) (N := 8) hx hb hts (fun w h => List.mem_cons_of_mem _ (wf_X3 w h)) hown hK hP 0 rfl rfl 4 (by decide) (hts _ (List.mem_cons_of_mem _ wm_fl_X3_24)) (fun _ h9 => h9) rfl dX3_partsOf_22 ?_
      refine lv_iload_n hx hb dX3_partsOf_25 rfl (lv_at hl 0 rfl) ?_
      refine xr_iald (t := t) (v := aP t) hx hb hK hP 5 0 rfl rfl (by omega) (by omega) (rfl) dX3_partsOf_26 ?_
      refine lv_ior hx hb dX3_partsOf_27 ?_
      refine lv_istore_n (lv' := [(2, .int ((pc_po aP st t) ||| (aP t))), (3, .int (nI t)), (1, .int st), (0, .ref (ad 0))]) hx hb dX3_partsOf_28 rfl hl (by decide) rfl (fun ls hl => ?_)
      refine lv_iinc (k := 1) (v := nI (t + 1)) (lv' := [(3, .int (nI (t + 1))), (2, .int ((pc_po aP st t) ||| (aP t))), (1, .int st), (0, .ref (ad 0))]) hx hb dX3_partsOf_29 hl rfl (nI_1 t) (by decide) rfl (fun ls hl => ?_)
      refine lv_goto (tgt := 4) hx hb dX3_partsOf_32 (by decide) ?_
      have hl := lv_sub hl [0, 1, 2, 3] rfl
      have ep : (pc_po aP st t) ||| (aP t) = pc_po aP st (t + 1) := (pc_po_y (by cases hq : bb_t st t with | true => rfl | false => exact absurd ((bb_ask st (by omega)).mpr hq) h2)).symm
      rw [ep] at hl
      exact ih (t + 1) ls _ _ ⟨by omega, rfl, rfl, hl⟩ (by show n - (t + 1) < n - t; omega)
set_option maxHeartbeats 4000000 in
set_option maxRecDepth 100000 in
theorem ctX3_workOut (hn : n ≤ 12) (fk fa fb fc : Nat → Nat) (hk : ∀ t, t < n → aK t = nI (fk t)) (ha : ∀ t, t < n → aA t = nI (fa t)) (hbb : ∀ t, t < n → aB t = nI (fb t)) (hc : ∀ t, t < n → aC t = nI (fc t)) (hT : pv_TI fk fa fb fc n) (t : Nat) (ht : t < n) (x y : Int32) : Met l yX3_workOut wsX3_workOut ({ frames := 3, cells := 0, slots := 0, locals := 68 }) (va_Pc [.ref (ad 0), .int (nI t), .int x, .int y] (fun U => va_P (dC, dI) vwCl (wT cI ad aK aA aB aC aP aV aN n) U.heap ∧ va_K (dC, dI) vwCl [(cI, .int)] U)) (vp_Si (fun r => r = pc_one fk fa fb fc x y aN t)) 0 0 (fun _ => False) := by
  refine Met.ofW (cc := cX3_workOut) (maxL := 8) (ret := (some .int)) (by decide) rfl ?_
  intro p e s m args below meth c s₁ B hml hv
  obtain ⟨rfl, hP, hK⟩ := hv
  have hx := B.exec
  have hb := B.bytes
  have hr := B.returns
  have hts := atoms_spec (ws := wsX3_workOut) B.pre
  have hown : s.vm.findClass RX3 = some m.cls := findClass_of_methodNamed B.named
  have hlocks := B.notSynchronized
  have hl := lv_entry ([.ref (ad 0), .int (nI t), .int x, .int y]) (n := 8) (Nat.le_of_ble_eq_true rfl)
  rw [lg_entry_eq]
  generalize (lg_sl ([.ref (ad 0), .int (nI t), .int x, .int y]) ++ List.replicate (8 - (lg_sl ([.ref (ad 0), .int (nI t), .int x, .int y])).length) Slot.unset).toArray = ls at hl ⊢
  have hl : lv_has ls 8 [(0, .ref (ad 0)), (1, .int (nI t)), (2, .int x), (3, .int y)] := hl
  have hk20 := pt_k20 hT ht
  have ha32 := pt_a32 hn hT ht
  refine lv_aload_n hx hb dX3_workOut_0 rfl (lv_at hl 0 rfl) ?_
  refine va_get (D := (dC, dI)) (ci := 1) (v := .ref (ad 1)) (C := RX3) (T := TX3) (N := 8) hx hb hts (fun w h => List.mem_cons_of_mem _ (wf_X3 w h)) hown hK hP 0 rfl rfl 0 (by decide) (hts _ (List.mem_cons_of_mem _ wm_fl_X3_9)) (fun _ h9 => h9) rfl dX3_workOut_1 ?_
  refine lv_iload_n hx hb dX3_workOut_4 rfl (lv_at hl 1 rfl) ?_
  refine xr_iald (t := t) (v := nI (fk t)) hx hb hK hP 1 0 rfl rfl (by omega) (by omega) (hk t (by omega)) dX3_workOut_5 ?_
  refine lv_istore (lv' := [(4, .int (nI (fk t))), (0, .ref (ad 0)), (1, .int (nI t)), (2, .int x), (3, .int y)]) hx hb dX3_workOut_6 hl (by decide) rfl (fun ls hl => ?_)
  refine lv_iload hx hb dX3_workOut_8 (lv_at hl 0 rfl) ?_
  refine lv_if_ne (tgt := 28) hx hb dX3_workOut_10 (by decide) (fun h1 => ?_) (fun h1 => ?_)
  · skip
    have h1 : ¬ fk t = 0 := fun z => h1 ((nI_eq (a := (fk t)) (b := 0) (by omega) (by omega)).mpr z)
    refine lv_iload hx hb dX3_workOut_28 (lv_at hl 0 rfl) ?_
    refine lv_iconst (v := nI 1) hx hb dX3_workOut_30 (by decide) ?_
    refine lv_icmp_ne (tgt := 41) hx hb dX3_workOut_31 (by decide) (fun h2 => ?_) (fun h2 => ?_)
    · skip
      have h2 : ¬ fk t = 1 := fun z => h2 ((nI_eq (a := (fk t)) (b := 1) (by omega) (by omega)).mpr z)
      obtain ⟨la, lb, lc⟩ := pt_lt hn hT ht h1 h2
      refine lv_aload_n hx hb dX3_workOut_41 rfl (lv_at hl 1 rfl) ?_
      refine va_get (D := (dC, dI)) (ci := 1) (v := .ref (ad 7)) (C := RX3) (T := TX3) (N := 8) hx hb hts (fun w h => List.mem_cons_of_mem _ (wf_X3 w h)) hown hK hP 0 rfl rfl 6 (by decide) (hts _ (List.mem_cons_of_mem _ wm_fl_X3_30)) (fun _ h9 => h9) rfl dX3_workOut_42 ?_
      refine lv_aload_n hx hb dX3_workOut_45 rfl (lv_at hl 1 rfl) ?_
      refine va_get (D := (dC, dI)) (ci := 1) (v := .ref (ad 2)) (C := RX3) (T := TX3) (N := 8) hx hb hts (fun w h => List.mem_cons_of_mem _ (wf_X3 w h)) hown hK hP 0 rfl rfl 1 (by decide) (hts _ (List.mem_cons_of_mem _ wm_fl_X3_15)) (fun _ h9 => h9) rfl dX3_workOut_46 ?_
      refine lv_iload_n hx hb dX3_workOut_49 rfl (lv_at hl 2 rfl) ?_
      refine xr_iald (t := t) (v := nI (fa t)) hx hb hK hP 2 0 rfl rfl (by omega) (by omega) (ha t (by omega)) dX3_workOut_50 ?_
      refine xr_iald (t := fa t) (v := aN (fa t)) hx hb hK hP 7 0 rfl rfl (by omega) (by omega) (rfl) dX3_workOut_51 ?_
      refine lv_istore (lv' := [(5, .int (aN (fa t))), (4, .int (nI (fk t))), (0, .ref (ad 0)), (1, .int (nI t)), (2, .int x), (3, .int y)]) hx hb dX3_workOut_52 hl (by decide) rfl (fun ls hl => ?_)
      refine lv_aload_n hx hb dX3_workOut_54 rfl (lv_at hl 2 rfl) ?_
      refine va_get (D := (dC, dI)) (ci := 1) (v := .ref (ad 7)) (C := RX3) (T := TX3) (N := 8) hx hb hts (fun w h => List.mem_cons_of_mem _ (wf_X3 w h)) hown hK hP 0 rfl rfl 6 (by decide) (hts _ (List.mem_cons_of_mem _ wm_fl_X3_30)) (fun _ h9 => h9) rfl dX3_workOut_55 ?_
      refine lv_aload_n hx hb dX3_workOut_58 rfl (lv_at hl 2 rfl) ?_
      refine va_get (D := (dC, dI)) (ci := 1) (v := .ref (ad 3)) (C := RX3) (T := TX3) (N := 8) hx hb hts (fun w h => List.mem_cons_of_mem _ (wf_X3 w h)) hown hK hP 0 rfl rfl 2 (by decide) (hts _ (List.mem_cons_of_mem _ wm_fl_X3_18)) (fun _ h9 => h9) rfl dX3_workOut_59 ?_
      refine lv_iload_n hx hb dX3_workOut_62 rfl (lv_at hl 3 rfl) ?_
      refine xr_iald (t := t) (v := nI (fb t)) hx hb hK hP 3 0 rfl rfl (by omega) (by omega) (hbb t (by omega)) dX3_workOut_63 ?_
      refine xr_iald (t := fb t) (v := aN (fb t)) hx hb hK hP 7 0 rfl rfl (by omega) (by omega) (rfl) dX3_workOut_64 ?_
      refine lv_istore (lv' := [(6, .int (aN (fb t))), (5, .int (aN (fa t))), (4, .int (nI (fk t))), (0, .ref (ad 0)), (1, .int (nI t)), (2, .int x), (3, .int y)]) hx hb dX3_workOut_65 hl (by decide) rfl (fun ls hl => ?_)
      refine lv_aload_n hx hb dX3_workOut_67 rfl (lv_at hl 3 rfl) ?_
      refine va_get (D := (dC, dI)) (ci := 1) (v := .ref (ad 7)) (C := RX3) (T := TX3) (N := 8) hx hb hts (fun w h => List.mem_cons_of_mem _ (wf_X3 w h)) hown hK hP 0 rfl rfl 6 (by decide) (hts _ (List.mem_cons_of_mem _ wm_fl_X3_30)) (fun _ h9 => h9) rfl dX3_workOut_68 ?_
      refine lv_aload_n hx hb dX3_workOut_71 rfl (lv_at hl 3 rfl) ?_
      refine va_get (D := (dC, dI)) (ci := 1) (v := .ref (ad 4)) (C := RX3) (T := TX3) (N := 8) hx hb hts (fun w h => List.mem_cons_of_mem _ (wf_X3 w h)) hown hK hP 0 rfl rfl 3 (by decide) (hts _ (List.mem_cons_of_mem _ wm_fl_X3_21)) (fun _ h9 => h9) rfl dX3_workOut_72 ?_
      refine lv_iload_n hx hb dX3_workOut_75 rfl (lv_at hl 4 rfl) ?_
      refine xr_iald (t := t) (v := nI (fc t)) hx hb hK hP 4 0 rfl rfl (by omega) (by omega) (hc t (by omega)) dX3_workOut_76 ?_
      refine xr_iald (t := fc t) (v := aN (fc t)) hx hb hK hP 7 0 rfl rfl (by omega) (by omega) (rfl) dX3_workOut_77 ?_
      refine lv_istore (lv' := [(7, .int (aN (fc t))), (6, .int (aN (fb t))), (5, .int (aN (fa t))), (4, .int (nI (fk t))), (0, .ref (ad 0)), (1, .int (nI t)), (2, .int x), (3, .int y)]) hx hb dX3_workOut_78 hl (by decide) rfl (fun ls hl => ?_)
      refine lv_iload hx hb dX3_workOut_80 (lv_at hl 3 rfl) ?_
      by_cases k3 : fk t = 9
      · refine lv_lookup (off := 42) (tgt := 124) hx hb dX3_workOut_82 (by decide) (by rw [k3]; decide) (by decide) ?_
        refine lv_iload hx hb dX3_workOut_124 (lv_at hl 2 rfl) ?_
        refine lv_iconst (v := 1) hx hb dX3_workOut_126 (by decide) ?_
        refine lv_icmp_ne (tgt := 135) hx hb dX3_workOut_127 (by decide) (fun h4 => ?_) (fun h4 => ?_)
        · skip
          refine lv_iload hx hb dX3_workOut_135 (lv_at hl 0 rfl) ?_
          exact W.iret (v := aN (fc t)) hx hb hr (fun t9 ht9 hW9 => ⟨aN (fc t), rfl, by first | (simp only [pc_one, h1, h2, k3, h4, ↓reduceIte, not_true_eq_false, not_false_eq_true, and_true, true_and, and_false, false_and, or_true, true_or, or_false, false_or, and_self, or_self]; done) | (simp [pc_one, h1, h2, k3, h4]; done), ht9⟩) (fun q hq => by cases hq) dX3_workOut_137
        · skip
          refine lv_iload hx hb dX3_workOut_130 (lv_at hl 1 rfl) ?_
          refine lv_goto (tgt := 137) hx hb dX3_workOut_132 (by decide) ?_
          exact W.iret (v := aN (fb t)) hx hb hr (fun t9 ht9 hW9 => ⟨aN (fb t), rfl, by first | (simp only [pc_one, h1, h2, k3, h4, ↓reduceIte, not_true_eq_false, not_false_eq_true, and_true, true_and, and_false, false_and, or_true, true_or, or_false, false_or, and_self, or_self]; done) | (simp [pc_one, h1, h2, k3, h4]; done), ht9⟩) (fun q hq => by cases hq) dX3_workOut_137
      by_cases k5 : fk t = 17
      · refine lv_lookup (off := 56) (tgt := 138) hx hb dX3_workOut_82 (by decide) (by rw [k5]; decide) (by decide) ?_
        refine lv_iconst (v := 1) hx hb dX3_workOut_138 (by decide) ?_
        refine lv_iload hx hb dX3_workOut_139 (lv_at hl 2 rfl) ?_
        refine lv_isub hx hb dX3_workOut_141 ?_
        exact W.iret (v := 1 - (aN (fa t))) hx hb hr (fun t9 ht9 hW9 => ⟨1 - (aN (fa t)), rfl, by first | (simp only [pc_one, h1, h2, k3, k5, ↓reduceIte, not_true_eq_false, not_false_eq_true, and_true, true_and, and_false, false_and, or_true, true_or, or_false, false_or, and_self, or_self]; done) | (simp [pc_one, h1, h2, k3, k5]; done), ht9⟩) (fun q hq => by cases hq) dX3_workOut_142
      by_cases k6 : fk t = 18
      · refine lv_lookup (off := 61) (tgt := 143) hx hb dX3_workOut_82 (by decide) (by rw [k6]; decide) (by decide) ?_
        refine lv_iload hx hb dX3_workOut_143 (lv_at hl 2 rfl) ?_
        refine lv_iload hx hb dX3_workOut_145 (lv_at hl 1 rfl) ?_
        refine lv_iand hx hb dX3_workOut_147 ?_
        exact W.iret (v := (aN (fa t)) &&& (aN (fb t))) hx hb hr (fun t9 ht9 hW9 => ⟨(aN (fa t)) &&& (aN (fb t)), rfl, by first | (simp only [pc_one, h1, h2, k3, k5, k6, ↓reduceIte, not_true_eq_false, not_false_eq_true, and_true, true_and, and_false, false_and, or_true, true_or, or_false, false_or, and_self, or_self]; done) | (simp [pc_one, h1, h2, k3, k5, k6]; done), ht9⟩) (fun q hq => by cases hq) dX3_workOut_148
      by_cases k7 : fk t = 19
      · refine lv_lookup (off := 67) (tgt := 149) hx hb dX3_workOut_82 (by decide) (by rw [k7]; decide) (by decide) ?_
        refine lv_iload hx hb dX3_workOut_149 (lv_at hl 2 rfl) ?_
        refine lv_iload hx hb dX3_workOut_151 (lv_at hl 1 rfl) ?_
        refine lv_ior hx hb dX3_workOut_153 ?_
        exact W.iret (v := (aN (fa t)) ||| (aN (fb t))) hx hb hr (fun t9 ht9 hW9 => ⟨(aN (fa t)) ||| (aN (fb t)), rfl, by first | (simp only [pc_one, h1, h2, k3, k5, k6, k7, ↓reduceIte, not_true_eq_false, not_false_eq_true, and_true, true_and, and_false, false_and, or_true, true_or, or_false, false_or, and_self, or_self]; done) | (simp [pc_one, h1, h2, k3, k5, k6, k7]; done), ht9⟩) (fun q hq => by cases hq) dX3_workOut_154
      refine lv_lookup (off := 73) (tgt := 155) hx hb dX3_workOut_82 (by decide) (sw_look hk20 k3 k5 k6 k7) (by decide) ?_
      refine lv_iload hx hb dX3_workOut_155 (lv_at hl 3 rfl) ?_
      refine lv_iload hx hb dX3_workOut_157 (lv_at hl 2 rfl) ?_
      refine lv_iload hx hb dX3_workOut_159 (lv_at hl 1 rfl) ?_
      refine vp_callSi (W.runS (As := [.int (nI (fk t)), .int (aN (fa t)), .int (aN (fb t))]) (rest := []) ⟨hx, hb, hml, hown, hts⟩ (ctX1_operate l (nI (fk t)) (aN (fa t)) (aN (fb t))) (va_cwS 3 hts (wA_wsS wm_ml_X3_93 wm_st_X1_operate wm_in_X1 wm_cd_X1_operate) rfl rfl rfl (by decide +kernel) ⟨Nat.le_of_ble_eq_true rfl, Nat.le_of_ble_eq_true rfl⟩) ⟨fun a U g mk q => q, fun U hU hW => ⟨rfl, trivial⟩⟩ rfl rfl hl.1 rfl (lv_room (Nat.le_of_ble_eq_true rfl)) dX3_workOut_161 ⟨Nat.zero_le _, Nat.zero_le _⟩) (fun r8 er8 => ?_)
      subst er8
      exact W.iret (v := pu_op (nI (fk t)) (aN (fa t)) (aN (fb t))) hx hb hr (fun t9 ht9 hW9 => ⟨pu_op (nI (fk t)) (aN (fa t)) (aN (fb t)), rfl, by first | (simp only [pc_one, h1, h2, k3, k5, k6, k7, ↓reduceIte, not_true_eq_false, not_false_eq_true, and_true, true_and, and_false, false_and, or_true, true_or, or_false, false_or, and_self, or_self]; done) | (simp [pc_one, h1, h2, k3, k5, k6, k7]; done), ht9⟩) (fun q hq => by cases hq) dX3_workOut_164
    · skip
      have h2 : fk t = 1 := (nI_eq (a := (fk t)) (b := 1) (by omega) (by omega)).mp h2
      refine lv_aload_n hx hb dX3_workOut_34 rfl (lv_at hl 1 rfl) ?_
      refine va_get (D := (dC, dI)) (ci := 1) (v := .ref (ad 2)) (C := RX3) (T := TX3) (N := 8) hx hb hts (fun w h => List.mem_cons_of_mem _ (wf_X3 w h)) hown hK hP 0 rfl rfl 1 (by decide) (hts _ (List.mem_cons_of_mem _ wm_fl_X3_15)) (fun _ h9 => h9) rfl dX3_workOut_35 ?_
      refine lv_iload_n hx hb dX3_workOut_38 rfl (lv_at hl 2 rfl) ?_
      refine xr_iald (t := t) (v := nI (fa t)) hx hb hK hP 2 0 rfl rfl (by omega) (by omega) (ha t (by omega)) dX3_workOut_39 ?_
      exact W.iret (v := nI (fa t)) hx hb hr (fun t9 ht9 hW9 => ⟨nI (fa t), rfl, by first | (simp only [pc_one, h1, h2, ↓reduceIte, not_true_eq_false, not_false_eq_true, and_true, true_and, and_false, false_and, or_true, true_or, or_false, false_or, and_self, or_self]; done) | (simp [pc_one, h1, h2]; done), ht9⟩) (fun q hq => by cases hq) dX3_workOut_40
  · skip
    have h1 : fk t = 0 := (nI_eq (a := (fk t)) (b := 0) (by omega) (by omega)).mp h1
    refine lv_aload_n hx hb dX3_workOut_13 rfl (lv_at hl 1 rfl) ?_
    refine va_get (D := (dC, dI)) (ci := 1) (v := .ref (ad 2)) (C := RX3) (T := TX3) (N := 8) hx hb hts (fun w h => List.mem_cons_of_mem _ (wf_X3 w h)) hown hK hP 0 rfl rfl 1 (by decide) (hts _ (List.mem_cons_of_mem _ wm_fl_X3_15)) (fun _ h9 => h9) rfl dX3_workOut_14 ?_
    refine lv_iload_n hx hb dX3_workOut_17 rfl (lv_at hl 2 rfl) ?_
    refine xr_iald (t := t) (v := nI (fa t)) hx hb hK hP 2 0 rfl rfl (by omega) (by omega) (ha t (by omega)) dX3_workOut_18 ?_
    refine lv_if_ne (tgt := 26) hx hb dX3_workOut_19 (by decide) (fun h9 => ?_) (fun h9 => ?_)
    · skip
      have h9 : ¬ fa t = 0 := fun z => h9 ((nI_eq (a := (fa t)) (b := 0) (by omega) (by omega)).mpr z)
      refine lv_iload_n hx hb dX3_workOut_26 rfl (lv_at hl 4 rfl) ?_
      exact W.iret (v := y) hx hb hr (fun t9 ht9 hW9 => ⟨y, rfl, by first | (simp only [pc_one, h1, h9, ↓reduceIte, not_true_eq_false, not_false_eq_true, and_true, true_and, and_false, false_and, or_true, true_or, or_false, false_or, and_self, or_self]; done) | (simp [pc_one, h1, h9]; done), ht9⟩) (fun q hq => by cases hq) dX3_workOut_27
    · skip
      have h9 : fa t = 0 := (nI_eq (a := (fa t)) (b := 0) (by omega) (by omega)).mp h9
      refine lv_iload_n hx hb dX3_workOut_22 rfl (lv_at hl 3 rfl) ?_
      refine lv_goto (tgt := 27) hx hb dX3_workOut_23 (by decide) ?_
      exact W.iret (v := x) hx hb hr (fun t9 ht9 hW9 => ⟨x, rfl, by first | (simp only [pc_one, h1, h9, ↓reduceIte, not_true_eq_false, not_false_eq_true, and_true, true_and, and_false, false_and, or_true, true_or, or_false, false_or, and_self, or_self]; done) | (simp [pc_one, h1, h9]; done), ht9⟩) (fun q hq => by cases hq) dX3_workOut_27
end TT2
end
section
/-! what noteVariables leaves of 'varying' -/
theorem xu_self (f : Nat → Int32) (k : Nat) : upd f k (f k) = f := by
  funext j
  by_cases h : j = k
  · subst h; exact pk_us
  · exact pk_un h
def pc_nv (P V : Nat → Int32) (t κ α : Nat) : Nat → Nat → Int32
  | 0 => V
  | i + 1 => upd (pc_nv P V t κ α i) i (pp_vr P (pc_nv P V t κ α i i) t κ α i)
theorem pc_nv_y {P V : Nat → Int32} {t κ α i : Nat} (h : (κ = 0 ∧ α = i) ∨ ¬ P t &&& pc_nv P V t κ α i i = 0) : pc_nv P V t κ α (i + 1) = upd (pc_nv P V t κ α i) i (pc_nv P V t κ α i i ||| ((1 : Int32) <<< (nI t &&& 31))) := by
  show upd _ i (pp_vr _ _ _ _ _ _) = _
  unfold pp_vr
  rw [if_pos h]
theorem pc_nv_n {P V : Nat → Int32} {t κ α i : Nat} (h : ¬ ((κ = 0 ∧ α = i) ∨ ¬ P t &&& pc_nv P V t κ α i i = 0)) : pc_nv P V t κ α (i + 1) = pc_nv P V t κ α i := by
  show upd _ i (pp_vr _ _ _ _ _ _) = _
  unfold pp_vr
  rw [if_neg h, xu_self]
section TT3
variable (l : Launch) (dC : Nat → ClassId) (dI : Nat → Nat → Nat) (cI : ClassId) (ad : Nat → Nat) (aK aA aB aC aP aV aN : Nat → Int32) (n : Nat)
set_option maxHeartbeats 4000000 in
set_option maxRecDepth 100000 in
theorem ctX3_noteVariables (sz t κ α : Nat) (ht : t < 12) (hκ : κ < 20) (hα : α < 32) (hkt : aK t = nI κ) (hat : aA t = nI α) : Met l yX3_noteVariables wsX3_noteVariables ({ frames := 0, cells := 0, slots := 0, locals := 0 }) (va_Pc [.ref (ad 0), .int (nI t)] (fun U => U.heap.size = sz ∧ va_P (dC, dI) vwCl (wT cI ad aK aA aB aC aP aV aN n) U.heap ∧ va_K (dC, dI) vwCl [(cI, .int)] U ∧ va_D (fun _ => True) (wT cI ad aK aA aB aC aP aV aN n))) (va_Qv (fun _ => True) (fun (u : Unit) t9 => va_P (dC, dI) vwCl (wT cI ad aK aA aB aC aP (pc_nv aP aV t κ α 2) aN n) t9.heap ∧ va_K (dC, dI) vwCl [(cI, .int)] t9 ∧ va_D (va_A (wT cI ad aK aA aB aC aP aV aN n) sz) (wT cI ad aK aA aB aC aP (pc_nv aP aV t κ α 2) aN n)) (va_A (wT cI ad aK aA aB aC aP aV aN n) sz)) 0 0 (va_A (wT cI ad aK aA aB aC aP aV aN n) sz) := by
  refine Met.ofW (cc := cX3_noteVariables) (maxL := 4) (ret := none) (by decide) rfl ?_
  intro p e s m args below meth c s₁ B hml hv
  obtain ⟨rfl, hsz, hP, hK, hD0⟩ := hv
  subst hsz
  have hx := B.exec
  have hb := B.bytes
  have hr := B.returns
  have hts := atoms_spec (ws := wsX3_noteVariables) B.pre
  have hown : s.vm.findClass RX3 = some m.cls := findClass_of_methodNamed B.named
  have hlocks := B.notSynchronized
  have hl := lv_entry ([.ref (ad 0), .int (nI t)]) (n := 4) (Nat.le_of_ble_eq_true rfl)
  rw [lg_entry_eq]
  generalize (lg_sl ([.ref (ad 0), .int (nI t)]) ++ List.replicate (4 - (lg_sl ([.ref (ad 0), .int (nI t)])).length) Slot.unset).toArray = ls at hl ⊢
  have hl : lv_has ls 4 [(0, .ref (ad 0)), (1, .int (nI t))] := hl
  have hD := hD0.self (sz := s.heap.size)
  generalize hAe : va_A (wT cI ad aK aA aB aC aP aV aN n) s.heap.size = A9 at hD ⊢
  have hA : ∀ q : Nat, s.heap.size ≤ q → A9 q := fun q h => by rw [← hAe]; exact Or.inr h
  have hS : va_S A9 s.heap s.heap [] := va_S.rf
  refine lv_iconst (v := 0) hx hb dX3_noteVariables_0 (by decide) ?_
  refine lv_istore_n (lv' := [(2, .int 0), (0, .ref (ad 0)), (1, .int (nI t))]) hx hb dX3_noteVariables_1 rfl hl (by decide) rfl (fun ls hl => ?_)
  have hl : lv_has ls 4 [(2, .int (nI 0)), (1, .int (nI t)), (0, .ref (ad 0))] := lv_sub hl [0, 2, 1] rfl
  refine xw_loop (pc := 2) (fun (i : Nat) => 2 - i) (fun (i : Nat) ls H9 locs9 => i ≤ 2 ∧ va_P (dC, dI) vwCl [(ad 0, .inr (1, [.ref (ad 1), .ref (ad 2), .ref (ad 3), .ref (ad 4), .ref (ad 5), .ref (ad 6), .ref (ad 7), .int (nI n)])), (ad 1, .inl (cI, 12, .inl aK)), (ad 2, .inl (cI, 12, .inl aA)), (ad 3, .inl (cI, 12, .inl aB)), (ad 4, .inl (cI, 12, .inl aC)), (ad 5, .inl (cI, 12, .inl aP)), (ad 6, .inl (cI, 2, .inl (pc_nv aP aV t κ α i))), (ad 7, .inl (cI, 12, .inl aN))] H9 ∧ va_D A9 [(ad 0, .inr (1, [.ref (ad 1), .ref (ad 2), .ref (ad 3), .ref (ad 4), .ref (ad 5), .ref (ad 6), .ref (ad 7), .int (nI n)])), (ad 1, .inl (cI, 12, .inl aK)), (ad 2, .inl (cI, 12, .inl aA)), (ad 3, .inl (cI, 12, .inl aB)), (ad 4, .inl (cI, 12, .inl aC)), (ad 5, .inl (cI, 12, .inl aP)), (ad 6, .inl (cI, 2, .inl (pc_nv aP aV t κ α i))), (ad 7, .inl (cI, 12, .inl aN))] ∧ va_S A9 s.heap H9 locs9 ∧ lv_has ls 4 [(2, .int (nI i)), (1, .int (nI t)), (0, .ref (ad 0))]) ?_ 0 ls _ _ ⟨by omega, hP, hD, hS, hl⟩
  clear hP hD hS hl
  intro i ls H locs ⟨hi, hP, hD, hS, hl⟩ ih
  refine lv_iload_n hx hb dX3_noteVariables_2 rfl (lv_at hl 0 rfl) ?_
  refine lv_iconst (v := nI 2) hx hb dX3_noteVariables_3 (by decide) ?_
  refine lv_icmp_ge (tgt := 70) hx hb dX3_noteVariables_4 (by decide) (fun h1 => ?_) (fun h1 => ?_)
  · skip
    have h1 : 2 ≤ i := (nI_leI (a := 2) (b := i) (by omega) (by omega)).mp h1
    have ei : i = 2 := by omega
    subst ei
    exact W.vret hx hb hr (fun t9 ht9 hW9 => ⟨⟨(), rfl, trivial, by rw [ht9]; exact hP, va_K.moved hW9.alike hK, hD⟩, hS.F ht9⟩) hS.2.2 dX3_noteVariables_70
  · skip
    have h1 : ¬ 2 ≤ i := fun z => h1 ((nI_leI (a := 2) (b := i) (by omega) (by omega)).mpr z)
    refine lv_aload_n hx hb dX3_noteVariables_7 rfl (lv_at hl 2 rfl) ?_
    refine va_get (D := (dC, dI)) (ci := 1) (v := .ref (ad 1)) (C := RX3) (T := TX3) (N := 8) hx hb hts (fun w h => List.mem_cons_of_mem _ (wf_X3 w h)) hown hK hP 0 rfl rfl 0 (by decide) (hts _ (List.mem_cons_of_mem _ wm_fl_X3_9)) (fun _ h9 => h9) rfl dX3_noteVariables_8 ?_
    refine lv_iload_n hx hb dX3_noteVariables_11 rfl (lv_at hl 1 rfl) ?_
    refine xr_iald (t := t) (v := nI κ) hx hb hK hP 1 0 rfl rfl (by omega) (by omega) (hkt) dX3_noteVariables_12 ?_
    refine lv_if_ne (tgt := 30) hx hb dX3_noteVariables_13 (by decide) (fun h2 => ?_) (fun h2 => ?_)
    · skip
      have h2 : ¬ κ = 0 := fun z => h2 ((nI_eq (a := κ) (b := 0) (by omega) (by omega)).mpr z)
      refine lv_iconst (v := 0) hx hb dX3_noteVariables_30 (by decide) ?_
      refine lv_istore_n (lv' := [(3, .int 0), (2, .int (nI i)), (1, .int (nI t)), (0, .ref (ad 0))]) hx hb dX3_noteVariables_31 rfl hl (by decide) rfl (fun ls hl => ?_)
      refine lv_iload_n hx hb dX3_noteVariables_32 rfl (lv_at hl 0 rfl) ?_
      refine lv_if_ne (tgt := 52) hx hb dX3_noteVariables_33 (by decide) (fun h3 => absurd (by decide) h3) (fun _ => ?_)
      refine lv_aload_n hx hb dX3_noteVariables_36 rfl (lv_at hl 3 rfl) ?_
      refine va_get (D := (dC, dI)) (ci := 1) (v := .ref (ad 5)) (C := RX3) (T := TX3) (N := 8) hx hb hts (fun w h => List.mem_cons_of_mem _ (wf_X3 w h)) hown hK hP 0 rfl rfl 4 (by decide) (hts _ (List.mem_cons_of_mem _ wm_fl_X3_24)) (fun _ h9 => h9) rfl dX3_noteVariables_37 ?_
      refine lv_iload_n hx hb dX3_noteVariables_40 rfl (lv_at hl 2 rfl) ?_
      refine xr_iald (t := t) (v := aP t) hx hb hK hP 5 0 rfl rfl (by omega) (by omega) (rfl) dX3_noteVariables_41 ?_
      refine lv_aload_n hx hb dX3_noteVariables_42 rfl (lv_at hl 3 rfl) ?_
      refine va_get (D := (dC, dI)) (ci := 1) (v := .ref (ad 6)) (C := RX3) (T := TX3) (N := 8) hx hb hts (fun w h => List.mem_cons_of_mem _ (wf_X3 w h)) hown hK hP 0 rfl rfl 5 (by decide) (hts _ (List.mem_cons_of_mem _ wm_fl_X3_27)) (fun _ h9 => h9) rfl dX3_noteVariables_43 ?_
      refine lv_iload_n hx hb dX3_noteVariables_46 rfl (lv_at hl 1 rfl) ?_
      refine xr_iald (t := i) (v := (pc_nv aP aV t κ α i) i) hx hb hK hP 6 0 rfl rfl (by omega) (by omega) (rfl) dX3_noteVariables_47 ?_
      refine lv_iand hx hb dX3_noteVariables_48 ?_
      refine lv_if_eq (tgt := 64) hx hb dX3_noteVariables_49 (by decide) (fun h4 => ?_) (fun h4 => ?_)
      · skip
        refine lv_iinc (k := 1) (v := nI (i + 1)) (lv' := [(2, .int (nI (i + 1))), (3, .int 0), (1, .int (nI t)), (0, .ref (ad 0))]) hx hb dX3_noteVariables_64 hl rfl (nI_1 i) (by decide) rfl (fun ls hl => ?_)
        refine lv_goto (tgt := 2) hx hb dX3_noteVariables_67 (by decide) ?_
        have ev : pc_nv aP aV t κ α (i + 1) = pc_nv aP aV t κ α i := pc_nv_n (fun z => z.elim (fun z => h2 z.1) (fun z => z h4))
        rw [← ev] at hP hD
        exact ih (i + 1) ls H locs ⟨by omega, hP, hD, hS, lv_sub hl [0, 2, 3] rfl⟩ (by show 2 - (i + 1) < 2 - i; omega)
      · skip
        refine lv_aload_n hx hb dX3_noteVariables_52 rfl (lv_at hl 3 rfl) ?_
        refine va_get (D := (dC, dI)) (ci := 1) (v := .ref (ad 6)) (C := RX3) (T := TX3) (N := 8) hx hb hts (fun w h => List.mem_cons_of_mem _ (wf_X3 w h)) hown hK hP 0 rfl rfl 5 (by decide) (hts _ (List.mem_cons_of_mem _ wm_fl_X3_27)) (fun _ h9 => h9) rfl dX3_noteVariables_53 ?_
        refine lv_iload_n hx hb dX3_noteVariables_56 rfl (lv_at hl 1 rfl) ?_
        refine lv_dup2_11 hx hb dX3_noteVariables_57 rfl rfl ?_
        refine xr_iald (t := i) (v := (pc_nv aP aV t κ α i) i) hx hb hK hP 6 0 rfl rfl (by omega) (by omega) (rfl) dX3_noteVariables_58 ?_
        refine lv_iconst (v := 1) hx hb dX3_noteVariables_59 (by decide) ?_
        refine lv_iload_n hx hb dX3_noteVariables_60 rfl (lv_at hl 2 rfl) ?_
        refine lv_ishl hx hb dX3_noteVariables_61 ?_
        refine lv_ior hx hb dX3_noteVariables_62 ?_
        refine xr_iast (t := i) (x := ((pc_nv aP aV t κ α i) i) ||| (1 <<< ((nI t) &&& 31))) hx hb hK hP hD hS 6 0 rfl rfl (by omega) (by omega) dX3_noteVariables_63 (fun H locs hP hD hS => ?_)
        have hP : va_P (dC, dI) vwCl [(ad 0, .inr (1, [.ref (ad 1), .ref (ad 2), .ref (ad 3), .ref (ad 4), .ref (ad 5), .ref (ad 6), .ref (ad 7), .int (nI n)])), (ad 1, .inl (cI, 12, .inl aK)), (ad 2, .inl (cI, 12, .inl aA)), (ad 3, .inl (cI, 12, .inl aB)), (ad 4, .inl (cI, 12, .inl aC)), (ad 5, .inl (cI, 12, .inl aP)), (ad 6, .inl (cI, 2, .inl (upd (pc_nv aP aV t κ α i) i (((pc_nv aP aV t κ α i) i) ||| (1 <<< ((nI t) &&& 31)))))), (ad 7, .inl (cI, 12, .inl aN))] H := hP
        have hD : va_D A9 [(ad 0, .inr (1, [.ref (ad 1), .ref (ad 2), .ref (ad 3), .ref (ad 4), .ref (ad 5), .ref (ad 6), .ref (ad 7), .int (nI n)])), (ad 1, .inl (cI, 12, .inl aK)), (ad 2, .inl (cI, 12, .inl aA)), (ad 3, .inl (cI, 12, .inl aB)), (ad 4, .inl (cI, 12, .inl aC)), (ad 5, .inl (cI, 12, .inl aP)), (ad 6, .inl (cI, 2, .inl (upd (pc_nv aP aV t κ α i) i (((pc_nv aP aV t κ α i) i) ||| (1 <<< ((nI t) &&& 31)))))), (ad 7, .inl (cI, 12, .inl aN))] := hD
        refine lv_iinc (k := 1) (v := nI (i + 1)) (lv' := [(2, .int (nI (i + 1))), (3, .int 0), (1, .int (nI t)), (0, .ref (ad 0))]) hx hb dX3_noteVariables_64 hl rfl (nI_1 i) (by decide) rfl (fun ls hl => ?_)
        refine lv_goto (tgt := 2) hx hb dX3_noteVariables_67 (by decide) ?_
        have ev : pc_nv aP aV t κ α (i + 1) = upd (pc_nv aP aV t κ α i) i (((pc_nv aP aV t κ α i) i) ||| (1 <<< ((nI t) &&& 31))) := pc_nv_y (Or.inr h4)
        rw [← ev] at hP hD
        exact ih (i + 1) ls H locs ⟨by omega, hP, hD, hS, lv_sub hl [0, 2, 3] rfl⟩ (by show 2 - (i + 1) < 2 - i; omega)
    · skip
      have h2 : κ = 0 := (nI_eq (a := κ) (b := 0) (by omega) (by omega)).mp h2
      refine lv_aload_n hx hb dX3_noteVariables_16 rfl (lv_at hl 2 rfl) ?_
      refine va_get (D := (dC, dI)) (ci := 1) (v := .ref (ad 2)) (C := RX3) (T := TX3) (N := 8) hx hb hts (fun w h => List.mem_cons_of_mem _ (wf_X3 w h)) hown hK hP 0 rfl rfl 1 (by decide) (hts _ (List.mem_cons_of_mem _ wm_fl_X3_15)) (fun _ h9 => h9) rfl dX3_noteVariables_17 ?_
      refine lv_iload_n hx hb dX3_noteVariables_20 rfl (lv_at hl 1 rfl) ?_
      refine xr_iald (t := t) (v := nI α) hx hb hK hP 2 0 rfl rfl (by omega) (by omega) (hat) dX3_noteVariables_21 ?_
      refine lv_iload_n hx hb dX3_noteVariables_22 rfl (lv_at hl 0 rfl) ?_
      refine lv_icmp_ne (tgt := 30) hx hb dX3_noteVariables_23 (by decide) (fun h5 => ?_) (fun h5 => ?_)
      · skip
        have h5 : ¬ α = i := fun z => h5 ((nI_eq (a := α) (b := i) (by omega) (by omega)).mpr z)
        refine lv_iconst (v := 0) hx hb dX3_noteVariables_30 (by decide) ?_
        refine lv_istore_n (lv' := [(3, .int 0), (2, .int (nI i)), (1, .int (nI t)), (0, .ref (ad 0))]) hx hb dX3_noteVariables_31 rfl hl (by decide) rfl (fun ls hl => ?_)
        refine lv_iload_n hx hb dX3_noteVariables_32 rfl (lv_at hl 0 rfl) ?_
        refine lv_if_ne (tgt := 52) hx hb dX3_noteVariables_33 (by decide) (fun h6 => absurd (by decide) h6) (fun _ => ?_)
        refine lv_aload_n hx hb dX3_noteVariables_36 rfl (lv_at hl 3 rfl) ?_
        refine va_get (D := (dC, dI)) (ci := 1) (v := .ref (ad 5)) (C := RX3) (T := TX3) (N := 8) hx hb hts (fun w h => List.mem_cons_of_mem _ (wf_X3 w h)) hown hK hP 0 rfl rfl 4 (by decide) (hts _ (List.mem_cons_of_mem _ wm_fl_X3_24)) (fun _ h9 => h9) rfl dX3_noteVariables_37 ?_
        refine lv_iload_n hx hb dX3_noteVariables_40 rfl (lv_at hl 2 rfl) ?_
        refine xr_iald (t := t) (v := aP t) hx hb hK hP 5 0 rfl rfl (by omega) (by omega) (rfl) dX3_noteVariables_41 ?_
        refine lv_aload_n hx hb dX3_noteVariables_42 rfl (lv_at hl 3 rfl) ?_
        refine va_get (D := (dC, dI)) (ci := 1) (v := .ref (ad 6)) (C := RX3) (T := TX3) (N := 8) hx hb hts (fun w h => List.mem_cons_of_mem _ (wf_X3 w h)) hown hK hP 0 rfl rfl 5 (by decide) (hts _ (List.mem_cons_of_mem _ wm_fl_X3_27)) (fun _ h9 => h9) rfl dX3_noteVariables_43 ?_
        refine lv_iload_n hx hb dX3_noteVariables_46 rfl (lv_at hl 1 rfl) ?_
        refine xr_iald (t := i) (v := (pc_nv aP aV t κ α i) i) hx hb hK hP 6 0 rfl rfl (by omega) (by omega) (rfl) dX3_noteVariables_47 ?_
        refine lv_iand hx hb dX3_noteVariables_48 ?_
        refine lv_if_eq (tgt := 64) hx hb dX3_noteVariables_49 (by decide) (fun h7 => ?_) (fun h7 => ?_)
        · skip
          refine lv_iinc (k := 1) (v := nI (i + 1)) (lv' := [(2, .int (nI (i + 1))), (3, .int 0), (1, .int (nI t)), (0, .ref (ad 0))]) hx hb dX3_noteVariables_64 hl rfl (nI_1 i) (by decide) rfl (fun ls hl => ?_)
          refine lv_goto (tgt := 2) hx hb dX3_noteVariables_67 (by decide) ?_
          have ev : pc_nv aP aV t κ α (i + 1) = pc_nv aP aV t κ α i := pc_nv_n (fun z => z.elim (fun z => h5 z.2) (fun z => z h7))
          rw [← ev] at hP hD
          exact ih (i + 1) ls H locs ⟨by omega, hP, hD, hS, lv_sub hl [0, 2, 3] rfl⟩ (by show 2 - (i + 1) < 2 - i; omega)
        · skip
          refine lv_aload_n hx hb dX3_noteVariables_52 rfl (lv_at hl 3 rfl) ?_
          refine va_get (D := (dC, dI)) (ci := 1) (v := .ref (ad 6)) (C := RX3) (T := TX3) (N := 8) hx hb hts (fun w h => List.mem_cons_of_mem _ (wf_X3 w h)) hown hK hP 0 rfl rfl 5 (by decide) (hts _ (List.mem_cons_of_mem _ wm_fl_X3_27)) (fun _ h9 => h9) rfl dX3_noteVariables_53 ?_
          refine lv_iload_n hx hb dX3_noteVariables_56 rfl (lv_at hl 1 rfl) ?_
          refine lv_dup2_11 hx hb dX3_noteVariables_57 rfl rfl ?_
          refine xr_iald (t := i) (v := (pc_nv aP aV t κ α i) i) hx hb hK hP 6 0 rfl rfl (by omega) (by omega) (rfl) dX3_noteVariables_58 ?_
          refine lv_iconst (v := 1) hx hb dX3_noteVariables_59 (by decide) ?_
          refine lv_iload_n hx hb dX3_noteVariables_60 rfl (lv_at hl 2 rfl) ?_
          refine lv_ishl hx hb dX3_noteVariables_61 ?_
          refine lv_ior hx hb dX3_noteVariables_62 ?_
          refine xr_iast (t := i) (x := ((pc_nv aP aV t κ α i) i) ||| (1 <<< ((nI t) &&& 31))) hx hb hK hP hD hS 6 0 rfl rfl (by omega) (by omega) dX3_noteVariables_63 (fun H locs hP hD hS => ?_)
          have hP : va_P (dC, dI) vwCl [(ad 0, .inr (1, [.ref (ad 1), .ref (ad 2), .ref (ad 3), .ref (ad 4), .ref (ad 5), .ref (ad 6), .ref (ad 7), .int (nI n)])), (ad 1, .inl (cI, 12, .inl aK)), (ad 2, .inl (cI, 12, .inl aA)), (ad 3, .inl (cI, 12, .inl aB)), (ad 4, .inl (cI, 12, .inl aC)), (ad 5, .inl (cI, 12, .inl aP)), (ad 6, .inl (cI, 2, .inl (upd (pc_nv aP aV t κ α i) i (((pc_nv aP aV t κ α i) i) ||| (1 <<< ((nI t) &&& 31)))))), (ad 7, .inl (cI, 12, .inl aN))] H := hP
          have hD : va_D A9 [(ad 0, .inr (1, [.ref (ad 1), .ref (ad 2), .ref (ad 3), .ref (ad 4), .ref (ad 5), .ref (ad 6), .ref (ad 7), .int (nI n)])), (ad 1, .inl (cI, 12, .inl aK)), (ad 2, .inl (cI, 12, .inl aA)), (ad 3, .inl (cI, 12, .inl aB)), (ad 4, .inl (cI, 12, .inl aC)), (ad 5, .inl (cI, 12, .inl aP)), (ad 6, .inl (cI, 2, .inl (upd (pc_nv aP aV t κ α i) i (((pc_nv aP aV t κ α i) i) ||| (1 <<< ((nI t) &&& 31)))))), (ad 7, .inl (cI, 12, .inl aN))] := hD
          refine lv_iinc (k := 1) (v := nI (i + 1)) (lv' := [(2, .int (nI (i + 1))), (3, .int 0), (1, .int (nI t)), (0, .ref (ad 0))]) hx hb dX3_noteVariables_64 hl rfl (nI_1 i) (by decide) rfl (fun ls hl => ?_)
          refine lv_goto (tgt := 2) hx hb dX3_noteVariables_67 (by decide) ?_
          have ev : pc_nv aP aV t κ α (i + 1) = upd (pc_nv aP aV t κ α i) i (((pc_nv aP aV t κ α i) i) ||| (1 <<< ((nI t) &&& 31))) := pc_nv_y (Or.inr h7)
          rw [← ev] at hP hD
          exact ih (i + 1) ls H locs ⟨by omega, hP, hD, hS, lv_sub hl [0, 2, 3] rfl⟩ (by show 2 - (i + 1) < 2 - i; omega)
      · skip
        have h5 : α = i := (nI_eq (a := α) (b := i) (by omega) (by omega)).mp h5
        refine lv_iconst (v := 1) hx hb dX3_noteVariables_26 (by decide) ?_
        refine lv_goto (tgt := 31) hx hb dX3_noteVariables_27 (by decide) ?_
        refine lv_istore_n (lv' := [(3, .int 1), (2, .int (nI i)), (1, .int (nI t)), (0, .ref (ad 0))]) hx hb dX3_noteVariables_31 rfl hl (by decide) rfl (fun ls hl => ?_)
        refine lv_iload_n hx hb dX3_noteVariables_32 rfl (lv_at hl 0 rfl) ?_
        refine lv_if_ne (tgt := 52) hx hb dX3_noteVariables_33 (by decide) (fun _ => ?_) (fun h8 => absurd h8 (by decide))
        refine lv_aload_n hx hb dX3_noteVariables_52 rfl (lv_at hl 3 rfl) ?_
        refine va_get (D := (dC, dI)) (ci := 1) (v := .ref (ad 6)) (C := RX3) (T := TX3) (N := 8) hx hb hts (fun w h => List.mem_cons_of_mem _ (wf_X3 w h)) hown hK hP 0 rfl rfl 5 (by decide) (hts _ (List.mem_cons_of_mem _ wm_fl_X3_27)) (fun _ h9 => h9) rfl dX3_noteVariables_53 ?_
        refine lv_iload_n hx hb dX3_noteVariables_56 rfl (lv_at hl 1 rfl) ?_
        refine lv_dup2_11 hx hb dX3_noteVariables_57 rfl rfl ?_
        refine xr_iald (t := i) (v := (pc_nv aP aV t κ α i) i) hx hb hK hP 6 0 rfl rfl (by omega) (by omega) (rfl) dX3_noteVariables_58 ?_
        refine lv_iconst (v := 1) hx hb dX3_noteVariables_59 (by decide) ?_
        refine lv_iload_n hx hb dX3_noteVariables_60 rfl (lv_at hl 2 rfl) ?_
        refine lv_ishl hx hb dX3_noteVariables_61 ?_
        refine lv_ior hx hb dX3_noteVariables_62 ?_
        refine xr_iast (t := i) (x := ((pc_nv aP aV t κ α i) i) ||| (1 <<< ((nI t) &&& 31))) hx hb hK hP hD hS 6 0 rfl rfl (by omega) (by omega) dX3_noteVariables_63 (fun H locs hP hD hS => ?_)
        have hP : va_P (dC, dI) vwCl [(ad 0, .inr (1, [.ref (ad 1), .ref (ad 2), .ref (ad 3), .ref (ad 4), .ref (ad 5), .ref (ad 6), .ref (ad 7), .int (nI n)])), (ad 1, .inl (cI, 12, .inl aK)), (ad 2, .inl (cI, 12, .inl aA)), (ad 3, .inl (cI, 12, .inl aB)), (ad 4, .inl (cI, 12, .inl aC)), (ad 5, .inl (cI, 12, .inl aP)), (ad 6, .inl (cI, 2, .inl (upd (pc_nv aP aV t κ α i) i (((pc_nv aP aV t κ α i) i) ||| (1 <<< ((nI t) &&& 31)))))), (ad 7, .inl (cI, 12, .inl aN))] H := hP
        have hD : va_D A9 [(ad 0, .inr (1, [.ref (ad 1), .ref (ad 2), .ref (ad 3), .ref (ad 4), .ref (ad 5), .ref (ad 6), .ref (ad 7), .int (nI n)])), (ad 1, .inl (cI, 12, .inl aK)), (ad 2, .inl (cI, 12, .inl aA)), (ad 3, .inl (cI, 12, .inl aB)), (ad 4, .inl (cI, 12, .inl aC)), (ad 5, .inl (cI, 12, .inl aP)), (ad 6, .inl (cI, 2, .inl (upd (pc_nv aP aV t κ α i) i (((pc_nv aP aV t κ α i) i) ||| (1 <<< ((nI t) &&& 31)))))), (ad 7, .inl (cI, 12, .inl aN))] := hD
        refine lv_iinc (k := 1) (v := nI (i + 1)) (lv' := [(2, .int (nI (i + 1))), (3, .int 1), (1, .int (nI t)), (0, .ref (ad 0))]) hx hb dX3_noteVariables_64 hl rfl (nI_1 i) (by decide) rfl (fun ls hl => ?_)
        refine lv_goto (tgt := 2) hx hb dX3_noteVariables_67 (by decide) ?_
        have ev : pc_nv aP aV t κ α (i + 1) = upd (pc_nv aP aV t κ α i) i (((pc_nv aP aV t κ α i) i) ||| (1 <<< ((nI t) &&& 31))) := pc_nv_y (Or.inl ⟨h2, h5⟩)
        rw [← ev] at hP hD
        exact ih (i + 1) ls H locs ⟨by omega, hP, hD, hS, lv_sub hl [0, 2, 3] rfl⟩ (by show 2 - (i + 1) < 2 - i; omega)
set_option maxHeartbeats 4000000 in
set_option maxRecDepth 100000 in
theorem ctX3_append (sz κ α β γ : Nat) (hn : n < 12) (hκ : κ < 20) (hα : α < 32) (h1 : 3 ≤ pv_s1 κ → α < 12) (h2 : 3 ≤ pv_s2 κ → β < 12) (h3 : 3 ≤ pv_s3 κ → γ < 12) : Met l yX3_append wsX3_append ({ frames := 2, cells := 0, slots := 0, locals := 42 }) (va_Pc [.ref (ad 0), .int (nI κ), .int (nI α), .int (nI β), .int (nI γ)] (fun U => U.heap.size = sz ∧ va_P (dC, dI) vwCl (wT cI ad aK aA aB aC aP aV aN n) U.heap ∧ va_K (dC, dI) vwCl [(cI, .int)] U ∧ va_D (fun _ => True) (wT cI ad aK aA aB aC aP aV aN n))) (va_Qi (fun r _ => r = nI n) (fun (u : Unit) t9 => va_P (dC, dI) vwCl (wT cI ad (upd aK n (nI κ)) (upd aA n (nI α)) (upd aB n (nI β)) (upd aC n (nI γ)) (upd aP n (pp_new aP n κ α β γ)) (pc_nv (upd aP n (pp_new aP n κ α β γ)) aV n κ α 2) aN (n + 1)) t9.heap ∧ va_K (dC, dI) vwCl [(cI, .int)] t9 ∧ va_D (va_A (wT cI ad aK aA aB aC aP aV aN n) sz) (wT cI ad (upd aK n (nI κ)) (upd aA n (nI α)) (upd aB n (nI β)) (upd aC n (nI γ)) (upd aP n (pp_new aP n κ α β γ)) (pc_nv (upd aP n (pp_new aP n κ α β γ)) aV n κ α 2) aN (n + 1))) (va_A (wT cI ad aK aA aB aC aP aV aN n) sz)) 0 0 (va_A (wT cI ad aK aA aB aC aP aV aN n) sz) := by
  refine Met.ofW (cc := cX3_append) (maxL := 6) (ret := (some .int)) (by decide) rfl ?_
  intro p e s m args below meth c s₁ B hml hv
  obtain ⟨rfl, hsz, hP, hK, hD0⟩ := hv
  subst hsz
  have hx := B.exec
  have hb := B.bytes
  have hr := B.returns
  have hts := atoms_spec (ws := wsX3_append) B.pre
  have hown : s.vm.findClass RX3 = some m.cls := findClass_of_methodNamed B.named
  have hlocks := B.notSynchronized
  have hl := lv_entry ([.ref (ad 0), .int (nI κ), .int (nI α), .int (nI β), .int (nI γ)]) (n := 6) (Nat.le_of_ble_eq_true rfl)
  rw [lg_entry_eq]
  generalize (lg_sl ([.ref (ad 0), .int (nI κ), .int (nI α), .int (nI β), .int (nI γ)]) ++ List.replicate (6 - (lg_sl ([.ref (ad 0), .int (nI κ), .int (nI α), .int (nI β), .int (nI γ)])).length) Slot.unset).toArray = ls at hl ⊢
  have hl : lv_has ls 6 [(0, .ref (ad 0)), (1, .int (nI κ)), (2, .int (nI α)), (3, .int (nI β)), (4, .int (nI γ))] := hl
  have hD := hD0.self (sz := s.heap.size)
  generalize hAe : va_A (wT cI ad aK aA aB aC aP aV aN n) s.heap.size = A9 at hD ⊢
  have hA : ∀ q : Nat, s.heap.size ≤ q → A9 q := fun q h => by rw [← hAe]; exact Or.inr h
  have hS : va_S A9 s.heap s.heap [] := va_S.rf
  have s1 := pv_s1_le κ
  have s2 := pv_s2_le κ
  have s3 := pv_s3_le κ
  refine lv_aload_n hx hb dX3_append_0 rfl (lv_at hl 0 rfl) ?_
  refine va_get (D := (dC, dI)) (ci := 1) (v := .int (nI n)) (C := RX3) (T := TX3) (N := 8) hx hb hts (fun w h => List.mem_cons_of_mem _ (wf_X3 w h)) hown hK hP 0 rfl rfl 7 (by decide) (hts _ (List.mem_cons_of_mem _ wm_fl_X3_33)) (fun _ h9 => h9) rfl dX3_append_1 ?_
  refine lv_istore (lv' := [(5, .int (nI n)), (0, .ref (ad 0)), (1, .int (nI κ)), (2, .int (nI α)), (3, .int (nI β)), (4, .int (nI γ))]) hx hb dX3_append_4 hl (by decide) rfl (fun ls hl => ?_)
  refine lv_aload_n hx hb dX3_append_6 rfl (lv_at hl 1 rfl) ?_
  refine va_get (D := (dC, dI)) (ci := 1) (v := .ref (ad 1)) (C := RX3) (T := TX3) (N := 8) hx hb hts (fun w h => List.mem_cons_of_mem _ (wf_X3 w h)) hown hK hP 0 rfl rfl 0 (by decide) (hts _ (List.mem_cons_of_mem _ wm_fl_X3_9)) (fun _ h9 => h9) rfl dX3_append_7 ?_
  refine lv_iload hx hb dX3_append_10 (lv_at hl 0 rfl) ?_
  refine lv_iload_n hx hb dX3_append_12 rfl (lv_at hl 2 rfl) ?_
  refine xr_iast (t := n) (x := nI κ) hx hb hK hP hD hS 1 0 rfl rfl (by omega) (by omega) dX3_append_13 (fun H locs hP hD hS => ?_)
  have hP : va_P (dC, dI) vwCl [(ad 0, .inr (1, [.ref (ad 1), .ref (ad 2), .ref (ad 3), .ref (ad 4), .ref (ad 5), .ref (ad 6), .ref (ad 7), .int (nI n)])), (ad 1, .inl (cI, 12, .inl (upd aK n (nI κ)))), (ad 2, .inl (cI, 12, .inl aA)), (ad 3, .inl (cI, 12, .inl aB)), (ad 4, .inl (cI, 12, .inl aC)), (ad 5, .inl (cI, 12, .inl aP)), (ad 6, .inl (cI, 2, .inl aV)), (ad 7, .inl (cI, 12, .inl aN))] H := hP
  have hD : va_D A9 [(ad 0, .inr (1, [.ref (ad 1), .ref (ad 2), .ref (ad 3), .ref (ad 4), .ref (ad 5), .ref (ad 6), .ref (ad 7), .int (nI n)])), (ad 1, .inl (cI, 12, .inl (upd aK n (nI κ)))), (ad 2, .inl (cI, 12, .inl aA)), (ad 3, .inl (cI, 12, .inl aB)), (ad 4, .inl (cI, 12, .inl aC)), (ad 5, .inl (cI, 12, .inl aP)), (ad 6, .inl (cI, 2, .inl aV)), (ad 7, .inl (cI, 12, .inl aN))] := hD
  refine lv_aload_n hx hb dX3_append_14 rfl (lv_at hl 1 rfl) ?_
  refine va_get (D := (dC, dI)) (ci := 1) (v := .ref (ad 2)) (C := RX3) (T := TX3) (N := 8) hx hb hts (fun w h => List.mem_cons_of_mem _ (wf_X3 w h)) hown hK hP 0 rfl rfl 1 (by decide) (hts _ (List.mem_cons_of_mem _ wm_fl_X3_15)) (fun _ h9 => h9) rfl dX3_append_15 ?_
  refine lv_iload hx hb dX3_append_18 (lv_at hl 0 rfl) ?_
  refine lv_iload_n hx hb dX3_append_20 rfl (lv_at hl 3 rfl) ?_
  refine xr_iast (t := n) (x := nI α) hx hb hK hP hD hS 2 0 rfl rfl (by omega) (by omega) dX3_append_21 (fun H locs hP hD hS => ?_)
  have hP : va_P (dC, dI) vwCl [(ad 0, .inr (1, [.ref (ad 1), .ref (ad 2), .ref (ad 3), .ref (ad 4), .ref (ad 5), .ref (ad 6), .ref (ad 7), .int (nI n)])), (ad 1, .inl (cI, 12, .inl (upd aK n (nI κ)))), (ad 2, .inl (cI, 12, .inl (upd aA n (nI α)))), (ad 3, .inl (cI, 12, .inl aB)), (ad 4, .inl (cI, 12, .inl aC)), (ad 5, .inl (cI, 12, .inl aP)), (ad 6, .inl (cI, 2, .inl aV)), (ad 7, .inl (cI, 12, .inl aN))] H := hP
  have hD : va_D A9 [(ad 0, .inr (1, [.ref (ad 1), .ref (ad 2), .ref (ad 3), .ref (ad 4), .ref (ad 5), .ref (ad 6), .ref (ad 7), .int (nI n)])), (ad 1, .inl (cI, 12, .inl (upd aK n (nI κ)))), (ad 2, .inl (cI, 12, .inl (upd aA n (nI α)))), (ad 3, .inl (cI, 12, .inl aB)), (ad 4, .inl (cI, 12, .inl aC)), (ad 5, .inl (cI, 12, .inl aP)), (ad 6, .inl (cI, 2, .inl aV)), (ad 7, .inl (cI, 12, .inl aN))] := hD
  refine lv_aload_n hx hb dX3_append_22 rfl (lv_at hl 1 rfl) ?_
  refine va_get (D := (dC, dI)) (ci := 1) (v := .ref (ad 3)) (C := RX3) (T := TX3) (N := 8) hx hb hts (fun w h => List.mem_cons_of_mem _ (wf_X3 w h)) hown hK hP 0 rfl rfl 2 (by decide) (hts _ (List.mem_cons_of_mem _ wm_fl_X3_18)) (fun _ h9 => h9) rfl dX3_append_23 ?_
  refine lv_iload hx hb dX3_append_26 (lv_at hl 0 rfl) ?_
  refine lv_iload_n hx hb dX3_append_28 rfl (lv_at hl 4 rfl) ?_
  refine xr_iast (t := n) (x := nI β) hx hb hK hP hD hS 3 0 rfl rfl (by omega) (by omega) dX3_append_29 (fun H locs hP hD hS => ?_)
  have hP : va_P (dC, dI) vwCl [(ad 0, .inr (1, [.ref (ad 1), .ref (ad 2), .ref (ad 3), .ref (ad 4), .ref (ad 5), .ref (ad 6), .ref (ad 7), .int (nI n)])), (ad 1, .inl (cI, 12, .inl (upd aK n (nI κ)))), (ad 2, .inl (cI, 12, .inl (upd aA n (nI α)))), (ad 3, .inl (cI, 12, .inl (upd aB n (nI β)))), (ad 4, .inl (cI, 12, .inl aC)), (ad 5, .inl (cI, 12, .inl aP)), (ad 6, .inl (cI, 2, .inl aV)), (ad 7, .inl (cI, 12, .inl aN))] H := hP
  have hD : va_D A9 [(ad 0, .inr (1, [.ref (ad 1), .ref (ad 2), .ref (ad 3), .ref (ad 4), .ref (ad 5), .ref (ad 6), .ref (ad 7), .int (nI n)])), (ad 1, .inl (cI, 12, .inl (upd aK n (nI κ)))), (ad 2, .inl (cI, 12, .inl (upd aA n (nI α)))), (ad 3, .inl (cI, 12, .inl (upd aB n (nI β)))), (ad 4, .inl (cI, 12, .inl aC)), (ad 5, .inl (cI, 12, .inl aP)), (ad 6, .inl (cI, 2, .inl aV)), (ad 7, .inl (cI, 12, .inl aN))] := hD
  refine lv_aload_n hx hb dX3_append_30 rfl (lv_at hl 1 rfl) ?_
  refine va_get (D := (dC, dI)) (ci := 1) (v := .ref (ad 4)) (C := RX3) (T := TX3) (N := 8) hx hb hts (fun w h => List.mem_cons_of_mem _ (wf_X3 w h)) hown hK hP 0 rfl rfl 3 (by decide) (hts _ (List.mem_cons_of_mem _ wm_fl_X3_21)) (fun _ h9 => h9) rfl dX3_append_31 ?_
  refine lv_iload hx hb dX3_append_34 (lv_at hl 0 rfl) ?_
  refine lv_iload hx hb dX3_append_36 (lv_at hl 5 rfl) ?_
  refine xr_iast (t := n) (x := nI γ) hx hb hK hP hD hS 4 0 rfl rfl (by omega) (by omega) dX3_append_38 (fun H locs hP hD hS => ?_)
  have hP : va_P (dC, dI) vwCl [(ad 0, .inr (1, [.ref (ad 1), .ref (ad 2), .ref (ad 3), .ref (ad 4), .ref (ad 5), .ref (ad 6), .ref (ad 7), .int (nI n)])), (ad 1, .inl (cI, 12, .inl (upd aK n (nI κ)))), (ad 2, .inl (cI, 12, .inl (upd aA n (nI α)))), (ad 3, .inl (cI, 12, .inl (upd aB n (nI β)))), (ad 4, .inl (cI, 12, .inl (upd aC n (nI γ)))), (ad 5, .inl (cI, 12, .inl aP)), (ad 6, .inl (cI, 2, .inl aV)), (ad 7, .inl (cI, 12, .inl aN))] H := hP
  have hD : va_D A9 [(ad 0, .inr (1, [.ref (ad 1), .ref (ad 2), .ref (ad 3), .ref (ad 4), .ref (ad 5), .ref (ad 6), .ref (ad 7), .int (nI n)])), (ad 1, .inl (cI, 12, .inl (upd aK n (nI κ)))), (ad 2, .inl (cI, 12, .inl (upd aA n (nI α)))), (ad 3, .inl (cI, 12, .inl (upd aB n (nI β)))), (ad 4, .inl (cI, 12, .inl (upd aC n (nI γ)))), (ad 5, .inl (cI, 12, .inl aP)), (ad 6, .inl (cI, 2, .inl aV)), (ad 7, .inl (cI, 12, .inl aN))] := hD
  refine lv_aload_n hx hb dX3_append_39 rfl (lv_at hl 1 rfl) ?_
  refine va_get (D := (dC, dI)) (ci := 1) (v := .ref (ad 5)) (C := RX3) (T := TX3) (N := 8) hx hb hts (fun w h => List.mem_cons_of_mem _ (wf_X3 w h)) hown hK hP 0 rfl rfl 4 (by decide) (hts _ (List.mem_cons_of_mem _ wm_fl_X3_24)) (fun _ h9 => h9) rfl dX3_append_40 ?_
  refine lv_iload hx hb dX3_append_43 (lv_at hl 0 rfl) ?_
  refine lv_iconst (v := 1) hx hb dX3_append_45 (by decide) ?_
  refine lv_iload hx hb dX3_append_46 (lv_at hl 0 rfl) ?_
  refine lv_ishl hx hb dX3_append_48 ?_
  refine lv_aload_n hx hb dX3_append_49 rfl (lv_at hl 1 rfl) ?_
  refine lv_iload_n hx hb dX3_append_50 rfl (lv_at hl 2 rfl) ?_
  refine vp_callSi (W.runS (As := [.int (nI κ)]) (rest := [.ref (ad 0), .int (1 <<< ((nI n) &&& 31)), .int (nI n), .ref (ad 5)]) ⟨hx, hb, hml, hown, hts⟩ (ctX2_ofFirst l (nI κ)) (va_cwS 1 hts (wA_wsS wm_ml_X3_49 wm_st_X2_ofFirst wm_in_X2 wm_cd_X2_ofFirst) rfl rfl rfl (by decide +kernel) ⟨Nat.le_of_ble_eq_true rfl, Nat.le_of_ble_eq_true rfl⟩) ⟨fun a U g mk q => q, fun U hU hW => ⟨rfl, trivial⟩⟩ rfl rfl hl.1 rfl (lv_room (Nat.le_of_ble_eq_true rfl)) dX3_append_51 ⟨Nat.zero_le _, Nat.zero_le _⟩) (fun r1 er1 => ?_)
  rw [px_s1_n hκ] at er1
  subst er1
  refine lv_iload_n hx hb dX3_append_54 rfl (lv_at hl 3 rfl) ?_
  refine vp_callSi (W.runV (C := RX3) (b := ad 0) (As := [.int (nI (pv_s1 κ)), .int (nI α)]) (rest := [.int (1 <<< ((nI n) &&& 31)), .int (nI n), .ref (ad 5)]) ⟨hx, hb, hml, hown, hts⟩ (ctX3_partsBelow l dC dI cI ad (upd aK n (nI κ)) (upd aA n (nI α)) (upd aB n (nI β)) (upd aC n (nI γ)) aP aV aN n (pv_s1 κ) α (by omega) h1) (cwV 2 hts (wA_wsV wm_ml_X3_74 wm_im_X3_partsBelow wm_se_X3_partsBelow wm_in_X3 wm_cd_X3_partsBelow) rfl rfl rfl (by decide +kernel) ⟨Nat.le_of_ble_eq_true rfl, Nat.le_of_ble_eq_true rfl⟩) ⟨fun a U g mk q => by obtain ⟨q0, qP, qK⟩ := q; exact ⟨q0, qP, va_K.moved (u := U) (U := U.calling g mk a) (Vm.Alike.refl U.vm) qK⟩, va_recv (q := (RX3, TX3, 8)) (q0 := 0) hK hP rfl rfl, fun U hU hW => ⟨rfl, by rw [hU]; exact hP, va_K.moved hW.alike hK⟩⟩ rfl rfl hl.1 rfl (lv_room (Nat.le_of_ble_eq_true rfl)) dX3_append_55 ⟨Nat.zero_le _, Nat.zero_le _⟩) (fun r2 er2 => ?_)
  subst er2
  refine lv_ior hx hb dX3_append_58 ?_
  refine lv_aload_n hx hb dX3_append_59 rfl (lv_at hl 1 rfl) ?_
  refine lv_iload_n hx hb dX3_append_60 rfl (lv_at hl 2 rfl) ?_
  refine vp_callSi (W.runS (As := [.int (nI κ)]) (rest := [.ref (ad 0), .int ((1 <<< ((nI n) &&& 31)) ||| (pp_pb aP (pv_s1 κ) α)), .int (nI n), .ref (ad 5)]) ⟨hx, hb, hml, hown, hts⟩ (ctX2_ofSecond l (nI κ)) (va_cwS 1 hts (wA_wsS wm_ml_X3_57 wm_st_X2_ofSecond wm_in_X2 wm_cd_X2_ofSecond) rfl rfl rfl (by decide +kernel) ⟨Nat.le_of_ble_eq_true rfl, Nat.le_of_ble_eq_true rfl⟩) ⟨fun a U g mk q => q, fun U hU hW => ⟨rfl, trivial⟩⟩ rfl rfl hl.1 rfl (lv_room (Nat.le_of_ble_eq_true rfl)) dX3_append_61 ⟨Nat.zero_le _, Nat.zero_le _⟩) (fun r3 er3 => ?_)
  rw [px_s2_n hκ] at er3
  subst er3
  refine lv_iload_n hx hb dX3_append_64 rfl (lv_at hl 4 rfl) ?_
  refine vp_callSi (W.runV (C := RX3) (b := ad 0) (As := [.int (nI (pv_s2 κ)), .int (nI β)]) (rest := [.int ((1 <<< ((nI n) &&& 31)) ||| (pp_pb aP (pv_s1 κ) α)), .int (nI n), .ref (ad 5)]) ⟨hx, hb, hml, hown, hts⟩ (ctX3_partsBelow l dC dI cI ad (upd aK n (nI κ)) (upd aA n (nI α)) (upd aB n (nI β)) (upd aC n (nI γ)) aP aV aN n (pv_s2 κ) β (by omega) h2) (cwV 2 hts (wA_wsV wm_ml_X3_74 wm_im_X3_partsBelow wm_se_X3_partsBelow wm_in_X3 wm_cd_X3_partsBelow) rfl rfl rfl (by decide +kernel) ⟨Nat.le_of_ble_eq_true rfl, Nat.le_of_ble_eq_true rfl⟩) ⟨fun a U g mk q => by obtain ⟨q0, qP, qK⟩ := q; exact ⟨q0, qP, va_K.moved (u := U) (U := U.calling g mk a) (Vm.Alike.refl U.vm) qK⟩, va_recv (q := (RX3, TX3, 8)) (q0 := 0) hK hP rfl rfl, fun U hU hW => ⟨rfl, by rw [hU]; exact hP, va_K.moved hW.alike hK⟩⟩ rfl rfl hl.1 rfl (lv_room (Nat.le_of_ble_eq_true rfl)) dX3_append_65 ⟨Nat.zero_le _, Nat.zero_le _⟩) (fun r4 er4 => ?_)
  subst er4
  refine lv_ior hx hb dX3_append_68 ?_
  refine lv_aload_n hx hb dX3_append_69 rfl (lv_at hl 1 rfl) ?_
  refine lv_iload_n hx hb dX3_append_70 rfl (lv_at hl 2 rfl) ?_
  refine vp_callSi (W.runS (As := [.int (nI κ)]) (rest := [.ref (ad 0), .int (((1 <<< ((nI n) &&& 31)) ||| (pp_pb aP (pv_s1 κ) α)) ||| (pp_pb aP (pv_s2 κ) β)), .int (nI n), .ref (ad 5)]) ⟨hx, hb, hml, hown, hts⟩ (ctX2_ofThird l (nI κ)) (va_cwS 1 hts (wA_wsS wm_ml_X3_60 wm_st_X2_ofThird wm_in_X2 wm_cd_X2_ofThird) rfl rfl rfl (by decide +kernel) ⟨Nat.le_of_ble_eq_true rfl, Nat.le_of_ble_eq_true rfl⟩) ⟨fun a U g mk q => q, fun U hU hW => ⟨rfl, trivial⟩⟩ rfl rfl hl.1 rfl (lv_room (Nat.le_of_ble_eq_true rfl)) dX3_append_71 ⟨Nat.zero_le _, Nat.zero_le _⟩) (fun r5 er5 => ?_)
  rw [px_s3_n hκ] at er5
  subst er5
  refine lv_iload hx hb dX3_append_74 (lv_at hl 5 rfl) ?_
  refine vp_callSi (W.runV (C := RX3) (b := ad 0) (As := [.int (nI (pv_s3 κ)), .int (nI γ)]) (rest := [.int (((1 <<< ((nI n) &&& 31)) ||| (pp_pb aP (pv_s1 κ) α)) ||| (pp_pb aP (pv_s2 κ) β)), .int (nI n), .ref (ad 5)]) ⟨hx, hb, hml, hown, hts⟩ (ctX3_partsBelow l dC dI cI ad (upd aK n (nI κ)) (upd aA n (nI α)) (upd aB n (nI β)) (upd aC n (nI γ)) aP aV aN n (pv_s3 κ) γ (by omega) h3) (cwV 2 hts (wA_wsV wm_ml_X3_74 wm_im_X3_partsBelow wm_se_X3_partsBelow wm_in_X3 wm_cd_X3_partsBelow) rfl rfl rfl (by decide +kernel) ⟨Nat.le_of_ble_eq_true rfl, Nat.le_of_ble_eq_true rfl⟩) ⟨fun a U g mk q => by obtain ⟨q0, qP, qK⟩ := q; exact ⟨q0, qP, va_K.moved (u := U) (U := U.calling g mk a) (Vm.Alike.refl U.vm) qK⟩, va_recv (q := (RX3, TX3, 8)) (q0 := 0) hK hP rfl rfl, fun U hU hW => ⟨rfl, by rw [hU]; exact hP, va_K.moved hW.alike hK⟩⟩ rfl rfl hl.1 rfl (lv_room (Nat.le_of_ble_eq_true rfl)) dX3_append_76 ⟨Nat.zero_le _, Nat.zero_le _⟩) (fun r6 er6 => ?_)
  subst er6
  refine lv_ior hx hb dX3_append_79 ?_
  refine xr_iast (t := n) (x := (((1 <<< ((nI n) &&& 31)) ||| (pp_pb aP (pv_s1 κ) α)) ||| (pp_pb aP (pv_s2 κ) β)) ||| (pp_pb aP (pv_s3 κ) γ)) hx hb hK hP hD hS 5 0 rfl rfl (by omega) (by omega) dX3_append_80 (fun H locs hP hD hS => ?_)
  have hP : va_P (dC, dI) vwCl [(ad 0, .inr (1, [.ref (ad 1), .ref (ad 2), .ref (ad 3), .ref (ad 4), .ref (ad 5), .ref (ad 6), .ref (ad 7), .int (nI n)])), (ad 1, .inl (cI, 12, .inl (upd aK n (nI κ)))), (ad 2, .inl (cI, 12, .inl (upd aA n (nI α)))), (ad 3, .inl (cI, 12, .inl (upd aB n (nI β)))), (ad 4, .inl (cI, 12, .inl (upd aC n (nI γ)))), (ad 5, .inl (cI, 12, .inl (upd aP n ((((1 <<< ((nI n) &&& 31)) ||| (pp_pb aP (pv_s1 κ) α)) ||| (pp_pb aP (pv_s2 κ) β)) ||| (pp_pb aP (pv_s3 κ) γ))))), (ad 6, .inl (cI, 2, .inl aV)), (ad 7, .inl (cI, 12, .inl aN))] H := hP
  have hD : va_D A9 [(ad 0, .inr (1, [.ref (ad 1), .ref (ad 2), .ref (ad 3), .ref (ad 4), .ref (ad 5), .ref (ad 6), .ref (ad 7), .int (nI n)])), (ad 1, .inl (cI, 12, .inl (upd aK n (nI κ)))), (ad 2, .inl (cI, 12, .inl (upd aA n (nI α)))), (ad 3, .inl (cI, 12, .inl (upd aB n (nI β)))), (ad 4, .inl (cI, 12, .inl (upd aC n (nI γ)))), (ad 5, .inl (cI, 12, .inl (upd aP n ((((1 <<< ((nI n) &&& 31)) ||| (pp_pb aP (pv_s1 κ) α)) ||| (pp_pb aP (pv_s2 κ) β)) ||| (pp_pb aP (pv_s3 κ) γ))))), (ad 6, .inl (cI, 2, .inl aV)), (ad 7, .inl (cI, 12, .inl aN))] := hD
  refine lv_aload_n hx hb dX3_append_81 rfl (lv_at hl 1 rfl) ?_
  refine lv_iload hx hb dX3_append_82 (lv_at hl 0 rfl) ?_
  have hP : va_P (dC, dI) vwCl (wT cI ad (upd aK n (nI κ)) (upd aA n (nI α)) (upd aB n (nI β)) (upd aC n (nI γ)) (upd aP n (pp_new aP n κ α β γ)) aV aN n) H := hP
  have hD : va_D A9 (wT cI ad (upd aK n (nI κ)) (upd aA n (nI α)) (upd aB n (nI β)) (upd aC n (nI γ)) (upd aP n (pp_new aP n κ α β γ)) aV aN n) := hD
  have hPc := hP.sub (ws' := (wT cI ad (upd aK n (nI κ)) (upd aA n (nI α)) (upd aB n (nI β)) (upd aC n (nI γ)) (upd aP n (pp_new aP n κ α β γ)) aV aN n)) [0, 1, 2, 3, 4, 5, 6, 7] rfl
  have hDc := hD.sub (ws' := (wT cI ad (upd aK n (nI κ)) (upd aA n (nI α)) (upd aB n (nI β)) (upd aC n (nI γ)) (upd aP n (pp_new aP n κ α β γ)) aV aN n)) [0, 1, 2, 3, 4, 5, 6, 7] (by decide) rfl
  have hFc := va_free (wc := (wT cI ad (upd aK n (nI κ)) (upd aA n (nI α)) (upd aB n (nI β)) (upd aC n (nI γ)) (upd aP n (pp_new aP n κ α β γ)) aV aN n)) hD hS hA [0, 1, 2, 3, 4, 5, 6, 7] rfl
  refine va_callv (va_runV (C := RX3) (b := ad 0) (As := [.int (nI n)]) (rest := []) ⟨hx, hb, hml, hown, hts⟩ (ctX3_noteVariables l dC dI cI ad (upd aK n (nI κ)) (upd aA n (nI α)) (upd aB n (nI β)) (upd aC n (nI γ)) (upd aP n (pp_new aP n κ α β γ)) aV aN n H.size n κ α hn hκ hα pk_us pk_us) (cwV 1 hts (wA_wsV wm_ml_X3_78 wm_im_X3_noteVariables wm_se_X3_noteVariables wm_in_X3 wm_cd_X3_noteVariables) rfl rfl rfl (by decide +kernel) ⟨Nat.le_of_ble_eq_true rfl, Nat.le_of_ble_eq_true rfl⟩) ⟨fun a U g mk q => by obtain ⟨q0, q1, qP, qK, qD⟩ := q; exact ⟨q0, q1, qP, va_K.moved (u := U) (U := U.calling g mk a) (Vm.Alike.refl U.vm) qK, qD⟩, va_recv (q := (RX3, TX3, 8)) (q0 := 0) hK hP rfl rfl, fun U hU hW => ⟨rfl, by rw [hU], by rw [hU]; exact hPc, va_K.moved hW.alike hK, hDc.weaken (fun _ _ _ _ => trivial)⟩⟩ rfl rfl hl.1 rfl (lv_room (Nat.le_of_ble_eq_true rfl)) dX3_append_84 ⟨Nat.zero_le _, Nat.zero_le _⟩) hS (fun q _ h => hFc q h) hFc (fun u t8 H1 locs ht8 hvm8 er7 hB hz1 hk1 hS => ?_)
  obtain ⟨hP1, hK1, hD1⟩ := hB
  rw [ht8] at hP1
  obtain ⟨hP, hD⟩ := va_join (wr := []) (w1 := [(ad 0, .inr (1, [.ref (ad 1), .ref (ad 2), .ref (ad 3), .ref (ad 4), .ref (ad 5), .ref (ad 6), .ref (ad 7), .int (nI n)])), (ad 1, .inl (cI, 12, .inl (upd aK n (nI κ)))), (ad 2, .inl (cI, 12, .inl (upd aA n (nI α)))), (ad 3, .inl (cI, 12, .inl (upd aB n (nI β)))), (ad 4, .inl (cI, 12, .inl (upd aC n (nI γ)))), (ad 5, .inl (cI, 12, .inl (upd aP n ((((1 <<< ((nI n) &&& 31)) ||| (pp_pb aP (pv_s1 κ) α)) ||| (pp_pb aP (pv_s2 κ) β)) ||| (pp_pb aP (pv_s3 κ) γ))))), (ad 6, .inl (cI, 2, .inl (pc_nv (upd aP n (pp_new aP n κ α β γ)) aV n κ α 2))), (ad 7, .inl (cI, 12, .inl aN))]) hP hD [0, 1, 2, 3, 4, 5, 6, 7] [] rfl rfl (by decide) (by decide) hk1 hFc hP1 hD1
  clear hPc hDc hFc hP1 hK1 hD1 hk1 hz1
  generalize H1 = H at hP hS ⊢
  have hP : va_P (dC, dI) vwCl [(ad 0, .inr (1, [.ref (ad 1), .ref (ad 2), .ref (ad 3), .ref (ad 4), .ref (ad 5), .ref (ad 6), .ref (ad 7), .int (nI n)])), (ad 1, .inl (cI, 12, .inl (upd aK n (nI κ)))), (ad 2, .inl (cI, 12, .inl (upd aA n (nI α)))), (ad 3, .inl (cI, 12, .inl (upd aB n (nI β)))), (ad 4, .inl (cI, 12, .inl (upd aC n (nI γ)))), (ad 5, .inl (cI, 12, .inl (upd aP n ((((1 <<< ((nI n) &&& 31)) ||| (pp_pb aP (pv_s1 κ) α)) ||| (pp_pb aP (pv_s2 κ) β)) ||| (pp_pb aP (pv_s3 κ) γ))))), (ad 6, .inl (cI, 2, .inl (pc_nv (upd aP n (pp_new aP n κ α β γ)) aV n κ α 2))), (ad 7, .inl (cI, 12, .inl aN))] H := hP
  have hD : va_D A9 [(ad 0, .inr (1, [.ref (ad 1), .ref (ad 2), .ref (ad 3), .ref (ad 4), .ref (ad 5), .ref (ad 6), .ref (ad 7), .int (nI n)])), (ad 1, .inl (cI, 12, .inl (upd aK n (nI κ)))), (ad 2, .inl (cI, 12, .inl (upd aA n (nI α)))), (ad 3, .inl (cI, 12, .inl (upd aB n (nI β)))), (ad 4, .inl (cI, 12, .inl (upd aC n (nI γ)))), (ad 5, .inl (cI, 12, .inl (upd aP n ((((1 <<< ((nI n) &&& 31)) ||| (pp_pb aP (pv_s1 κ) α)) ||| (pp_pb aP (pv_s2 κ) β)) ||| (pp_pb aP (pv_s3 κ) γ))))), (ad 6, .inl (cI, 2, .inl (pc_nv (upd aP n (pp_new aP n κ α β γ)) aV n κ α 2))), (ad 7, .inl (cI, 12, .inl aN))] := hD
  refine lv_aload_n hx hb dX3_append_87 rfl (lv_at hl 1 rfl) ?_
  refine lv_dup hx hb dX3_append_88 rfl ?_
  refine va_get (D := (dC, dI)) (ci := 1) (v := .int (nI n)) (C := RX3) (T := TX3) (N := 8) hx hb hts (fun w h => List.mem_cons_of_mem _ (wf_X3 w h)) hown hK hP 0 rfl rfl 7 (by decide) (hts _ (List.mem_cons_of_mem _ wm_fl_X3_33)) (fun _ h9 => h9) rfl dX3_append_89 ?_
  refine lv_iconst (v := 1) hx hb dX3_append_92 (by decide) ?_
  refine lv_iadd hx hb dX3_append_93 ?_
  refine lv_topi (fun y9 e9 => ?_)
  rw [nI_1] at e9
  subst e9
  refine va_put (D := (dC, dI)) (ci := 1) (v := .int (nI (n + 1))) (ty := .int) (C := RX3) (T := TX3) (N := 8) hx hb hts (fun w h => List.mem_cons_of_mem _ (wf_X3 w h)) tyX3 tyX3_ok nmX3 hown hK hP hD hS 0 rfl rfl 7 (by decide) (hts _ (List.mem_cons_of_mem _ wm_fl_X3_33)) (fun _ h9 => h9) rfl (by decide +kernel) rfl rfl (Nat.le_of_ble_eq_true rfl) dX3_append_94 (fun H locs hP hD hS => ?_)
  have hP : va_P (dC, dI) vwCl [(ad 0, .inr (1, [.ref (ad 1), .ref (ad 2), .ref (ad 3), .ref (ad 4), .ref (ad 5), .ref (ad 6), .ref (ad 7), .int (nI (n + 1))])), (ad 1, .inl (cI, 12, .inl (upd aK n (nI κ)))), (ad 2, .inl (cI, 12, .inl (upd aA n (nI α)))), (ad 3, .inl (cI, 12, .inl (upd aB n (nI β)))), (ad 4, .inl (cI, 12, .inl (upd aC n (nI γ)))), (ad 5, .inl (cI, 12, .inl (upd aP n ((((1 <<< ((nI n) &&& 31)) ||| (pp_pb aP (pv_s1 κ) α)) ||| (pp_pb aP (pv_s2 κ) β)) ||| (pp_pb aP (pv_s3 κ) γ))))), (ad 6, .inl (cI, 2, .inl (pc_nv (upd aP n (pp_new aP n κ α β γ)) aV n κ α 2))), (ad 7, .inl (cI, 12, .inl aN))] H := hP
  have hD : va_D A9 [(ad 0, .inr (1, [.ref (ad 1), .ref (ad 2), .ref (ad 3), .ref (ad 4), .ref (ad 5), .ref (ad 6), .ref (ad 7), .int (nI (n + 1))])), (ad 1, .inl (cI, 12, .inl (upd aK n (nI κ)))), (ad 2, .inl (cI, 12, .inl (upd aA n (nI α)))), (ad 3, .inl (cI, 12, .inl (upd aB n (nI β)))), (ad 4, .inl (cI, 12, .inl (upd aC n (nI γ)))), (ad 5, .inl (cI, 12, .inl (upd aP n ((((1 <<< ((nI n) &&& 31)) ||| (pp_pb aP (pv_s1 κ) α)) ||| (pp_pb aP (pv_s2 κ) β)) ||| (pp_pb aP (pv_s3 κ) γ))))), (ad 6, .inl (cI, 2, .inl (pc_nv (upd aP n (pp_new aP n κ α β γ)) aV n κ α 2))), (ad 7, .inl (cI, 12, .inl aN))] := hD
  refine lv_iload hx hb dX3_append_97 (lv_at hl 0 rfl) ?_
  exact W.iret (v := nI n) hx hb hr (fun t9 ht9 hW9 => ⟨⟨nI n, (), rfl, rfl, by rw [ht9]; exact hP, va_K.moved hW9.alike hK, hD⟩, hS.F ht9⟩) hS.2.2 dX3_append_99
end TT3
end
section
theorem pc_ah_0 {k a b c : Nat → Nat} {x y as cl : Int32} {t : Nat} {w : Nat → Int32} : pc_ah k a b c x y as cl 0 t w = (true, w) := rfl
theorem pc_ah_s {k a b c : Nat → Nat} {x y as cl : Int32} {r t : Nat} {w : Nat → Int32} (h : bb_t as t = false) : pc_ah k a b c x y as cl (r + 1) t w = pc_ah k a b c x y as cl r (t + 1) w := by
  conv => lhs; unfold pc_ah
  rw [if_neg (by rw [h]; decide)]
theorem pc_ah_f {k a b c : Nat → Nat} {x y as cl : Int32} {r t : Nat} {w : Nat → Int32} (h : bb_t as t = true) (h2 : bb_t cl t = true) (h3 : pc_one k a b c x y w t = 0) : pc_ah k a b c x y as cl (r + 1) t w = (false, upd w t (pc_one k a b c x y w t)) := by
  conv => lhs; unfold pc_ah
  rw [if_pos h, if_pos ⟨h2, h3⟩]
theorem pc_ah_g {k a b c : Nat → Nat} {x y as cl : Int32} {r t : Nat} {w : Nat → Int32} (h : bb_t as t = true) (h2 : ¬ (bb_t cl t = true ∧ pc_one k a b c x y w t = 0)) : pc_ah k a b c x y as cl (r + 1) t w = pc_ah k a b c x y as cl r (t + 1) (upd w t (pc_one k a b c x y w t)) := by
  conv => lhs; unfold pc_ah
  rw [if_pos h, if_neg h2]
theorem bb_yes {m : Int32} {t : Nat} (ht : t < 32) (h : ¬ m &&& ((1 : Int32) <<< (nI t &&& 31)) = 0) : bb_t m t = true := by
  cases hq : bb_t m t with
  | true => rfl
  | false => exact absurd ((bb_ask m ht).mpr hq) h
section TT4
variable (l : Launch) (dC : Nat → ClassId) (dI : Nat → Nat → Nat) (cI : ClassId) (ad : Nat → Nat) (aK aA aB aC aP aV aN : Nat → Int32) (n : Nat)
set_option maxHeartbeats 4000000 in
set_option maxRecDepth 100000 in
theorem ctX3_allHold (hn : n ≤ 12) (fk fa fb fc : Nat → Nat) (hk : ∀ t, t < n → aK t = nI (fk t)) (ha : ∀ t, t < n → aA t = nI (fa t)) (hbb : ∀ t, t < n → aB t = nI (fb t)) (hc : ∀ t, t < n → aC t = nI (fc t)) (hT : pv_TI fk fa fb fc n) (sz : Nat) (as cl x y : Int32) : Met l yX3_allHold wsX3_allHold ({ frames := 4, cells := 0, slots := 0, locals := 95 }) (va_Pc [.ref (ad 0), .int as, .int cl, .int x, .int y] (fun U => U.heap.size = sz ∧ va_P (dC, dI) vwCl (wT cI ad aK aA aB aC aP aV aN n) U.heap ∧ va_K (dC, dI) vwCl [(cI, .int)] U ∧ va_D (fun _ => True) (wT cI ad aK aA aB aC aP aV aN n))) (va_Qi (fun r u => (r = 1 ∧ (pc_ah fk fa fb fc x y as cl n 0 aN) = (true, u)) ∨ (r = 0 ∧ (pc_ah fk fa fb fc x y as cl n 0 aN) = (false, u))) (fun (u : Nat → Int32) t9 => va_P (dC, dI) vwCl (wT cI ad aK aA aB aC aP aV u n) t9.heap ∧ va_K (dC, dI) vwCl [(cI, .int)] t9 ∧ va_D (va_A (wT cI ad aK aA aB aC aP aV aN n) sz) (wT cI ad aK aA aB aC aP aV u n)) (va_A (wT cI ad aK aA aB aC aP aV aN n) sz)) 0 0 (va_A (wT cI ad aK aA aB aC aP aV aN n) sz) := by
  refine Met.ofW (cc := cX3_allHold) (maxL := 7) (ret := (some .boolean)) (by decide) rfl ?_
  intro p e s m args below meth c s₁ B hml hv
  obtain ⟨rfl, hsz, hP, hK, hD0⟩ := hv
  subst hsz
  have hx := B.exec
  have hb := B.bytes
  have hr := B.returns
  have hts := atoms_spec (ws := wsX3_allHold) B.pre
  have hown : s.vm.findClass RX3 = some m.cls := findClass_of_methodNamed B.named
  have hlocks := B.notSynchronized
  have hl := lv_entry ([.ref (ad 0), .int as, .int cl, .int x, .int y]) (n := 7) (Nat.le_of_ble_eq_true rfl)
  rw [lg_entry_eq]
  generalize (lg_sl ([.ref (ad 0), .int as, .int cl, .int x, .int y]) ++ List.replicate (7 - (lg_sl ([.ref (ad 0), .int as, .int cl, .int x, .int y])).length) Slot.unset).toArray = ls at hl ⊢
  have hl : lv_has ls 7 [(0, .ref (ad 0)), (1, .int as), (2, .int cl), (3, .int x), (4, .int y)] := hl
  have hD := hD0.self (sz := s.heap.size)
  generalize hAe : va_A (wT cI ad aK aA aB aC aP aV aN n) s.heap.size = A9 at hD ⊢
  have hA : ∀ q : Nat, s.heap.size ≤ q → A9 q := fun q h => by rw [← hAe]; exact Or.inr h
  have hS : va_S A9 s.heap s.heap [] := va_S.rf
  refine lv_iconst (v := 0) hx hb dX3_allHold_0 (by decide) ?_
  refine lv_istore (lv' := [(5, .int 0), (0, .ref (ad 0)), (1, .int as), (2, .int cl), (3, .int x), (4, .int y)]) hx hb dX3_allHold_1 hl (by decide) rfl (fun ls hl => ?_)
  have hl : lv_has ls 7 [(5, .int (nI 0)), (4, .int y), (3, .int x), (2, .int cl), (1, .int as), (0, .ref (ad 0))] := lv_sub hl [0, 5, 4, 3, 2, 1] rfl
  refine xw_loop (pc := 3) (fun (z : Nat × (Nat → Int32)) => n - z.1) (fun (z : Nat × (Nat → Int32)) ls H9 locs9 => (z.1 ≤ n ∧ pc_ah fk fa fb fc x y as cl (n - z.1) z.1 z.2 = pc_ah fk fa fb fc x y as cl n 0 aN) ∧ va_P (dC, dI) vwCl [(ad 0, .inr (1, [.ref (ad 1), .ref (ad 2), .ref (ad 3), .ref (ad 4), .ref (ad 5), .ref (ad 6), .ref (ad 7), .int (nI n)])), (ad 1, .inl (cI, 12, .inl aK)), (ad 2, .inl (cI, 12, .inl aA)), (ad 3, .inl (cI, 12, .inl aB)), (ad 4, .inl (cI, 12, .inl aC)), (ad 5, .inl (cI, 12, .inl aP)), (ad 6, .inl (cI, 2, .inl aV)), (ad 7, .inl (cI, 12, .inl (z.2)))] H9 ∧ va_D A9 [(ad 0, .inr (1, [.ref (ad 1), .ref (ad 2), .ref (ad 3), .ref (ad 4), .ref (ad 5), .ref (ad 6), .ref (ad 7), .int (nI n)])), (ad 1, .inl (cI, 12, .inl aK)), (ad 2, .inl (cI, 12, .inl aA)), (ad 3, .inl (cI, 12, .inl aB)), (ad 4, .inl (cI, 12, .inl aC)), (ad 5, .inl (cI, 12, .inl aP)), (ad 6, .inl (cI, 2, .inl aV)), (ad 7, .inl (cI, 12, .inl (z.2)))] ∧ va_S A9 s.heap H9 locs9 ∧ lv_has ls 7 [(5, .int (nI z.1)), (4, .int y), (3, .int x), (2, .int cl), (1, .int as), (0, .ref (ad 0))]) ?_ (0, aN) ls _ _ ⟨⟨Nat.zero_le _, rfl⟩, hP, hD, hS, hl⟩
  clear hP hD hS hl
  rintro ⟨t, w⟩ ls H locs ⟨⟨htn, hah⟩, hP, hD, hS, hl⟩ ih
  have htn : t ≤ n := htn
  have hah : pc_ah fk fa fb fc x y as cl (n - t) t w = pc_ah fk fa fb fc x y as cl n 0 aN := hah
  have hl : lv_has ls 7 [(5, .int (nI t)), (4, .int y), (3, .int x), (2, .int cl), (1, .int as), (0, .ref (ad 0))] := hl
  have hP : va_P (dC, dI) vwCl [(ad 0, .inr (1, [.ref (ad 1), .ref (ad 2), .ref (ad 3), .ref (ad 4), .ref (ad 5), .ref (ad 6), .ref (ad 7), .int (nI n)])), (ad 1, .inl (cI, 12, .inl aK)), (ad 2, .inl (cI, 12, .inl aA)), (ad 3, .inl (cI, 12, .inl aB)), (ad 4, .inl (cI, 12, .inl aC)), (ad 5, .inl (cI, 12, .inl aP)), (ad 6, .inl (cI, 2, .inl aV)), (ad 7, .inl (cI, 12, .inl w))] H := hP
  have hD : va_D A9 [(ad 0, .inr (1, [.ref (ad 1), .ref (ad 2), .ref (ad 3), .ref (ad 4), .ref (ad 5), .ref (ad 6), .ref (ad 7), .int (nI n)])), (ad 1, .inl (cI, 12, .inl aK)), (ad 2, .inl (cI, 12, .inl aA)), (ad 3, .inl (cI, 12, .inl aB)), (ad 4, .inl (cI, 12, .inl aC)), (ad 5, .inl (cI, 12, .inl aP)), (ad 6, .inl (cI, 2, .inl aV)), (ad 7, .inl (cI, 12, .inl w))] := hD
  refine lv_iload hx hb dX3_allHold_3 (lv_at hl 0 rfl) ?_
  refine lv_aload_n hx hb dX3_allHold_5 rfl (lv_at hl 5 rfl) ?_
  refine va_get (D := (dC, dI)) (ci := 1) (v := .int (nI n)) (C := RX3) (T := TX3) (N := 8) hx hb hts (fun w h => List.mem_cons_of_mem _ (wf_X3 w h)) hown hK hP 0 rfl rfl 7 (by decide) (hts _ (List.mem_cons_of_mem _ wm_fl_X3_33)) (fun _ h9 => h9) rfl dX3_allHold_6 ?_
  refine lv_icmp_ge (tgt := 66) hx hb dX3_allHold_9 (by decide) (fun h1 => ?_) (fun h1 => ?_)
  · skip
    have h1 : n ≤ t := (nI_leI (a := n) (b := t) (by omega) (by omega)).mp h1
    refine lv_iconst (v := 1) hx hb dX3_allHold_66 (by decide) ?_
    have etn : t = n := by omega
    have ev : pc_ah fk fa fb fc x y as cl n 0 aN = (true, w) := by rw [← hah, etn, Nat.sub_self]; rfl
    exact W.zret (v := 1) hx hb hr (rfl) (fun t9 ht9 hW9 => ⟨⟨1, w, rfl, Or.inl ⟨rfl, ev⟩, by rw [ht9]; exact hP, va_K.moved hW9.alike hK, hD⟩, hS.F ht9⟩) hS.2.2 dX3_allHold_67
  · skip
    have h1 : ¬ n ≤ t := fun z => h1 ((nI_leI (a := n) (b := t) (by omega) (by omega)).mpr z)
    refine lv_iconst (v := 1) hx hb dX3_allHold_12 (by decide) ?_
    refine lv_iload hx hb dX3_allHold_13 (lv_at hl 0 rfl) ?_
    refine lv_ishl hx hb dX3_allHold_15 ?_
    refine lv_istore (lv' := [(6, .int (1 <<< ((nI t) &&& 31))), (5, .int (nI t)), (4, .int y), (3, .int x), (2, .int cl), (1, .int as), (0, .ref (ad 0))]) hx hb dX3_allHold_16 hl (by decide) rfl (fun ls hl => ?_)
    refine lv_iload_n hx hb dX3_allHold_18 rfl (lv_at hl 5 rfl) ?_
    refine lv_iload hx hb dX3_allHold_19 (lv_at hl 0 rfl) ?_
    refine lv_iand hx hb dX3_allHold_21 ?_
    refine lv_if_eq (tgt := 60) hx hb dX3_allHold_22 (by decide) (fun h2 => ?_) (fun h2 => ?_)
    · skip
      refine lv_iinc (k := 1) (v := nI (t + 1)) (lv' := [(5, .int (nI (t + 1))), (6, .int (1 <<< ((nI t) &&& 31))), (4, .int y), (3, .int x), (2, .int cl), (1, .int as), (0, .ref (ad 0))]) hx hb dX3_allHold_60 hl rfl (nI_1 t) (by decide) rfl (fun ls hl => ?_)
      refine lv_goto (tgt := 3) hx hb dX3_allHold_63 (by decide) ?_
      have ev : pc_ah fk fa fb fc x y as cl (n - t) t w = pc_ah fk fa fb fc x y as cl (n - (t + 1)) (t + 1) (w) := by
        rw [show n - t = n - (t + 1) + 1 by omega]
        exact pc_ah_s ((bb_ask as (by omega)).mp h2)
      exact ih (t + 1, w) ls H locs ⟨⟨by show t + 1 ≤ n; omega, ev.symm.trans hah⟩, hP, hD, hS, lv_sub hl [0, 2, 3, 4, 5, 6] rfl⟩ (by show n - (t + 1) < n - t; omega)
    · skip
      refine lv_aload_n hx hb dX3_allHold_25 rfl (lv_at hl 6 rfl) ?_
      refine va_get (D := (dC, dI)) (ci := 1) (v := .ref (ad 7)) (C := RX3) (T := TX3) (N := 8) hx hb hts (fun w h => List.mem_cons_of_mem _ (wf_X3 w h)) hown hK hP 0 rfl rfl 6 (by decide) (hts _ (List.mem_cons_of_mem _ wm_fl_X3_30)) (fun _ h9 => h9) rfl dX3_allHold_26 ?_
      refine lv_iload hx hb dX3_allHold_29 (lv_at hl 1 rfl) ?_
      refine lv_aload_n hx hb dX3_allHold_31 rfl (lv_at hl 6 rfl) ?_
      refine lv_iload hx hb dX3_allHold_32 (lv_at hl 1 rfl) ?_
      refine lv_iload_n hx hb dX3_allHold_34 rfl (lv_at hl 3 rfl) ?_
      refine lv_iload hx hb dX3_allHold_35 (lv_at hl 2 rfl) ?_
      refine vp_callSi (W.runV (C := RX3) (b := ad 0) (As := [.int (nI t), .int x, .int y]) (rest := [.int (nI t), .ref (ad 7)]) ⟨hx, hb, hml, hown, hts⟩ (ctX3_workOut l dC dI cI ad aK aA aB aC aP aV w n hn fk fa fb fc hk ha hbb hc hT t (by omega) x y) (cwV 3 hts (wA_wsV wm_ml_X3_85 wm_im_X3_workOut wm_se_X3_workOut wm_in_X3 wm_cd_X3_workOut) rfl rfl rfl (by decide +kernel) ⟨Nat.le_of_ble_eq_true rfl, Nat.le_of_ble_eq_true rfl⟩) ⟨fun a U g mk q => by obtain ⟨q0, qP, qK⟩ := q; exact ⟨q0, qP, va_K.moved (u := U) (U := U.calling g mk a) (Vm.Alike.refl U.vm) qK⟩, va_recv (q := (RX3, TX3, 8)) (q0 := 0) hK hP rfl rfl, fun U hU hW => ⟨rfl, by rw [hU]; exact hP, va_K.moved hW.alike hK⟩⟩ rfl rfl hl.1 rfl (lv_room (Nat.le_of_ble_eq_true rfl)) dX3_allHold_37 ⟨Nat.zero_le _, Nat.zero_le _⟩) (fun r3 er3 => ?_)
      subst er3
      refine xr_iast (t := t) (x := pc_one fk fa fb fc x y w t) hx hb hK hP hD hS 7 0 rfl rfl (by omega) (by omega) dX3_allHold_40 (fun H locs hP hD hS => ?_)
      have hP : va_P (dC, dI) vwCl [(ad 0, .inr (1, [.ref (ad 1), .ref (ad 2), .ref (ad 3), .ref (ad 4), .ref (ad 5), .ref (ad 6), .ref (ad 7), .int (nI n)])), (ad 1, .inl (cI, 12, .inl aK)), (ad 2, .inl (cI, 12, .inl aA)), (ad 3, .inl (cI, 12, .inl aB)), (ad 4, .inl (cI, 12, .inl aC)), (ad 5, .inl (cI, 12, .inl aP)), (ad 6, .inl (cI, 2, .inl aV)), (ad 7, .inl (cI, 12, .inl (upd w t (pc_one fk fa fb fc x y w t))))] H := hP
      have hD : va_D A9 [(ad 0, .inr (1, [.ref (ad 1), .ref (ad 2), .ref (ad 3), .ref (ad 4), .ref (ad 5), .ref (ad 6), .ref (ad 7), .int (nI n)])), (ad 1, .inl (cI, 12, .inl aK)), (ad 2, .inl (cI, 12, .inl aA)), (ad 3, .inl (cI, 12, .inl aB)), (ad 4, .inl (cI, 12, .inl aC)), (ad 5, .inl (cI, 12, .inl aP)), (ad 6, .inl (cI, 2, .inl aV)), (ad 7, .inl (cI, 12, .inl (upd w t (pc_one fk fa fb fc x y w t))))] := hD
      refine lv_iload_n hx hb dX3_allHold_41 rfl (lv_at hl 4 rfl) ?_
      refine lv_iload hx hb dX3_allHold_42 (lv_at hl 0 rfl) ?_
      refine lv_iand hx hb dX3_allHold_44 ?_
      refine lv_if_eq (tgt := 60) hx hb dX3_allHold_45 (by decide) (fun h4 => ?_) (fun h4 => ?_)
      · skip
        refine lv_iinc (k := 1) (v := nI (t + 1)) (lv' := [(5, .int (nI (t + 1))), (6, .int (1 <<< ((nI t) &&& 31))), (4, .int y), (3, .int x), (2, .int cl), (1, .int as), (0, .ref (ad 0))]) hx hb dX3_allHold_60 hl rfl (nI_1 t) (by decide) rfl (fun ls hl => ?_)
        refine lv_goto (tgt := 3) hx hb dX3_allHold_63 (by decide) ?_
        have ev : pc_ah fk fa fb fc x y as cl (n - t) t w = pc_ah fk fa fb fc x y as cl (n - (t + 1)) (t + 1) (upd w t (pc_one fk fa fb fc x y w t)) := by
          rw [show n - t = n - (t + 1) + 1 by omega]
          exact pc_ah_g (bb_yes (by omega) h2) (fun z => absurd ((bb_ask cl (by omega)).mp h4) (by rw [z.1]; decide))
        exact ih (t + 1, upd w t (pc_one fk fa fb fc x y w t)) ls H locs ⟨⟨by show t + 1 ≤ n; omega, ev.symm.trans hah⟩, hP, hD, hS, lv_sub hl [0, 2, 3, 4, 5, 6] rfl⟩ (by show n - (t + 1) < n - t; omega)
      · skip
        refine lv_aload_n hx hb dX3_allHold_48 rfl (lv_at hl 6 rfl) ?_
        refine va_get (D := (dC, dI)) (ci := 1) (v := .ref (ad 7)) (C := RX3) (T := TX3) (N := 8) hx hb hts (fun w h => List.mem_cons_of_mem _ (wf_X3 w h)) hown hK hP 0 rfl rfl 6 (by decide) (hts _ (List.mem_cons_of_mem _ wm_fl_X3_30)) (fun _ h9 => h9) rfl dX3_allHold_49 ?_
        refine lv_iload hx hb dX3_allHold_52 (lv_at hl 1 rfl) ?_
        refine xr_iald (t := t) (v := pc_one fk fa fb fc x y w t) hx hb hK hP 7 0 rfl rfl (by omega) (by omega) (pk_us) dX3_allHold_54 ?_
        refine lv_if_ne (tgt := 60) hx hb dX3_allHold_55 (by decide) (fun h5 => ?_) (fun h5 => ?_)
        · skip
          refine lv_iinc (k := 1) (v := nI (t + 1)) (lv' := [(5, .int (nI (t + 1))), (6, .int (1 <<< ((nI t) &&& 31))), (4, .int y), (3, .int x), (2, .int cl), (1, .int as), (0, .ref (ad 0))]) hx hb dX3_allHold_60 hl rfl (nI_1 t) (by decide) rfl (fun ls hl => ?_)
          refine lv_goto (tgt := 3) hx hb dX3_allHold_63 (by decide) ?_
          have ev : pc_ah fk fa fb fc x y as cl (n - t) t w = pc_ah fk fa fb fc x y as cl (n - (t + 1)) (t + 1) (upd w t (pc_one fk fa fb fc x y w t)) := by
            rw [show n - t = n - (t + 1) + 1 by omega]
            exact pc_ah_g (bb_yes (by omega) h2) (fun z => h5 z.2)
          exact ih (t + 1, upd w t (pc_one fk fa fb fc x y w t)) ls H locs ⟨⟨by show t + 1 ≤ n; omega, ev.symm.trans hah⟩, hP, hD, hS, lv_sub hl [0, 2, 3, 4, 5, 6] rfl⟩ (by show n - (t + 1) < n - t; omega)
        · skip
          refine lv_iconst (v := 0) hx hb dX3_allHold_58 (by decide) ?_
          have ev : pc_ah fk fa fb fc x y as cl n 0 aN = (false, upd w t (pc_one fk fa fb fc x y w t)) := by
            rw [← hah, show n - t = n - (t + 1) + 1 by omega]
            exact pc_ah_f (bb_yes (by omega) h2) (bb_yes (by omega) h4) h5
          exact W.zret (v := 0) hx hb hr (rfl) (fun t9 ht9 hW9 => ⟨⟨0, upd w t (pc_one fk fa fb fc x y w t), rfl, Or.inr ⟨rfl, ev⟩, by rw [ht9]; exact hP, va_K.moved hW9.alike hK, hD⟩, hS.F ht9⟩) hS.2.2 dX3_allHold_59
set_option maxHeartbeats 4000000 in
set_option maxRecDepth 100000 in
theorem ctX3_answer (hn : n ≤ 12) (fk fa fb fc : Nat → Nat) (hk : ∀ t, t < n → aK t = nI (fk t)) (ha : ∀ t, t < n → aA t = nI (fa t)) (hbb : ∀ t, t < n → aB t = nI (fb t)) (hc : ∀ t, t < n → aC t = nI (fc t)) (hT : pv_TI fk fa fb fc n) (sz t : Nat) (htt : t < n) (x y : Int32) : Met l yX3_answer wsX3_answer ({ frames := 5, cells := 0, slots := 0, locals := 121 }) (va_Pc [.ref (ad 0), .int (nI t), .int x, .int y] (fun U => U.heap.size = sz ∧ va_P (dC, dI) vwCl (wT cI ad aK aA aB aC aP aV aN n) U.heap ∧ va_K (dC, dI) vwCl [(cI, .int)] U ∧ va_D (fun _ => True) (wT cI ad aK aA aB aC aP aV aN n))) (va_Qi (fun r u => r = (pc_ah fk fa fb fc x y (aP t) 0 n 0 aN).2 t ∧ u = (pc_ah fk fa fb fc x y (aP t) 0 n 0 aN).2) (fun (u : Nat → Int32) t9 => va_P (dC, dI) vwCl (wT cI ad aK aA aB aC aP aV u n) t9.heap ∧ va_K (dC, dI) vwCl [(cI, .int)] t9 ∧ va_D (va_A (wT cI ad aK aA aB aC aP aV aN n) sz) (wT cI ad aK aA aB aC aP aV u n)) (va_A (wT cI ad aK aA aB aC aP aV aN n) sz)) 0 0 (va_A (wT cI ad aK aA aB aC aP aV aN n) sz) := by
  refine Met.ofW (cc := cX3_answer) (maxL := 4) (ret := (some .int)) (by decide) rfl ?_
  intro p e s m args below meth c s₁ B hml hv
  obtain ⟨rfl, hsz, hP, hK, hD0⟩ := hv
  subst hsz
  have hx := B.exec
  have hb := B.bytes
  have hr := B.returns
  have hts := atoms_spec (ws := wsX3_answer) B.pre
  have hown : s.vm.findClass RX3 = some m.cls := findClass_of_methodNamed B.named
  have hlocks := B.notSynchronized
  have hl := lv_entry ([.ref (ad 0), .int (nI t), .int x, .int y]) (n := 4) (Nat.le_of_ble_eq_true rfl)
  rw [lg_entry_eq]
  generalize (lg_sl ([.ref (ad 0), .int (nI t), .int x, .int y]) ++ List.replicate (4 - (lg_sl ([.ref (ad 0), .int (nI t), .int x, .int y])).length) Slot.unset).toArray = ls at hl ⊢
  have hl : lv_has ls 4 [(0, .ref (ad 0)), (1, .int (nI t)), (2, .int x), (3, .int y)] := hl
  have hD := hD0.self (sz := s.heap.size)
  generalize hAe : va_A (wT cI ad aK aA aB aC aP aV aN n) s.heap.size = A9 at hD ⊢
  have hA : ∀ q : Nat, s.heap.size ≤ q → A9 q := fun q h => by rw [← hAe]; exact Or.inr h
  have hS : va_S A9 s.heap s.heap [] := va_S.rf
  refine lv_aload_n hx hb dX3_answer_0 rfl (lv_at hl 0 rfl) ?_
  refine lv_aload_n hx hb dX3_answer_1 rfl (lv_at hl 0 rfl) ?_
  refine va_get (D := (dC, dI)) (ci := 1) (v := .ref (ad 5)) (C := RX3) (T := TX3) (N := 8) hx hb hts (fun w h => List.mem_cons_of_mem _ (wf_X3 w h)) hown hK hP 0 rfl rfl 4 (by decide) (hts _ (List.mem_cons_of_mem _ wm_fl_X3_24)) (fun _ h9 => h9) rfl dX3_answer_2 ?_
  refine lv_iload_n hx hb dX3_answer_5 rfl (lv_at hl 1 rfl) ?_
  refine xr_iald (t := t) (v := aP t) hx hb hK hP 5 0 rfl rfl (by omega) (by omega) (rfl) dX3_answer_6 ?_
  refine lv_iconst (v := 0) hx hb dX3_answer_7 (by decide) ?_
  refine lv_iload_n hx hb dX3_answer_8 rfl (lv_at hl 2 rfl) ?_
  refine lv_iload_n hx hb dX3_answer_9 rfl (lv_at hl 3 rfl) ?_
  have hPc := hP.sub (ws' := (wT cI ad aK aA aB aC aP aV aN n)) [0, 1, 2, 3, 4, 5, 6, 7] rfl
  have hDc := hD.sub (ws' := (wT cI ad aK aA aB aC aP aV aN n)) [0, 1, 2, 3, 4, 5, 6, 7] (by decide) rfl
  have hFc := va_free (wc := (wT cI ad aK aA aB aC aP aV aN n)) hD hS hA [0, 1, 2, 3, 4, 5, 6, 7] rfl
  refine va_calli (va_runV (C := RX3) (b := ad 0) (As := [.int (aP t), .int 0, .int x, .int y]) (rest := []) ⟨hx, hb, hml, hown, hts⟩ (ctX3_allHold l dC dI cI ad aK aA aB aC aP aV aN n hn fk fa fb fc hk ha hbb hc hT s.heap.size (aP t) 0 x y) (cwV 4 hts (wA_wsV wm_ml_X3_89 wm_im_X3_allHold wm_se_X3_allHold wm_in_X3 wm_cd_X3_allHold) rfl rfl rfl (by decide +kernel) ⟨Nat.le_of_ble_eq_true rfl, Nat.le_of_ble_eq_true rfl⟩) ⟨fun a U g mk q => by obtain ⟨q0, q1, qP, qK, qD⟩ := q; exact ⟨q0, q1, qP, va_K.moved (u := U) (U := U.calling g mk a) (Vm.Alike.refl U.vm) qK, qD⟩, va_recv (q := (RX3, TX3, 8)) (q0 := 0) hK hP rfl rfl, fun U hU hW => ⟨rfl, by rw [hU], by rw [hU]; exact hPc, va_K.moved hW.alike hK, hDc.weaken (fun _ _ _ _ => trivial)⟩⟩ rfl rfl hl.1 rfl (lv_room (Nat.le_of_ble_eq_true rfl)) dX3_answer_10 ⟨Nat.zero_le _, Nat.zero_le _⟩) hS (fun q _ h => hFc q h) hFc (fun r1 u t8 H1 locs ht8 hvm8 er1 hB hz1 hk1 hS => ?_)
  obtain ⟨hP1, hK1, hD1⟩ := hB
  rw [ht8] at hP1
  obtain ⟨hP, hD⟩ := va_join (wr := []) (w1 := [(ad 0, .inr (1, [.ref (ad 1), .ref (ad 2), .ref (ad 3), .ref (ad 4), .ref (ad 5), .ref (ad 6), .ref (ad 7), .int (nI n)])), (ad 1, .inl (cI, 12, .inl aK)), (ad 2, .inl (cI, 12, .inl aA)), (ad 3, .inl (cI, 12, .inl aB)), (ad 4, .inl (cI, 12, .inl aC)), (ad 5, .inl (cI, 12, .inl aP)), (ad 6, .inl (cI, 2, .inl aV)), (ad 7, .inl (cI, 12, .inl u))]) hP hD [0, 1, 2, 3, 4, 5, 6, 7] [] rfl rfl (by decide) (by decide) hk1 hFc hP1 hD1
  clear hPc hDc hFc hP1 hK1 hD1 hk1 hz1
  generalize H1 = H at hP hS ⊢
  have hP : va_P (dC, dI) vwCl [(ad 0, .inr (1, [.ref (ad 1), .ref (ad 2), .ref (ad 3), .ref (ad 4), .ref (ad 5), .ref (ad 6), .ref (ad 7), .int (nI n)])), (ad 1, .inl (cI, 12, .inl aK)), (ad 2, .inl (cI, 12, .inl aA)), (ad 3, .inl (cI, 12, .inl aB)), (ad 4, .inl (cI, 12, .inl aC)), (ad 5, .inl (cI, 12, .inl aP)), (ad 6, .inl (cI, 2, .inl aV)), (ad 7, .inl (cI, 12, .inl u))] H := hP
  have hD : va_D A9 [(ad 0, .inr (1, [.ref (ad 1), .ref (ad 2), .ref (ad 3), .ref (ad 4), .ref (ad 5), .ref (ad 6), .ref (ad 7), .int (nI n)])), (ad 1, .inl (cI, 12, .inl aK)), (ad 2, .inl (cI, 12, .inl aA)), (ad 3, .inl (cI, 12, .inl aB)), (ad 4, .inl (cI, 12, .inl aC)), (ad 5, .inl (cI, 12, .inl aP)), (ad 6, .inl (cI, 2, .inl aV)), (ad 7, .inl (cI, 12, .inl u))] := hD
  have eu : u = (pc_ah fk fa fb fc x y (aP t) 0 n 0 aN).2 := by rcases er1 with ⟨-, e⟩ | ⟨-, e⟩ <;> rw [e]
  refine lv_pop hx hb dX3_answer_13 rfl ?_
  refine lv_aload_n hx hb dX3_answer_14 rfl (lv_at hl 0 rfl) ?_
  refine va_get (D := (dC, dI)) (ci := 1) (v := .ref (ad 7)) (C := RX3) (T := TX3) (N := 8) hx hb hts (fun w h => List.mem_cons_of_mem _ (wf_X3 w h)) hown hK hP 0 rfl rfl 6 (by decide) (hts _ (List.mem_cons_of_mem _ wm_fl_X3_30)) (fun _ h9 => h9) rfl dX3_answer_15 ?_
  refine lv_iload_n hx hb dX3_answer_18 rfl (lv_at hl 1 rfl) ?_
  refine xr_iald (t := t) (v := u t) hx hb hK hP 7 0 rfl rfl (by omega) (by omega) (rfl) dX3_answer_19 ?_
  exact W.iret (v := u t) hx hb hr (fun t9 ht9 hW9 => ⟨⟨u t, u, rfl, ⟨by rw [eu], eu⟩, by rw [ht9]; exact hP, va_K.moved hW9.alike hK, hD⟩, hS.F ht9⟩) hS.2.2 dX3_answer_20
end TT4
end
