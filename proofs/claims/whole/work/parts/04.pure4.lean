/-! the reference's reckoning of all terms -/
def pv_ev (k a b c : Nat → Nat) (x y : Int32) (w : Nat → Int32) : Nat → Nat → Int32
  | 0 => w
  | t + 1 => upd (pv_ev k a b c x y w t) t (pv_one k a b c x y (pv_ev k a b c x y w t) t)
theorem pv_ev_keep {k a b c : Nat → Nat} {x y : Int32} {w : Nat → Int32} {u t : Nat} (hu : u < t) : ∀ r, pv_ev k a b c x y w (t + r) u = pv_ev k a b c x y w t u := by
  intro r
  induction r with
  | zero => rfl
  | succ r ih =>
    rw [← Nat.add_assoc]
    show upd _ (t + r) _ u = _
    rw [pk_un (by omega), ih]
theorem pv_ev_sol {k a b c : Nat → Nat} {n : Nat} {x y : Int32} {w : Nat → Int32} (hT : pv_TI k a b c n) : pv_sol k a b c n x y (pv_ev k a b c x y w n) := by
  intro t ht
  obtain ⟨r, rfl⟩ : ∃ r, n = t + 1 + r := ⟨n - (t + 1), by omega⟩
  rw [pv_ev_keep (by omega : t < t + 1) r]
  show upd _ t _ t = _
  rw [pk_us]
  refine pv_one_congr fun u hu => ?_
  have hlt := pv_ch_lt (hT t ht) hu
  rw [Nat.add_assoc, pv_ev_keep hlt (1 + r)]
def pm_all (cm : Nat → Nat) (w : Nat → Int32) : Nat → Bool
  | 0 => true
  | j + 1 => pm_all cm w j && decide (w (cm j) = 1)
theorem pm_all_iff {cm : Nat → Nat} {w : Nat → Int32} : ∀ m, pm_all cm w m = true ↔ ∀ j, j < m → w (cm j) = 1 := by
  intro m
  induction m with
  | zero => exact ⟨fun _ j hj => by omega, fun _ => rfl⟩
  | succ m ih =>
    show (pm_all cm w m && decide (w (cm m) = 1)) = true ↔ _
    rw [Bool.and_eq_true, ih, decide_eq_true_eq]
    constructor
    · intro ⟨h1, h2⟩ j hj
      by_cases e : j = m
      · subst e; exact h2
      · exact h1 j (by omega)
    · exact fun h => ⟨fun j hj => h j (by omega), h m (by omega)⟩
def pm_ck (k a b c : Nat → Nat) (n : Nat) (cm : Nat → Nat) (m : Nat) : Nat → Nat → (Nat → Int32) → Option Nat × (Nat → Int32)
  | 0, _, w => (none, w)
  | r + 1, i, w => if pm_all cm (pv_ev k a b c (nI (i / 32)) (nI (i % 32)) w n) m = true then (some i, pv_ev k a b c (nI (i / 32)) (nI (i % 32)) w n)
      else pm_ck k a b c n cm m r (i + 1) (pv_ev k a b c (nI (i / 32)) (nI (i % 32)) w n)
theorem pm_ck_spec {k a b c : Nat → Nat} {n m : Nat} {cm : Nat → Nat} {v : Nat → Nat → Nat → Int32} (hT : pv_TI k a b c n) (hv : ∀ x y, x < 32 → y < 32 → pv_sol k a b c n (nI x) (nI y) (v x y)) (hm : ∀ j, j < m → cm j < n) :
    ∀ (r i : Nat) (w : Nat → Int32), r + i = 1024 →
      match (pm_ck k a b c n cm m r i w).1 with
      | some i' => i ≤ i' ∧ i' < 1024 ∧ (∀ j, j < m → v (i' / 32) (i' % 32) (cm j) = 1) ∧ ∀ i'', i ≤ i'' → i'' < i' → ¬ ∀ j, j < m → v (i'' / 32) (i'' % 32) (cm j) = 1
      | none => ∀ i'', i ≤ i'' → i'' < 1024 → ¬ ∀ j, j < m → v (i'' / 32) (i'' % 32) (cm j) = 1 := by
  intro r
  induction r with
  | zero => intro i w hi; exact fun i'' h1 h2 => by omega
  | succ r ih =>
    intro i w hi
    have key : (∀ j, j < m → v (i / 32) (i % 32) (cm j) = 1) ↔ pm_all cm (pv_ev k a b c (nI (i / 32)) (nI (i % 32)) w n) m = true := by
      rw [pm_all_iff]
      have e := pv_uniq hT (hv (i / 32) (i % 32) (by omega) (by omega)) (pv_ev_sol (w := w) hT)
      exact ⟨fun h j hj => by rw [← e _ (hm j hj)]; exact h j hj, fun h j hj => by rw [e _ (hm j hj)]; exact h j hj⟩
    unfold pm_ck
    by_cases hq : pm_all cm (pv_ev k a b c (nI (i / 32)) (nI (i % 32)) w n) m = true
    · rw [if_pos hq]
      exact ⟨Nat.le_refl _, by omega, key.mpr hq, fun i'' h1 h2 => by omega⟩
    · rw [if_neg hq]
      have := ih (i + 1) (pv_ev k a b c (nI (i / 32)) (nI (i % 32)) w n) (by omega)
      revert this
      cases (pm_ck k a b c n cm m r (i + 1) (pv_ev k a b c (nI (i / 32)) (nI (i % 32)) w n)).1 with
      | some i' =>
        intro ⟨h1, h2, h3, h4⟩
        refine ⟨by omega, h2, h3, fun i'' q1 q2 => ?_⟩
        by_cases e : i'' = i
        · subst e; exact fun z => hq (key.mp z)
        · exact h4 i'' (by omega) q2
      | none =>
        intro h i'' q1 q2
        by_cases e : i'' = i
        · subst e; exact fun z => hq (key.mp z)
        · exact h i'' (by omega) q2
/-! the sets of the class's search -/
def pc_po (P : Nat → Int32) (set : Int32) : Nat → Int32
  | 0 => 0
  | t + 1 => if bb_t set t = true then pc_po P set t ||| P t else pc_po P set t
theorem pc_po_bit {P : Nat → Int32} {set : Int32} {u : Nat} : ∀ n, bb_t (pc_po P set n) u = true ↔ ∃ t, t < n ∧ bb_t set t = true ∧ bb_t (P t) u = true := by
  intro n
  induction n with
  | zero => exact ⟨fun h => (by rw [show pc_po P set 0 = 0 from rfl, bb_0] at h; cases h), fun ⟨t, h, _⟩ => by omega⟩
  | succ n ih =>
    unfold pc_po
    by_cases hq : bb_t set n = true
    · rw [if_pos hq, bb_or, Bool.or_eq_true, ih]
      constructor
      · rintro (⟨t, h1, h2⟩ | h)
        · exact ⟨t, by omega, h2⟩
        · exact ⟨n, by omega, hq, h⟩
      · rintro ⟨t, h1, h2, h3⟩
        by_cases e : t = n
        · subst e; exact Or.inr h3
        · exact Or.inl ⟨t, by omega, h2, h3⟩
    · rw [if_neg hq, ih]
      constructor
      · rintro ⟨t, h1, h2⟩; exact ⟨t, by omega, h2⟩
      · rintro ⟨t, h1, h2, h3⟩
        by_cases e : t = n
        · subst e; exact absurd h2 hq
        · exact ⟨t, by omega, h2, h3⟩
def pc_ct (cm : Nat → Nat) : Nat → Int32
  | 0 => 0
  | i + 1 => pc_ct cm i ||| ((1 : Int32) <<< (nI (cm i) &&& 31))
theorem pc_ct_bit {cm : Nat → Nat} {u : Nat} (hu : u < 32) : ∀ m, (∀ j, j < m → cm j < 32) → (bb_t (pc_ct cm m) u = true ↔ ∃ j, j < m ∧ cm j = u) := by
  intro m
  induction m with
  | zero => exact fun _ => ⟨fun h => (by rw [show pc_ct cm 0 = 0 from rfl, bb_0] at h; cases h), fun ⟨t, h, _⟩ => by omega⟩
  | succ m ih =>
    intro hm
    unfold pc_ct
    rw [bb_or, Bool.or_eq_true, ih (fun j hj => hm j (by omega)), bb_one _ (hm m (by omega)) _ hu, decide_eq_true_eq]
    constructor
    · rintro (⟨t, h1, h2⟩ | h)
      · exact ⟨t, by omega, h2⟩
      · exact ⟨m, by omega, h⟩
    · rintro ⟨t, h1, h2⟩
      by_cases e : t = m
      · subst e; exact Or.inr h2
      · exact Or.inl ⟨t, by omega, h2⟩
def pc_mv (P : Nat → Int32) (V1 cl : Int32) (n : Nat) : Int32 := pc_po P cl n &&& V1
def pc_fx (P : Nat → Int32) (V1 cl : Int32) (n : Nat) : Int32 := pc_po P cl n &&& (pc_mv P V1 cl n ^^^ (-1))
theorem pc_fx_bit {P : Nat → Int32} {V1 cl : Int32} {n u : Nat} (hu : u < 32) : bb_t (pc_fx P V1 cl n) u = true ↔ bb_t (pc_po P cl n) u = true ∧ bb_t V1 u = false := by
  unfold pc_fx pc_mv
  rw [bb_and, bb_xor, bb_m1 u hu, bb_and]
  cases bb_t (pc_po P cl n) u <;> cases bb_t V1 u <;> simp
theorem pc_mv_bit {P : Nat → Int32} {V1 cl : Int32} {n u : Nat} : bb_t (pc_mv P V1 cl n) u = true ↔ bb_t (pc_po P cl n) u = true ∧ bb_t V1 u = true := by
  unfold pc_mv
  rw [bb_and, Bool.and_eq_true]
theorem ps_good_of {k a b c : Nat → Nat} {P : Nat → Int32} {V1 cl : Int32} {n : Nat} {v : Nat → Nat → Nat → Int32} (hn : n ≤ 32) (hT : pv_TI k a b c n) (hP : pp_PI k a b c P n) (hV1 : pp_VI k a P V1 1 n)
    (hv : ∀ x y, x < 32 → y < 32 → pv_sol k a b c n (nI x) (nI y) (v x y)) : ps_good k a b c n (pc_fx P V1 cl n) (pc_mv P V1 cl n) cl v := by
  have close : ∀ t, t < n → bb_t (pc_po P cl n) t = true → ∀ u, pv_ch k a b c t u → bb_t (pc_po P cl n) u = true := by
    intro t ht h u hu
    obtain ⟨z, h1, h2, h3⟩ := (pc_po_bit n).mp h
    exact (pc_po_bit n).mpr ⟨z, h1, h2, pp_child hn hT hP h1 ht h3 hu⟩
  refine ⟨hT, fun x y hx hy => ⟨hv x y hx hy, pv_range hT (hv x y hx hy) ⟨x, hx, rfl⟩ ⟨y, hy, rfl⟩⟩, ?_, ?_, ?_, ?_, ?_⟩
  · intro t ht h u hu
    have hlt := pv_ch_lt (hT t ht) hu
    obtain ⟨h1, h2⟩ := (pc_fx_bit (by omega)).mp h
    refine (pc_fx_bit (by omega)).mpr ⟨close t ht h1 u hu, ?_⟩
    cases hq : bb_t V1 u with
    | false => rfl
    | true =>
      have := pp_up hn hT hP hV1 ht (u := u) (by omega) ((hP t ht u (by omega)).mpr (Or.inr ⟨u, hu, pp_self hn hP (by omega)⟩)) hq
      rw [h2] at this
      cases this
  · intro t ht h u hu
    have hlt := pv_ch_lt (hT t ht) hu
    have hp := close t ht (pc_mv_bit.mp h).1 u hu
    cases hq : bb_t V1 u with
    | false => exact Or.inr ((pc_fx_bit (by omega)).mpr ⟨hp, hq⟩)
    | true => exact Or.inl (pc_mv_bit.mpr ⟨hp, hq⟩)
  · intro t ht h
    have hp : bb_t (pc_po P cl n) t = true := (pc_po_bit n).mpr ⟨t, ht, h, pp_self hn hP ht⟩
    cases hq : bb_t V1 t with
    | false => exact Or.inl ((pc_fx_bit (by omega)).mpr ⟨hp, hq⟩)
    | true => exact Or.inr (pc_mv_bit.mpr ⟨hp, hq⟩)
  · intro t ht h
    have h2 := ((pc_fx_bit (by omega)).mp h).2
    cases hq : bb_t (pc_mv P V1 cl n) t with
    | false => rfl
    | true => rw [(pc_mv_bit.mp hq).2] at h2; cases h2
  · intro t ht h x y y' hx hy hy'
    exact pp_indep hn hT hP hV1 (Or.inr ⟨rfl, rfl⟩) (hv x y hx hy) (hv x y' hx hy') t ht ((pc_fx_bit (by omega)).mp h).2
/-- the class's search finds what the reference finds -/
theorem ps_same {k a b c : Nat → Nat} {P : Nat → Int32} {V0 V1 : Int32} {n m : Nat} {cm : Nat → Nat} (hn : n ≤ 32) (hT : pv_TI k a b c n) (hP : pp_PI k a b c P n) (hV0 : pp_VI k a P V0 0 n) (hV1 : pp_VI k a P V1 1 n)
    (hm : ∀ j, j < m → cm j < n ∧ 10 ≤ k (cm j)) {L : Nat} (hL : L = 32 ∨ (L = 1 ∧ pc_po P (pc_ct cm m) n &&& V0 = 0)) (w w' : Nat → Int32) :
    (pc_out k a b c n (pc_fx P V1 (pc_ct cm m) n) (pc_mv P V1 (pc_ct cm m) n) (pc_ct cm m) L 0 w).1 = (pm_ck k a b c n cm m 1024 0 w').1.map (fun i => (i / 32, i % 32)) := by
  let v : Nat → Nat → Nat → Int32 := fun x y => pv_ev k a b c (nI x) (nI y) (fun _ => 0) n
  have hv : ∀ x y, x < 32 → y < 32 → pv_sol k a b c n (nI x) (nI y) (v x y) := fun x y _ _ => pv_ev_sol hT
  have hr : ∀ x y, x < 32 → y < 32 → ∀ u, u < n → pv_rng k (v x y) u := fun x y hx hy => pv_range hT (hv x y hx hy) ⟨x, hx, rfl⟩ ⟨y, hy, rfl⟩
  have hcl : ∀ u, u < 32 → (bb_t (pc_ct cm m) u = true ↔ ∃ j, j < m ∧ cm j = u) := fun u hu => pc_ct_bit hu m (fun j hj => by have := (hm j hj).1; omega)
  have hold : ∀ x y, x < 32 → y < 32 → (ps_hold (pc_ct cm m) n (v x y) ↔ ∀ j, j < m → v x y (cm j) = 1) := by
    intro x y hx hy
    constructor
    · intro h j hj
      have h1 := h (cm j) (hm j hj).1 ((hcl _ (by have := (hm j hj).1; omega)).mpr ⟨j, hj, rfl⟩)
      rcases (hr x y hx hy (cm j) (hm j hj).1).2 (hm j hj).2 with q | q
      · exact absurd q h1
      · exact q
    · intro h u hu hc
      obtain ⟨j, hj, e⟩ := (hcl u (by omega)).mp hc
      subst e
      rw [h j hj]
      decide
  have hc := pc_out_spec (L := L) (ps_good_of (cl := pc_ct cm m) hn hT hP hV1 hv) (by rcases hL with q | q <;> omega) L 0 w rfl
  have hmd := pm_ck_spec (v := v) hT hv (fun j hj => (hm j hj).1) 1024 0 w' rfl
  have hx0 : L = 1 → ∀ x y, x < 32 → y < 32 → (ps_hold (pc_ct cm m) n (v x y) ↔ ps_hold (pc_ct cm m) n (v 0 y)) := by
    intro hL1 x y hx hy
    have hz : pc_po P (pc_ct cm m) n &&& V0 = 0 := by rcases hL with q | q; omega; exact q.2
    have e : ∀ u, u < n → bb_t (pc_ct cm m) u = true → v x y u = v 0 y u := by
      intro u hu hb
      refine pp_indep hn hT hP hV0 (Or.inl ⟨rfl, rfl⟩) (hv x y hx hy) (hv 0 y (by omega) hy) u hu ?_
      cases hq : bb_t V0 u with
      | false => rfl
      | true => exact absurd ⟨(pc_po_bit n).mpr ⟨u, hu, hb, pp_self hn hP hu⟩, hq⟩ ((bb_meet _ _).mp hz u (by omega))
    exact ⟨fun h u hu hb => by rw [← e u hu hb]; exact h u hu hb, fun h u hu hb => by rw [e u hu hb]; exact h u hu hb⟩
  revert hc hmd
  cases (pc_out k a b c n (pc_fx P V1 (pc_ct cm m) n) (pc_mv P V1 (pc_ct cm m) n) (pc_ct cm m) L 0 w).1 with
  | some z =>
    obtain ⟨x, y⟩ := z
    intro ⟨_, h1, h2, h3, h4⟩
    have hx : x < 32 := by rcases hL with q | q <;> omega
    cases (pm_ck k a b c n cm m 1024 0 w').1 with
    | none =>
      intro g
      have h5 := (hold x y hx h2).mp h3
      have e1 : (x * 32 + y) / 32 = x := by omega
      have e2 : (x * 32 + y) % 32 = y := by omega
      exact absurd (by rw [e1, e2]; exact h5) (g (x * 32 + y) (Nat.zero_le _) (by omega))
    | some i =>
      intro ⟨_, g1, g2, g3⟩
      have g4 := (hold (i / 32) (i % 32) (by omega) (by omega)).mpr g2
      have a1 : ¬ (i / 32 < x ∨ (i / 32 = x ∧ i % 32 < y)) := fun q => h4 (i / 32) (i % 32) (Nat.zero_le _) (by omega) q g4
      have a2 : ¬ x * 32 + y < i := fun q => g3 (x * 32 + y) (Nat.zero_le _) q (by
        have e1 : (x * 32 + y) / 32 = x := by omega
        have e2 : (x * 32 + y) % 32 = y := by omega
        rw [e1, e2]; exact (hold x y hx h2).mp h3)
      show some (x, y) = some (i / 32, i % 32)
      rw [show x = i / 32 by omega, show y = i % 32 by omega]
  | none =>
    intro h
    cases (pm_ck k a b c n cm m 1024 0 w').1 with
    | none => intro _; rfl
    | some i =>
      intro ⟨_, g1, g2, _⟩
      have g4 := (hold (i / 32) (i % 32) (by omega) (by omega)).mpr g2
      exfalso
      rcases hL with q | q
      · exact h (i / 32) (i % 32) (Nat.zero_le _) (by omega) (by omega) g4
      · exact h 0 (i % 32) (Nat.zero_le _) (by omega) (by omega) ((hx0 q.1 (i / 32) (i % 32) (by omega) (by omega)).mp g4)
/-- the class's answer for one term -/
theorem ps_value {k a b c : Nat → Nat} {P : Nat → Int32} {n t : Nat} {x y : Nat} (hn : n ≤ 32) (hT : pv_TI k a b c n) (hP : pp_PI k a b c P n) (ht : t < n) (hx : x < 32) (hy : y < 32) (w w' : Nat → Int32) :
    (pc_ah k a b c (nI x) (nI y) (P t) 0 n 0 w).2 t = pv_ev k a b c (nI x) (nI y) w' n t := by
  have hv : pv_sol k a b c n (nI x) (nI y) (pv_ev k a b c (nI x) (nI y) w' n) := pv_ev_sol hT
  obtain ⟨s1, s2, -⟩ := pc_ah_spec (as := P t) (cl := 0) (w0 := w) hT (pv_range hT hv ⟨x, hx, rfl⟩ ⟨y, hy, rfl⟩) hv (fun u hu hb z hz => Or.inl (pp_child hn hT hP ht hu hb hz)) n 0 w rfl (fun u hu => by omega) (fun u _ => rfl) (fun u hu => by omega)
  exact s2 (s1.mpr fun u _ _ hc => by rw [bb_0] at hc; cases hc) t ht (pp_self hn hP ht)
