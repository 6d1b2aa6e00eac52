/-! a pass of the class over the terms that are asked -/
def pc_ah (k a b c : Nat → Nat) (x y as cl : Int32) : Nat → Nat → (Nat → Int32) → Bool × (Nat → Int32)
  | 0, _, w => (true, w)
  | r + 1, t, w => if bb_t as t = true then
      (if bb_t cl t = true ∧ pc_one k a b c x y w t = 0 then (false, upd w t (pc_one k a b c x y w t)) else pc_ah k a b c x y as cl r (t + 1) (upd w t (pc_one k a b c x y w t)))
    else pc_ah k a b c x y as cl r (t + 1) w
theorem pc_ah_spec {k a b c : Nat → Nat} {n : Nat} {x y as cl : Int32} {v w0 : Nat → Int32} (hT : pv_TI k a b c n) (hr : ∀ u, u < n → pv_rng k v u) (hv : pv_sol k a b c n x y v)
    (hch : ∀ t, t < n → bb_t as t = true → ∀ u, pv_ch k a b c t u → bb_t as u = true ∨ w0 u = v u) :
    ∀ (r t : Nat) (w : Nat → Int32), r + t = n → (∀ u, u < t → bb_t as u = true → w u = v u) → (∀ u, bb_t as u = false → w u = w0 u) → (∀ u, u < t → bb_t as u = true → bb_t cl u = true → v u ≠ 0) →
      ((pc_ah k a b c x y as cl r t w).1 = true ↔ ∀ u, u < n → bb_t as u = true → bb_t cl u = true → v u ≠ 0) ∧
      ((pc_ah k a b c x y as cl r t w).1 = true → ∀ u, u < n → bb_t as u = true → (pc_ah k a b c x y as cl r t w).2 u = v u) ∧
      (∀ u, bb_t as u = false → (pc_ah k a b c x y as cl r t w).2 u = w0 u) := by
  intro r
  induction r with
  | zero =>
    intro t w ht h1 h2 h3
    have ht : t = n := by omega
    subst ht
    exact ⟨⟨fun _ => h3, fun _ => rfl⟩, fun _ => h1, h2⟩
  | succ r ih =>
    intro t w ht h1 h2 h3
    have htn : t < n := by omega
    unfold pc_ah
    by_cases ha : bb_t as t = true
    · have e : pc_one k a b c x y w t = v t := by
        rw [hv t htn]
        refine pc_one_eq hT htn hr fun u hu => ?_
        have hlt := pv_ch_lt (hT t htn) hu
        by_cases hau : bb_t as u = true
        · exact h1 u hlt hau
        · rcases hch t htn ha u hu with q | q
          · exact absurd q hau
          · rw [h2 u (Bool.not_eq_true _ ▸ hau), q]
      rw [if_pos ha, e]
      have hu2 : ∀ u, bb_t as u = false → upd w t (v t) u = w0 u := by
        intro u hu
        have hne : u ≠ t := fun z => by subst z; rw [ha] at hu; cases hu
        rw [pk_un hne]
        exact h2 u hu
      by_cases hc : bb_t cl t = true ∧ v t = 0
      · rw [if_pos hc]
        refine ⟨⟨fun z => (by cases z), fun z => absurd hc.2 (z t htn ha hc.1)⟩, fun z => (by cases z), hu2⟩
      · rw [if_neg hc]
        refine ih (t + 1) _ (by omega) (fun u hu hau => ?_) hu2 (fun u hu hau hcu => ?_)
        · by_cases hut : u = t
          · subst hut; exact pk_us
          · rw [pk_un hut]; exact h1 u (by omega) hau
        · by_cases hut : u = t
          · subst hut; exact fun z => hc ⟨hcu, z⟩
          · exact h3 u (by omega) hau hcu
    · rw [if_neg ha]
      refine ih (t + 1) w (by omega) (fun u hu hau => ?_) h2 (fun u hu hau hcu => ?_)
      · by_cases hut : u = t
        · subst hut; exact absurd hau ha
        · exact h1 u (by omega) hau
      · by_cases hut : u = t
        · subst hut; exact absurd hau ha
        · exact h3 u (by omega) hau hcu
/-! the parts of a term, as a set -/
def pp_PI (k a b c : Nat → Nat) (P : Nat → Int32) (n : Nat) : Prop := ∀ t, t < n → ∀ u, u < 32 → (bb_t (P t) u = true ↔ u = t ∨ ∃ z, pv_ch k a b c t z ∧ bb_t (P z) u = true)
theorem pp_le {k a b c : Nat → Nat} {P : Nat → Int32} {n : Nat} (hT : pv_TI k a b c n) (hP : pp_PI k a b c P n) : ∀ t, t < n → ∀ u, u < 32 → bb_t (P t) u = true → u ≤ t := by
  intro t
  induction t using Nat.strongRecOn with
  | _ t ih =>
    intro ht u hu h
    rcases (hP t ht u hu).mp h with e | ⟨z, hz, hb⟩
    · omega
    · have hlt := pv_ch_lt (hT t ht) hz
      have := ih z hlt (by omega) u hu hb
      omega
theorem pp_self {k a b c : Nat → Nat} {P : Nat → Int32} {n : Nat} (hn : n ≤ 32) (hP : pp_PI k a b c P n) {t : Nat} (ht : t < n) : bb_t (P t) t = true := (hP t ht t (by omega)).mpr (Or.inl rfl)
theorem pp_trans {k a b c : Nat → Nat} {P : Nat → Int32} {n : Nat} (hT : pv_TI k a b c n) (hP : pp_PI k a b c P n) : ∀ t, t < n → ∀ u z, u < 32 → z < 32 → bb_t (P t) u = true → bb_t (P u) z = true → bb_t (P t) z = true := by
  intro t
  induction t using Nat.strongRecOn with
  | _ t ih =>
    intro ht u z hu hz h1 h2
    rcases (hP t ht u hu).mp h1 with e | ⟨y, hy, hb⟩
    · subst e; exact h2
    · have hlt := pv_ch_lt (hT t ht) hy
      exact (hP t ht z hz).mpr (Or.inr ⟨y, hy, ih y hlt (by omega) u z hu hz hb h2⟩)
theorem pp_child {k a b c : Nat → Nat} {P : Nat → Int32} {n : Nat} (hn : n ≤ 32) (hT : pv_TI k a b c n) (hP : pp_PI k a b c P n) {t u z : Nat} (ht : t < n) (hu : u < n) (h : bb_t (P t) u = true) (hz : pv_ch k a b c u z) : bb_t (P t) z = true := by
  have hlt := pv_ch_lt (hT u hu) hz
  exact pp_trans hT hP t ht u z (by omega) (by omega) h ((hP u hu z (by omega)).mpr (Or.inr ⟨z, hz, pp_self hn hP (by omega)⟩))
/-! which terms vary with a variable -/
def pp_VI (k a : Nat → Nat) (P : Nat → Int32) (V : Int32) (i n : Nat) : Prop := ∀ t, t < 32 → (bb_t V t = true ↔ t < n ∧ ((k t = 0 ∧ a t = i) ∨ ∃ u, u < t ∧ bb_t (P t) u = true ∧ bb_t V u = true))
theorem pp_up {k a b c : Nat → Nat} {P : Nat → Int32} {V : Int32} {i n : Nat} (hn : n ≤ 32) (hT : pv_TI k a b c n) (hP : pp_PI k a b c P n) (hV : pp_VI k a P V i n) {t u : Nat} (ht : t < n) (hu : u < 32) (h : bb_t (P t) u = true) (hb : bb_t V u = true) : bb_t V t = true := by
  have := pp_le hT hP t ht u hu h
  by_cases e : u = t
  · subst e; exact hb
  · exact (hV t (by omega)).mpr ⟨ht, Or.inr ⟨u, by omega, h, hb⟩⟩
theorem pp_indep {k a b c : Nat → Nat} {P : Nat → Int32} {V : Int32} {i n : Nat} (hn : n ≤ 32) (hT : pv_TI k a b c n) (hP : pp_PI k a b c P n) (hV : pp_VI k a P V i n) {x y x' y' : Int32} (hi : (i = 0 ∧ y = y') ∨ (i = 1 ∧ x = x'))
    {v v' : Nat → Int32} (hv : pv_sol k a b c n x y v) (hv' : pv_sol k a b c n x' y' v') : ∀ t, t < n → bb_t V t = false → v t = v' t := by
  intro t
  induction t using Nat.strongRecOn with
  | _ t ih =>
    intro ht hb
    have hc : ∀ u, pv_ch k a b c t u → v u = v' u := by
      intro u hu
      have hlt := pv_ch_lt (hT t ht) hu
      refine ih u hlt (by omega) ?_
      cases hq : bb_t V u with
      | false => rfl
      | true =>
        have := pp_up hn hT hP hV ht (u := u) (by omega) ((hP t ht u (by omega)).mpr (Or.inr ⟨u, hu, pp_self hn hP (by omega)⟩)) hq
        rw [hb] at this
        cases this
    rw [hv t ht, hv' t ht, pv_one_congr hc]
    unfold pv_one
    by_cases k0 : k t = 0
    · have ha : a t < 2 := (hT t ht).2.1.2.1 (by simp [pv_s1, k0])
      have hne : a t ≠ i := fun z => by
        have := (hV t (by omega)).mpr ⟨ht, Or.inl ⟨k0, z⟩⟩
        rw [hb] at this
        cases this
      rw [if_pos k0, if_pos k0]
      rcases hi with ⟨q, e⟩ | ⟨q, e⟩
      · rw [if_neg (by omega), if_neg (by omega), e]
      · rw [if_pos (by omega), if_pos (by omega), e]
    · rw [if_neg k0, if_neg k0]
/-! the class's search -/
def pc_in (k a b c : Nat → Nat) (n : Nat) (x mv cl : Int32) : Nat → Nat → (Nat → Int32) → Option Nat × (Nat → Int32)
  | 0, _, w => (none, w)
  | r + 1, y, w => if (pc_ah k a b c x (nI y) mv cl n 0 w).1 = true then (some y, (pc_ah k a b c x (nI y) mv cl n 0 w).2) else pc_in k a b c n x mv cl r (y + 1) (pc_ah k a b c x (nI y) mv cl n 0 w).2
def pc_out (k a b c : Nat → Nat) (n : Nat) (fx mv cl : Int32) : Nat → Nat → (Nat → Int32) → Option (Nat × Nat) × (Nat → Int32)
  | 0, _, w => (none, w)
  | r + 1, x, w => if (pc_ah k a b c (nI x) 0 fx cl n 0 w).1 = true then
      (match (pc_in k a b c n (nI x) mv cl 32 0 (pc_ah k a b c (nI x) 0 fx cl n 0 w).2).1 with
       | some y => (some (x, y), (pc_in k a b c n (nI x) mv cl 32 0 (pc_ah k a b c (nI x) 0 fx cl n 0 w).2).2)
       | none => pc_out k a b c n fx mv cl r (x + 1) (pc_in k a b c n (nI x) mv cl 32 0 (pc_ah k a b c (nI x) 0 fx cl n 0 w).2).2)
    else pc_out k a b c n fx mv cl r (x + 1) (pc_ah k a b c (nI x) 0 fx cl n 0 w).2
def ps_hold (cl : Int32) (n : Nat) (w : Nat → Int32) : Prop := ∀ u, u < n → bb_t cl u = true → w u ≠ 0
/-- what a table, its sets and the values of its terms are to be, for the search -/
def ps_good (k a b c : Nat → Nat) (n : Nat) (fx mv cl : Int32) (v : Nat → Nat → Nat → Int32) : Prop :=
  pv_TI k a b c n ∧ (∀ x y, x < 32 → y < 32 → pv_sol k a b c n (nI x) (nI y) (v x y) ∧ ∀ u, u < n → pv_rng k (v x y) u) ∧
  (∀ t, t < n → bb_t fx t = true → ∀ u, pv_ch k a b c t u → bb_t fx u = true) ∧
  (∀ t, t < n → bb_t mv t = true → ∀ u, pv_ch k a b c t u → bb_t mv u = true ∨ bb_t fx u = true) ∧
  (∀ t, t < n → bb_t cl t = true → bb_t fx t = true ∨ bb_t mv t = true) ∧ (∀ t, t < n → bb_t fx t = true → bb_t mv t = false) ∧
  (∀ t, t < n → bb_t fx t = true → ∀ x y y', x < 32 → y < 32 → y' < 32 → v x y t = v x y' t)
theorem pc_in_spec {k a b c : Nat → Nat} {n : Nat} {fx mv cl : Int32} {v : Nat → Nat → Nat → Int32} (hg : ps_good k a b c n fx mv cl v) {x : Nat} (hx : x < 32) (hf : ∀ u, u < n → bb_t fx u = true → bb_t cl u = true → v x 0 u ≠ 0) :
    ∀ (r y : Nat) (w : Nat → Int32), r + y = 32 → (∀ u, u < n → bb_t fx u = true → w u = v x 0 u) →
      match (pc_in k a b c n (nI x) mv cl r y w).1 with
      | some y' => y ≤ y' ∧ y' < 32 ∧ ps_hold cl n (v x y') ∧ ∀ y'', y ≤ y'' → y'' < y' → ¬ ps_hold cl n (v x y'')
      | none => ∀ y'', y ≤ y'' → y'' < 32 → ¬ ps_hold cl n (v x y'') := by
  obtain ⟨hT, hv, g1, g2, g3, g4, g5⟩ := hg
  intro r
  induction r with
  | zero => intro y w hy _; exact fun y'' h1 h2 => by omega
  | succ r ih =>
    intro y w hy hw
    have hy32 : y < 32 := by omega
    obtain ⟨s1, s2, s3⟩ := pc_ah_spec (as := mv) (cl := cl) (w0 := w) hT (hv x y hx hy32).2 (hv x y hx hy32).1 (fun t ht hm u hu => by
      rcases g2 t ht hm u hu with q | q
      · exact Or.inl q
      · have hlt := pv_ch_lt (hT t ht) hu
        exact Or.inr ((hw u (by omega) q).trans (g5 u (by omega) q x 0 y hx (by omega) hy32))) n 0 w rfl (fun u hu => by omega) (fun u _ => rfl) (fun u hu => by omega)
    have key : ps_hold cl n (v x y) ↔ (pc_ah k a b c (nI x) (nI y) mv cl n 0 w).1 = true := by
      rw [s1]
      constructor
      · exact fun h u hu _ hc => h u hu hc
      · intro h u hu hc
        rcases g3 u hu hc with q | q
        · rw [← g5 u hu q x 0 y hx (by omega) hy32]; exact hf u hu q hc
        · exact h u hu q hc
    unfold pc_in
    by_cases hq : (pc_ah k a b c (nI x) (nI y) mv cl n 0 w).1 = true
    · rw [if_pos hq]
      exact ⟨Nat.le_refl _, hy32, key.mpr hq, fun y'' h1 h2 => by omega⟩
    · rw [if_neg hq]
      have := ih (y + 1) (pc_ah k a b c (nI x) (nI y) mv cl n 0 w).2 (by omega) (fun u hu hfu => by rw [s3 u (g4 u hu hfu)]; exact hw u hu hfu)
      revert this
      cases (pc_in k a b c n (nI x) mv cl r (y + 1) (pc_ah k a b c (nI x) (nI y) mv cl n 0 w).2).1 with
      | some y' =>
        intro ⟨h1, h2, h3, h4⟩
        refine ⟨by omega, h2, h3, fun y'' q1 q2 => ?_⟩
        by_cases e : y'' = y
        · subst e; exact fun z => hq (key.mp z)
        · exact h4 y'' (by omega) q2
      | none =>
        intro h y'' q1 q2
        by_cases e : y'' = y
        · subst e; exact fun z => hq (key.mp z)
        · exact h y'' (by omega) q2
theorem pc_out_spec {k a b c : Nat → Nat} {n L : Nat} {fx mv cl : Int32} {v : Nat → Nat → Nat → Int32} (hg : ps_good k a b c n fx mv cl v) (hL : L ≤ 32) :
    ∀ (r x : Nat) (w : Nat → Int32), r + x = L →
      match (pc_out k a b c n fx mv cl r x w).1 with
      | some (x', y') => x ≤ x' ∧ x' < L ∧ y' < 32 ∧ ps_hold cl n (v x' y') ∧ ∀ x'' y'', x ≤ x'' → y'' < 32 → (x'' < x' ∨ (x'' = x' ∧ y'' < y')) → ¬ ps_hold cl n (v x'' y'')
      | none => ∀ x'' y'', x ≤ x'' → x'' < L → y'' < 32 → ¬ ps_hold cl n (v x'' y'') := by
  have hg' := hg
  obtain ⟨hT, hv, g1, g2, g3, g4, g5⟩ := hg
  intro r
  induction r with
  | zero => intro x w hx; exact fun x'' y'' h1 h2 => by omega
  | succ r ih =>
    intro x w hx
    have hx32 : x < 32 := by omega
    obtain ⟨s1, s2, s3⟩ := pc_ah_spec (as := fx) (cl := cl) (w0 := w) hT (hv x 0 hx32 (by omega)).2 (hv x 0 hx32 (by omega)).1 (fun t ht hm u hu => Or.inl (g1 t ht hm u hu)) n 0 w rfl (fun u hu => by omega) (fun u _ => rfl) (fun u hu => by omega)
    rw [nI_0] at s1 s2 s3
    unfold pc_out
    by_cases hq : (pc_ah k a b c (nI x) 0 fx cl n 0 w).1 = true
    · rw [if_pos hq]
      have hin := pc_in_spec hg' hx32 (s1.mp hq) 32 0 (pc_ah k a b c (nI x) 0 fx cl n 0 w).2 rfl (s2 hq)
      revert hin
      cases hc : (pc_in k a b c n (nI x) mv cl 32 0 (pc_ah k a b c (nI x) 0 fx cl n 0 w).2).1 with
      | some y =>
        intro ⟨_, h2, h3, h4⟩
        refine ⟨Nat.le_refl _, by omega, h2, h3, fun x'' y'' q1 q2 q3 => ?_⟩
        rcases q3 with q | ⟨rfl, q⟩
        · omega
        · exact h4 y'' (Nat.zero_le _) q
      | none =>
        intro hn
        have := ih (x + 1) (pc_in k a b c n (nI x) mv cl 32 0 (pc_ah k a b c (nI x) 0 fx cl n 0 w).2).2 (by omega)
        revert this
        show _ → match (pc_out k a b c n fx mv cl r (x + 1) _).1 with | some (x', y') => _ | none => _
        cases (pc_out k a b c n fx mv cl r (x + 1) (pc_in k a b c n (nI x) mv cl 32 0 (pc_ah k a b c (nI x) 0 fx cl n 0 w).2).2).1 with
        | some z =>
          obtain ⟨x', y'⟩ := z
          intro ⟨h1, h2, h3, h4, h5⟩
          refine ⟨by omega, h2, h3, h4, fun x'' y'' q1 q2 q3 => ?_⟩
          by_cases e : x'' = x
          · subst e; exact hn y'' (Nat.zero_le _) q2
          · exact h5 x'' y'' (by omega) q2 q3
        | none =>
          intro h x'' y'' q1 q2 q3
          by_cases e : x'' = x
          · subst e; exact hn y'' (Nat.zero_le _) q3
          · exact h x'' y'' (by omega) q2 q3
    · rw [if_neg hq]
      have hno : ∀ y'', y'' < 32 → ¬ ps_hold cl n (v x y'') := by
        intro y'' hy hh
        refine hq (s1.mpr fun u hu hf hc => ?_)
        rw [g5 u hu hf x 0 y'' hx32 (by omega) hy]
        exact hh u hu hc
      have := ih (x + 1) (pc_ah k a b c (nI x) 0 fx cl n 0 w).2 (by omega)
      revert this
      cases (pc_out k a b c n fx mv cl r (x + 1) (pc_ah k a b c (nI x) 0 fx cl n 0 w).2).1 with
      | some z =>
        obtain ⟨x', y'⟩ := z
        intro ⟨h1, h2, h3, h4, h5⟩
        refine ⟨by omega, h2, h3, h4, fun x'' y'' q1 q2 q3 => ?_⟩
        by_cases e : x'' = x
        · subst e; exact hno y'' q2
        · exact h5 x'' y'' (by omega) q2 q3
      | none =>
        intro h x'' y'' q1 q2 q3
        by_cases e : x'' = x
        · subst e; exact hno y'' q3
        · exact h x'' y'' (by omega) q2 q3
