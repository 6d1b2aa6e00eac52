/-! a term is added -/
theorem pp_ch_old {k a b c : Nat → Nat} {n κ α β γ t u : Nat} (ht : t ≠ n) : pv_ch (va_up k n κ) (va_up a n α) (va_up b n β) (va_up c n γ) t u ↔ pv_ch k a b c t u := by
  unfold pv_ch
  rw [va_up_ne k κ ht, va_up_ne a α ht, va_up_ne b β ht, va_up_ne c γ ht]
theorem pp_ch_new {k a b c : Nat → Nat} {n κ α β γ u : Nat} : pv_ch (va_up k n κ) (va_up a n α) (va_up b n β) (va_up c n γ) n u ↔ (3 ≤ pv_s1 κ ∧ u = α) ∨ (3 ≤ pv_s2 κ ∧ u = β) ∨ (3 ≤ pv_s3 κ ∧ u = γ) := by
  unfold pv_ch
  rw [va_up_self, va_up_self, va_up_self, va_up_self]
theorem pp_fit_up {k : Nat → Nat} {n κ t s p : Nat} (ht : t ≤ n) (h : pv_fit k t s p) : pv_fit (va_up k n κ) t s p := by
  obtain ⟨h0, h1, h2, h3, h4⟩ := h
  refine ⟨h0, h1, h2, fun e => ?_, fun e => ?_⟩
  · have := h3 e
    rw [va_up_ne k κ (by omega)]
    exact this
  · have := h4 e
    rw [va_up_ne k κ (by omega)]
    exact this
theorem pp_push_TI {k a b c : Nat → Nat} {n κ α β γ : Nat} (hT : pv_TI k a b c n) (hκ : κ < 20) (h1 : pv_fit k n (pv_s1 κ) α) (h2 : pv_fit k n (pv_s2 κ) β) (h3 : pv_fit k n (pv_s3 κ) γ) : pv_TI (va_up k n κ) (va_up a n α) (va_up b n β) (va_up c n γ) (n + 1) := by
  intro t ht
  unfold pv_ok
  by_cases e : t = n
  · subst e
    rw [va_up_self, va_up_self, va_up_self, va_up_self]
    exact ⟨hκ, pp_fit_up (Nat.le_refl _) h1, pp_fit_up (Nat.le_refl _) h2, pp_fit_up (Nat.le_refl _) h3⟩
  · rw [va_up_ne k κ e, va_up_ne a α e, va_up_ne b β e, va_up_ne c γ e]
    obtain ⟨q0, q1, q2, q3⟩ := hT t (by omega)
    exact ⟨q0, pp_fit_up (by omega) q1, pp_fit_up (by omega) q2, pp_fit_up (by omega) q3⟩
def pp_pb (P : Nat → Int32) (s p : Nat) : Int32 := if 3 ≤ s then P p else 0
def pp_new (P : Nat → Int32) (n κ α β γ : Nat) : Int32 := (((1 : Int32) <<< (nI n &&& 31)) ||| pp_pb P (pv_s1 κ) α ||| pp_pb P (pv_s2 κ) β) ||| pp_pb P (pv_s3 κ) γ
theorem pp_pb_bit {P : Nat → Int32} {s p u : Nat} : bb_t (pp_pb P s p) u = true ↔ 3 ≤ s ∧ bb_t (P p) u = true := by
  unfold pp_pb
  by_cases h : 3 ≤ s
  · rw [if_pos h]; exact ⟨fun z => ⟨h, z⟩, fun z => z.2⟩
  · rw [if_neg h, bb_0]; exact ⟨fun z => (by cases z), fun z => absurd z.1 h⟩
theorem pp_new_bit {P : Nat → Int32} {n κ α β γ u : Nat} (hn : n < 32) (hu : u < 32) : bb_t (pp_new P n κ α β γ) u = true ↔ u = n ∨ (3 ≤ pv_s1 κ ∧ bb_t (P α) u = true) ∨ (3 ≤ pv_s2 κ ∧ bb_t (P β) u = true) ∨ (3 ≤ pv_s3 κ ∧ bb_t (P γ) u = true) := by
  unfold pp_new
  rw [bb_or, bb_or, bb_or, Bool.or_eq_true, Bool.or_eq_true, Bool.or_eq_true, pp_pb_bit, pp_pb_bit, pp_pb_bit, bb_one n hn u hu, decide_eq_true_eq]
  constructor
  · rintro (((h | h) | h) | h)
    · exact Or.inl h.symm
    · exact Or.inr (Or.inl h)
    · exact Or.inr (Or.inr (Or.inl h))
    · exact Or.inr (Or.inr (Or.inr h))
  · rintro (h | h | h | h)
    · exact Or.inl (Or.inl (Or.inl h.symm))
    · exact Or.inl (Or.inl (Or.inr h))
    · exact Or.inl (Or.inr h)
    · exact Or.inr h
theorem pp_push_PI {k a b c : Nat → Nat} {P : Nat → Int32} {n κ α β γ : Nat} (hn : n < 32) (hT : pv_TI (va_up k n κ) (va_up a n α) (va_up b n β) (va_up c n γ) (n + 1)) (hP : pp_PI k a b c P n) : pp_PI (va_up k n κ) (va_up a n α) (va_up b n β) (va_up c n γ) (upd P n (pp_new P n κ α β γ)) (n + 1) := by
  intro t ht u hu
  have old : ∀ z, pv_ch (va_up k n κ) (va_up a n α) (va_up b n β) (va_up c n γ) t z → upd P n (pp_new P n κ α β γ) z = P z := by
    intro z hz
    have := pv_ch_lt (hT t ht) hz
    exact pk_un (by omega)
  by_cases e : t = n
  · subst e
    rw [pk_us, pp_new_bit hn hu]
    constructor
    · rintro (h | ⟨h1, h2⟩ | ⟨h1, h2⟩ | ⟨h1, h2⟩)
      · exact Or.inl h
      · have hc := (pp_ch_new (k := k) (a := a) (b := b) (c := c) (n := t) (κ := κ) (α := α) (β := β) (γ := γ)).mpr (Or.inl ⟨h1, rfl⟩)
        exact Or.inr ⟨α, hc, by rw [old α hc]; exact h2⟩
      · have hc := (pp_ch_new (k := k) (a := a) (b := b) (c := c) (n := t) (κ := κ) (α := α) (β := β) (γ := γ)).mpr (Or.inr (Or.inl ⟨h1, rfl⟩))
        exact Or.inr ⟨β, hc, by rw [old β hc]; exact h2⟩
      · have hc := (pp_ch_new (k := k) (a := a) (b := b) (c := c) (n := t) (κ := κ) (α := α) (β := β) (γ := γ)).mpr (Or.inr (Or.inr ⟨h1, rfl⟩))
        exact Or.inr ⟨γ, hc, by rw [old γ hc]; exact h2⟩
    · rintro (h | ⟨z, hz, hb⟩)
      · exact Or.inl h
      · rw [old z hz] at hb
        rcases pp_ch_new.mp hz with ⟨h1, rfl⟩ | ⟨h1, rfl⟩ | ⟨h1, rfl⟩
        · exact Or.inr (Or.inl ⟨h1, hb⟩)
        · exact Or.inr (Or.inr (Or.inl ⟨h1, hb⟩))
        · exact Or.inr (Or.inr (Or.inr ⟨h1, hb⟩))
  · rw [pk_un e, hP t (by omega) u hu]
    constructor
    · rintro (h | ⟨z, hz, hb⟩)
      · exact Or.inl h
      · have hc := (pp_ch_old (κ := κ) (α := α) (β := β) (γ := γ) e).mpr hz
        exact Or.inr ⟨z, hc, by rw [old z hc]; exact hb⟩
    · rintro (h | ⟨z, hz, hb⟩)
      · exact Or.inl h
      · rw [old z hz] at hb
        exact Or.inr ⟨z, (pp_ch_old e).mp hz, hb⟩
def pp_vr (P' : Nat → Int32) (V : Int32) (n κ α i : Nat) : Int32 := if (κ = 0 ∧ α = i) ∨ ¬ P' n &&& V = 0 then V ||| ((1 : Int32) <<< (nI n &&& 31)) else V
theorem pp_push_VI {k a b c : Nat → Nat} {P : Nat → Int32} {V : Int32} {i n κ α β γ : Nat} (hn : n < 32) (hT : pv_TI (va_up k n κ) (va_up a n α) (va_up b n β) (va_up c n γ) (n + 1)) (hP' : pp_PI (va_up k n κ) (va_up a n α) (va_up b n β) (va_up c n γ) (upd P n (pp_new P n κ α β γ)) (n + 1))
    (hV : pp_VI k a P V i n) : pp_VI (va_up k n κ) (va_up a n α) (upd P n (pp_new P n κ α β γ)) (pp_vr (upd P n (pp_new P n κ α β γ)) V n κ α i) i (n + 1) := by
  have hb : ∀ t, t < 32 → bb_t V t = true → t < n := fun t ht h => ((hV t ht).mp h).1
  have bit : ∀ t, t < 32 → (bb_t (pp_vr (upd P n (pp_new P n κ α β γ)) V n κ α i) t = true ↔ bb_t V t = true ∨ (t = n ∧ ((κ = 0 ∧ α = i) ∨ ¬ upd P n (pp_new P n κ α β γ) n &&& V = 0))) := by
    intro t ht
    unfold pp_vr
    by_cases q : (κ = 0 ∧ α = i) ∨ ¬ upd P n (pp_new P n κ α β γ) n &&& V = 0
    · rw [if_pos q, bb_or, Bool.or_eq_true, bb_one n hn t ht, decide_eq_true_eq]
      exact ⟨fun h => h.elim Or.inl fun z => Or.inr ⟨z.symm, q⟩, fun h => h.elim Or.inl fun z => Or.inr z.1.symm⟩
    · rw [if_neg q]
      exact ⟨Or.inl, fun h => h.elim id fun z => absurd z.2 q⟩
  have old : ∀ u, u < n → (bb_t (pp_vr (upd P n (pp_new P n κ α β γ)) V n κ α i) u = true ↔ bb_t V u = true) := by
    intro u hu
    rw [bit u (by omega)]
    exact ⟨fun h => h.elim id fun z => by omega, Or.inl⟩
  intro t ht
  rw [bit t ht]
  by_cases e : t = n
  · subst e
    rw [va_up_self, va_up_self]
    have hnV : ¬ bb_t V t = true := fun z => by have := hb t ht z; omega
    have meet : ¬ upd P t (pp_new P t κ α β γ) t &&& V = 0 ↔ ∃ u, u < t ∧ bb_t (upd P t (pp_new P t κ α β γ) t) u = true ∧ bb_t V u = true := by
      constructor
      · intro h
        refine Classical.byContradiction fun hno => h ((bb_meet _ _).mpr fun u hu hq => hno ⟨u, hb u hu hq.2, hq⟩)
      · rintro ⟨u, hu, hq⟩ h
        exact (bb_meet _ _).mp h u (by omega) hq
    constructor
    · rintro (h | ⟨-, h | h⟩)
      · exact absurd h hnV
      · exact ⟨by omega, Or.inl h⟩
      · obtain ⟨u, h1, h2, h3⟩ := meet.mp h
        exact ⟨by omega, Or.inr ⟨u, h1, h2, (old u h1).mpr h3⟩⟩
    · rintro ⟨-, h | ⟨u, h1, h2, h3⟩⟩
      · exact Or.inr ⟨rfl, Or.inl h⟩
      · exact Or.inr ⟨rfl, Or.inr (meet.mpr ⟨u, h1, h2, (old u h1).mp h3⟩)⟩
  · rw [va_up_ne k κ e, va_up_ne a α e, pk_un e]
    constructor
    · rintro (h | ⟨h, -⟩)
      · obtain ⟨h1, h2⟩ := (hV t ht).mp h
        refine ⟨by omega, h2.elim Or.inl fun ⟨u, q1, q2, q3⟩ => Or.inr ⟨u, q1, q2, (old u (by omega)).mpr q3⟩⟩
      · exact absurd h e
    · rintro ⟨h1, h2⟩
      refine Or.inl ((hV t ht).mpr ⟨by omega, h2.elim Or.inl fun ⟨u, q1, q2, q3⟩ => Or.inr ⟨u, q1, q2, (old u (by omega)).mp q3⟩⟩)
/-! which parts a kind takes, as the two sides ask it -/
def pq_fit (k : Nat → Nat) (n s : Nat) (p : Int32) : Prop := s = 0 ∨ (s = 1 ∧ ∃ j, j < 2 ∧ p = nI j) ∨ (s = 2 ∧ ∃ j, j < 32 ∧ p = nI j) ∨ (s = 3 ∧ ∃ j, j < n ∧ p = nI j ∧ k j < 10) ∨ (s = 4 ∧ ∃ j, j < n ∧ p = nI j ∧ 10 ≤ k j)
def pq_alw (k : Nat → Nat) (n : Nat) (kd a b c : Int32) : Prop := ∃ κ, κ < 20 ∧ kd = nI κ ∧ pq_fit k n (pv_s1 κ) a ∧ pq_fit k n (pv_s2 κ) b ∧ pq_fit k n (pv_s3 κ) c
theorem pq_to_fit {k : Nat → Nat} {n s : Nat} {p : Int32} (hn : n ≤ 12) (h : pq_fit k n s p) : ∃ j, j < 32 ∧ pv_fit k n s j ∧ (s ≠ 0 → p = nI j) := by
  rcases h with rfl | ⟨rfl, j, h1, h2⟩ | ⟨rfl, j, h1, h2⟩ | ⟨rfl, j, h1, h2, h3⟩ | ⟨rfl, j, h1, h2, h3⟩
  · exact ⟨0, by omega, ⟨fun _ => rfl, fun z => by omega, fun z => by omega, fun z => by omega, fun z => by omega⟩, fun z => absurd rfl z⟩
  · exact ⟨j, by omega, ⟨fun z => by omega, fun _ => h1, fun z => by omega, fun z => by omega, fun z => by omega⟩, fun _ => h2⟩
  · exact ⟨j, by omega, ⟨fun z => by omega, fun z => by omega, fun _ => h1, fun z => by omega, fun z => by omega⟩, fun _ => h2⟩
  · exact ⟨j, by omega, ⟨fun z => by omega, fun z => by omega, fun z => by omega, fun _ => ⟨h1, h3⟩, fun z => by omega⟩, fun _ => h2⟩
  · exact ⟨j, by omega, ⟨fun z => by omega, fun z => by omega, fun z => by omega, fun z => by omega, fun _ => ⟨h1, h3⟩⟩, fun _ => h2⟩
/-! the first term of a kind with its parts -/
def pq_fd (k a b c : Nat → Nat) (κ α β γ : Nat) : Nat → Nat → Option Nat
  | 0, _ => none
  | r + 1, t => if k t = κ ∧ a t = α ∧ b t = β ∧ c t = γ then some t else pq_fd k a b c κ α β γ r (t + 1)
theorem pq_fd_lt {k a b c : Nat → Nat} {κ α β γ n : Nat} : ∀ r t i, r + t = n → pq_fd k a b c κ α β γ r t = some i → i < n := by
  intro r
  induction r with
  | zero => intro t i _ h; cases h
  | succ r ih =>
    intro t i ht h
    unfold pq_fd at h
    by_cases q : k t = κ ∧ a t = α ∧ b t = β ∧ c t = γ
    · rw [if_pos q] at h
      cases h
      omega
    · rw [if_neg q] at h
      exact ih (t + 1) i (by omega) h
