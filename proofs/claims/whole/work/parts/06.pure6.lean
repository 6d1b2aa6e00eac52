/-! the arguments of term, as numbers -/
def pq_k (kd : Int32) : Nat := kd.toNatClampNeg
def pq_b (κ : Nat) (b : Int32) : Nat := if pv_s2 κ = 0 then 0 else b.toNatClampNeg
def pq_c (κ : Nat) (c : Int32) : Nat := if pv_s3 κ = 0 then 0 else c.toNatClampNeg
theorem pq_fit1 {k : Nat → Nat} {n s : Nat} {p : Int32} (hn : n ≤ 12) (h : pq_fit k n s p) (hs : s ≠ 0) : p = nI p.toNatClampNeg ∧ p.toNatClampNeg < 32 ∧ pv_fit k n s p.toNatClampNeg := by
  obtain ⟨j, h1, h2, h3⟩ := pq_to_fit hn h
  have e : p.toNatClampNeg = j := by rw [h3 hs, nI_clamp (by omega)]
  rw [e]
  exact ⟨h3 hs, h1, h2⟩
theorem pq_fit0 (k : Nat → Nat) (n : Nat) : pv_fit k n 0 0 := ⟨fun _ => rfl, fun z => by omega, fun z => by omega, fun z => by omega, fun z => by omega⟩
theorem pq_facts {k : Nat → Nat} {n : Nat} {kd a b c : Int32} (hn : n ≤ 12) (h : pq_alw k n kd a b c) :
    pq_k kd < 20 ∧ kd = nI (pq_k kd) ∧ a = nI a.toNatClampNeg ∧ a.toNatClampNeg < 32 ∧ pv_fit k n (pv_s1 (pq_k kd)) a.toNatClampNeg ∧
    (pv_s2 (pq_k kd) ≠ 0 → b = nI (pq_b (pq_k kd) b)) ∧ pq_b (pq_k kd) b < 32 ∧ pv_fit k n (pv_s2 (pq_k kd)) (pq_b (pq_k kd) b) ∧
    (pv_s3 (pq_k kd) ≠ 0 → c = nI (pq_c (pq_k kd) c)) ∧ pq_c (pq_k kd) c < 32 ∧ pv_fit k n (pv_s3 (pq_k kd)) (pq_c (pq_k kd) c) := by
  obtain ⟨κ, h1, h2, h3, h4, h5⟩ := h
  have e : pq_k kd = κ := by unfold pq_k; rw [h2, nI_clamp (by omega)]
  rw [e]
  have s1 := pv_s1_le κ
  obtain ⟨a1, a2, a3⟩ := pq_fit1 hn h3 (by omega)
  refine ⟨h1, h2, a1, a2, a3, ?_⟩
  have hb : (pv_s2 κ ≠ 0 → b = nI (pq_b κ b)) ∧ pq_b κ b < 32 ∧ pv_fit k n (pv_s2 κ) (pq_b κ b) := by
    unfold pq_b
    by_cases z : pv_s2 κ = 0
    · rw [if_pos z, z]
      exact ⟨fun q => absurd rfl q, by omega, pq_fit0 k n⟩
    · rw [if_neg z]
      obtain ⟨b1, b2, b3⟩ := pq_fit1 hn h4 z
      exact ⟨fun _ => b1, b2, b3⟩
  have hc : (pv_s3 κ ≠ 0 → c = nI (pq_c κ c)) ∧ pq_c κ c < 32 ∧ pv_fit k n (pv_s3 κ) (pq_c κ c) := by
    unfold pq_c
    by_cases z : pv_s3 κ = 0
    · rw [if_pos z, z]
      exact ⟨fun q => absurd rfl q, by omega, pq_fit0 k n⟩
    · rw [if_neg z]
      obtain ⟨b1, b2, b3⟩ := pq_fit1 hn h5 z
      exact ⟨fun _ => b1, b2, b3⟩
  exact ⟨hb.1, hb.2.1, hb.2.2, hc⟩
