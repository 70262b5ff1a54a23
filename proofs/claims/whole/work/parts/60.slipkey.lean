/-! a key with a slip more -/
def lf_n (key r : Nat) : Nat := key / (128 * 2048 ^ r) % 64
def at_n (key r : Nat) : Nat := key / (4 * 2048 ^ r) % 32
theorem gk_iff {x : Nat} : gk x ↔ x < 2 ^ 60 ∧ ∀ r, r < 3 → at_n x r ≤ 20 ∧ lf_n x r ≤ 33 := by
  constructor
  · rintro ⟨h1, a, b, w, hr, -⟩
    refine ⟨h1, fun r hr3 => ?_⟩
    obtain ⟨r1, r2, r3, r4⟩ := hr r hr3
    have e1 : nI (at_n x r) = nI (a r) := by
      rw [← r1]
      show _ = nI (at_n x r) - 1 + 1
      rw [Int32.sub_add_cancel]
    have e2 : nI (lf_n x r) = nI (b r) := r3
    have b1 : at_n x r < 32 := Nat.mod_lt _ (by omega)
    have b2 : lf_n x r < 64 := Nat.mod_lt _ (by omega)
    have := nI_ij (by omega) (by omega) e1
    have := nI_ij (by omega) (by omega) e2
    omega
  · rintro ⟨h1, h2⟩
    refine ⟨h1, at_n x, lf_n x, x % 4, fun r hr => ⟨?_, (h2 r hr).1, rfl, (h2 r hr).2⟩, ?_, by omega⟩
    · show nI (at_n x r) - 1 + 1 = _
      rw [Int32.sub_add_cancel]
    · show nI (x % 4) - 1 + 1 = _
      rw [Int32.sub_add_cancel]
theorem sk_add {x r c : Nat} (hr : r < 3) (hc : lf_n x r + c < 64) : (∀ q, q < 3 → at_n (x + c * 2 ^ (7 + r * 11)) q = at_n x q) ∧ (∀ q, q < 3 → lf_n (x + c * 2 ^ (7 + r * 11)) q = if q = r then lf_n x r + c else lf_n x q) := by
  unfold at_n lf_n at *
  rcases (show r = 0 ∨ r = 1 ∨ r = 2 by omega) with rfl | rfl | rfl
  all_goals
    simp only [Nat.reducePow, Nat.reduceMul, Nat.reduceAdd] at hc ⊢
    constructor
    all_goals
      intro q hq
      rcases (show q = 0 ∨ q = 1 ∨ q = 2 by omega) with rfl | rfl | rfl
      all_goals
        first | simp only [Nat.reducePow, Nat.reduceMul, Nat.reduceAdd, if_pos] | simp only [Nat.reducePow, Nat.reduceMul, Nat.reduceAdd]
        first | omega | (rw [if_neg (by omega)]; omega)
