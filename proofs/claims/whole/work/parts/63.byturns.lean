/-! Fitter.rowsByTurns -/
theorem sm_mono (f : Nat → Nat × Nat) : ∀ i j, i ≤ j → (sm f i).2 ≤ (sm f j).2 := by
  intro i j hij
  induction hij with
  | refl => exact Nat.le_refl _
  | step _ ih => simp only [sm]; omega
/-- what a loop over slips has come to -/
def q_sm (t tc : Nat) (P : Nat × Nat) (x : Int32) : Prop := t ≤ tc ∧ tc ≤ 20001 ∧ (t + P.2 ≤ 20000 → x = nI P.1 ∧ tc = t + P.2) ∧ (20000 < t + P.2 → 20000 < tc)
theorem q_sm_st {t tc t' i : Nat} {f : Nat → Nat × Nat} {x y : Int32} (q : q_sm t tc (sm f i) x) (hc : tc ≤ 20000) (h1 : tc + 1 ≤ t') (h2 : t' ≤ 20001) (h3 : tc + 1 + (f i).2 ≤ 20000 → y = nI (f i).1 ∧ t' = tc + 1 + (f i).2) (h4 : 20000 < tc + 1 + (f i).2 → 20000 < t') : q_sm t t' (sm f (i + 1)) (x + y) := by
  obtain ⟨q1, q2, q3, q4⟩ := q
  have ht : t + (sm f i).2 ≤ 20000 := Nat.le_of_not_lt fun w => by have := q4 w; omega
  obtain ⟨rfl, rfl⟩ := q3 ht
  refine ⟨by omega, h2, fun w => ?_, fun w => ?_⟩
  · simp only [sm] at w ⊢
    obtain ⟨rfl, rfl⟩ := h3 (by omega)
    exact ⟨nI_add _ _, by omega⟩
  · simp only [sm] at w
    exact h4 (by omega)
theorem bt_dec {B : Nat} (hB : B < 8) (h0 : B ≠ 0) : (nI B &&& 1 = 0 ↔ B % 2 = 0) ∧ (nI B &&& 2 = 0 ↔ B / 2 % 2 = 0) := by
  rcases (show B = 1 ∨ B = 2 ∨ B = 3 ∨ B = 4 ∨ B = 5 ∨ B = 6 ∨ B = 7 by omega) with rfl | rfl | rfl | rfl | rfl | rfl | rfl <;> decide
theorem kb_lo {n key B : Nat} (hb : kb n key B) : lo_r B < n ∧ lo_r B < 3 ∧ lf_n key (lo_r B) ≤ 30 ∧ 2 ^ lo_r B ≤ B ∧ ∀ r, (B - 2 ^ lo_r B).testBit r = true → B.testBit r = true ∧ r ≠ lo_r B := by
  obtain ⟨hB, h0, hb, -⟩ := hb
  have hbit : B.testBit (lo_r B) = true ∧ lo_r B < 3 ∧ 2 ^ lo_r B ≤ B ∧ ∀ r, r < 8 → (B - 2 ^ lo_r B).testBit r = true → B.testBit r = true ∧ r ≠ lo_r B := by
    rcases (show B = 1 ∨ B = 2 ∨ B = 3 ∨ B = 4 ∨ B = 5 ∨ B = 6 ∨ B = 7 by omega) with rfl | rfl | rfl | rfl | rfl | rfl | rfl <;> decide
  obtain ⟨c1, c2, c3, c4⟩ := hbit
  refine ⟨(hb _ c1).1, c2, (hb _ c1).2, c3, fun r hr => c4 r ?_ hr⟩
  apply Nat.lt_of_not_le
  intro w
  have : (B - 2 ^ lo_r B) < 2 ^ r := Nat.lt_of_lt_of_le (show B - 2 ^ lo_r B < 2 ^ 3 from Nat.lt_of_le_of_lt (Nat.sub_le _ _) (by omega)) (Nat.pow_le_pow_right (by omega) (by omega))
  rw [Nat.testBit_lt_two_pow this] at hr
  cases hr
theorem kb_nx {n key B i : Nat} (hkey : gk key) (hb : kb n key B) (hi : i ≤ 3) : gk (key + i * 2 ^ (7 + lo_r B * 11)) ∧ (B - 2 ^ lo_r B ≠ 0 → kb n (key + i * 2 ^ (7 + lo_r B * 11)) (B - 2 ^ lo_r B)) := by
  obtain ⟨k1, k2, k3, k4, k5⟩ := kb_lo hb
  obtain ⟨a1, a2⟩ := sk_add (x := key) (c := i) k2 (by omega)
  have hle : i * 2 ^ (7 + lo_r B * 11) ≤ 3 * 2 ^ 29 := Nat.mul_le_mul hi (Nat.pow_le_pow_right (by omega) (by omega))
  have hp : 1 ≤ 2 ^ lo_r B := Nat.one_le_two_pow
  obtain ⟨hB, h0, hb, hbd⟩ := hb
  refine ⟨gk_iff.mpr ⟨by omega, fun r hr => ⟨by rw [a1 r hr]; exact ((gk_iff.mp hkey).2 r hr).1, ?_⟩⟩, fun w => ⟨by omega, w, fun r hr => ?_, by omega⟩⟩
  · rw [a2 r hr]
    by_cases z : r = lo_r B
    · rw [if_pos z]; omega
    · rw [if_neg z]; exact ((gk_iff.mp hkey).2 r hr).2
  · obtain ⟨c1, c2⟩ := k5 r hr
    obtain ⟨c3, c4⟩ := hb r c1
    have r3 : r < 3 := by
      apply Nat.lt_of_not_le
      intro w
      have : B < 2 ^ r := Nat.lt_of_lt_of_le (show B < 2 ^ 3 by omega) (Nat.pow_le_pow_right (by omega) w)
      rw [Nat.testBit_lt_two_pow this] at c1
      cases c1
    exact ⟨c3, by rw [a2 r r3, if_neg c2]; exact c4⟩
