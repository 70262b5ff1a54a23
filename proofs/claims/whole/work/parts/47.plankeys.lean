/-! Planner: keys of couples -/
theorem sp_pk_c {f g : Nat → Int32} (e : e3 f g) : sp_pk f = sp_pk g := by
  unfold sp_pk
  rw [e 0 (by omega), e 1 (by omega), e 2 (by omega)]
theorem bt_n_c {P Q : Nat → Prop} : ∀ n, (∀ r, r < n → (P r ↔ Q r)) → bt_n P n = bt_n Q n := by
  intro n
  induction n with
  | zero => intro _; rfl
  | succ n ih =>
    intro e
    unfold bt_n
    rw [ih (fun r hr => e r (by omega)), propext (e n (by omega))]
theorem mv_W_c {h : Am_H} {m n : Nat} {f g : Nat → Int32} (e : e3 f g) (hn : n ≤ 3) : mv_W h m n f = mv_W h m n g := bt_n_c n (fun r hr => by unfold mv_may; rw [e r (by omega)])
theorem mv_W_eq {h h' : Am_H} {m n : Nat} (e0 : am_I h' m = am_I h m) (e1 : am_I h' (m + 3) = am_I h (m + 3)) (f : Nat → Int32) : mv_W h' m n f = mv_W h m n f := by
  unfold mv_W mv_may
  rw [e0, e1]
theorem sp_gp_c {f g : Nat → Int32} (e : e3 f g) (hg : sp_gp g) : sp_gp f := by
  obtain ⟨a, ha⟩ := hg
  exact ⟨a, fun r hr => by rw [e r hr]; exact ha r hr⟩
theorem bt_bit {P : Nat → Prop} : ∀ k r, (bt_n P k).testBit r = true ↔ r < k ∧ P r := by
  intro k
  induction k with
  | zero => intro r; simp [bt_n]
  | succ k ih =>
    intro r
    rw [bt_n]
    by_cases z : P k
    · rw [if_pos z, Nat.testBit_or, Bool.or_eq_true, ih r]
      by_cases y : r = k
      · subst y
        rw [Nat.testBit_two_pow_self]
        exact ⟨fun _ => ⟨by omega, z⟩, fun _ => Or.inr rfl⟩
      · rw [Nat.testBit_two_pow_of_ne (fun w => y w.symm)]
        exact ⟨fun q => q.elim (fun q => ⟨by omega, q.2⟩) (fun q => by cases q), fun q => Or.inl ⟨by omega, q.2⟩⟩
    · rw [if_neg z, ih r]
      exact ⟨fun q => ⟨by omega, q.2⟩, fun q => ⟨by
        rcases Nat.lt_or_ge r k with w | w
        · exact w
        · exact absurd (show P k from (show r = k by omega) ▸ q.2) z, q.2⟩⟩
theorem sp_gp_at2 {h : Am_H} {m n L : Nat} {at_ : Nat → Int32} (hL : am_I h m 0 = nI L) (hL2 : L ≤ 20) (hg : sp_gp at_) : sp_gp (sp_at2 (am_I h m 0) n (mv_go h m n at_)) := by
  obtain ⟨a, hr⟩ := hg
  have ex : ∀ r, ∃ p, r < 3 → sp_at2 (am_I h m 0) n (mv_go h m n at_) r + 1 = nI p ∧ p ≤ 20 := by
    intro r
    by_cases hr3 : r < 3
    · obtain ⟨r1, r2⟩ := hr r hr3
      unfold sp_at2 mv_go sp_go
      by_cases z : r < n
      · rw [if_pos z, hL]
        obtain ⟨p, p1, p2⟩ := sp_go1_gd (L := L) (fast := am_I h m 3) (kind := am_I h (m + 1) r) (pull := am_I h (m + 3) r) hL2 r2 r1
        by_cases y : sp_go1 (nI L) (am_I h m 3) (am_I h (m + 1) r) (am_I h (m + 3) r) (at_ r) = nI L
        · rw [if_pos ⟨z, y⟩]
          exact ⟨0, fun _ => ⟨rfl, by omega⟩⟩
        · rw [if_neg (fun w => y w.2)]
          refine ⟨p, fun _ => ⟨p1, ?_⟩⟩
          have : p ≠ L + 1 := fun w => y (by
            have := fq_neg p1
            rw [w, fq_pred] at this
            exact this)
          omega
      · rw [if_neg z, if_neg (fun w => z w.1)]
        exact ⟨_, fun _ => ⟨r1, r2⟩⟩
    · exact ⟨0, fun w => absurd w hr3⟩
  exact ⟨fun r => Classical.choose (ex r), fun r hr3 => Classical.choose_spec (ex r) hr3⟩
theorem tb_0 : ∀ b, b < 8 → (b % 2 = if b.testBit 0 then 1 else 0) ∧ (b / 2 % 2 = if b.testBit 1 then 1 else 0) ∧ (b / 4 % 2 = if b.testBit 2 then 1 else 0) := by decide +kernel
theorem tb_sub : ∀ b, b < 8 → ∀ W, W < 8 → b &&& W = b → ∀ r, r < 3 → b.testBit r = true → W.testBit r = true := by decide +kernel
/-- a couple's key: second, and places with starts -/
theorem pl_key {h : Am_H} {m n s b : Nat} {at_ : Nat → Int32} (hn : n ≤ 3) (hg : sp_gp at_) (hb : b < 8) (hs : b &&& mv_W h m n at_ = b) : (∀ r, r < 3 → dp_at (s * 32768 + sp_pk at_ + st_b b) r = if b.testBit r then 0 else at_ r) ∧ (s * 32768 + sp_pk at_ + st_b b) / 32768 = s ∧ sp_gp (dp_at (s * 32768 + sp_pk at_ + st_b b)) := by
  obtain ⟨a, ha⟩ := hg
  have hsub := tb_sub b hb _ (mv_W_lt hn) hs
  have h0 : ∀ r, r < 3 → b.testBit r = true → a r = 0 := fun r hr z => by
    have w := (bt_bit n r).mp (hsub r hr z)
    have := (ha r hr).1
    rw [w.2.1] at this
    have h1 := (ha r hr).2
    exact (nI_ij (a := 0) (by omega) (by omega) this).symm
  obtain ⟨t0, t1, t2⟩ := tb_0 b hb
  have a0 := ha 0 (by omega)
  have a1 := ha 1 (by omega)
  have a2 := ha 2 (by omega)
  have z0 := h0 0 (by omega)
  have z1 := h0 1 (by omega)
  have z2 := h0 2 (by omega)
  have epk : sp_pk at_ = (a 2 * 32 + a 1) * 32 + a 0 := by
    unfold sp_pk
    rw [a0.1, a1.1, a2.1, nI_clamp (by omega), nI_clamp (by omega), nI_clamp (by omega)]
  have hy : ∀ r c, r < 3 → (c = if b.testBit r then 1 else 0) → (if b.testBit r then 1 else a r) = a r + c ∧ a r + c ≤ 20 := by
    intro r c hr hc
    by_cases z : b.testBit r = true
    · rw [if_pos z] at hc ⊢
      rw [h0 r hr z, hc]
      exact ⟨rfl, by omega⟩
    · rw [if_neg z] at hc ⊢
      rw [hc]
      exact ⟨rfl, (ha r hr).2⟩
  obtain ⟨y0, x0⟩ := hy 0 _ (by omega) t0
  obtain ⟨y1, x1⟩ := hy 1 _ (by omega) t1
  obtain ⟨y2, x2⟩ := hy 2 _ (by omega) t2
  have hval : ∀ r, r < 3 → (s * 32768 + sp_pk at_ + st_b b) % 32768 / 32 ^ r % 32 = if b.testBit r then 1 else a r := by
    intro r hr
    have em : (s * 32768 + sp_pk at_ + st_b b) % 32768 = ((a 2 + b / 4 % 2) * 32 + (a 1 + b / 2 % 2)) * 32 + (a 0 + b % 2) := by
      unfold st_b
      rw [epk]
      omega
    rw [em]
    clear em
    generalize b % 2 = v0 at *
    generalize b / 2 % 2 = v1 at *
    generalize b / 4 % 2 = v2 at *
    rcases (show r = 0 ∨ r = 1 ∨ r = 2 by omega) with rfl | rfl | rfl
    · simp only [Nat.reducePow]
      rw [y0]
      omega
    · simp only [Nat.reducePow]
      rw [y1]
      omega
    · simp only [Nat.reducePow]
      rw [y2]
      omega
  have hat : ∀ r, r < 3 → dp_at (s * 32768 + sp_pk at_ + st_b b) r = if b.testBit r then 0 else at_ r := by
    intro r hr
    unfold dp_at
    rw [hval r hr]
    by_cases z : b.testBit r = true
    · rw [if_pos z, if_pos z]
      decide
    · rw [if_neg z, if_neg z, fq_neg (ha r hr).1]
  refine ⟨hat, ?_, ?_⟩
  · unfold st_b
    rw [epk]
    omega
  · refine ⟨fun r => if b.testBit r then 1 else a r, fun r hr => ?_⟩
    rw [hat r hr]
    by_cases z : b.testBit r = true
    · simp only [if_pos z]
      exact ⟨rfl, by omega⟩
    · simp only [if_neg z]
      exact ha r hr
