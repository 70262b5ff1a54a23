/-! Planner: the most is there, and is come to -/
theorem sp_max_l {x y : Int32} (hx : 0 ≤ x) : 0 ≤ sp_max x y := by
  unfold sp_max
  split
  · rename_i z; exact Int32.le_trans hx (Int32.le_of_lt z)
  · exact hx
theorem sp_max_r {x y : Int32} (hy : 0 ≤ y) : 0 ≤ sp_max x y := by
  unfold sp_max
  split
  · exact hy
  · rename_i z; exact Int32.le_trans hy (Int32.not_lt.mp z)
theorem sp_max_e {x y : Int32} : sp_max x y = x ∨ sp_max x y = y := by
  unfold sp_max
  split
  · exact Or.inr rfl
  · exact Or.inl rfl
theorem pl_b_ge {ks : List Nat} {val : Nat → Int32} {key W : Nat} : ∀ (j b : Nat) (v : Int32), (0 ≤ v ∨ ∃ i, b ≤ i ∧ i < b + j ∧ i &&& W = i ∧ 0 ≤ pl_v ks val (key + st_b i)) → 0 ≤ pl_b ks val key W j b v := by
  intro j
  induction j with
  | zero =>
    intro b v hv
    rcases hv with hv | ⟨i, h1, h2, -⟩
    · exact hv
    · omega
  | succ j ih =>
    intro b v hv
    rw [pl_b]
    apply ih
    rcases hv with hv | ⟨i, h1, h2, h3, h4⟩
    · left
      split
      · exact sp_max_l hv
      · exact hv
    · by_cases y : i = b
      · subst y
        left
        rw [if_pos h3]
        exact sp_max_r h4
      · exact Or.inr ⟨i, by omega, by omega, h3, h4⟩
theorem pl_b_at {ks : List Nat} {val : Nat → Int32} {key W : Nat} : ∀ (j b : Nat) (v : Int32), pl_b ks val key W j b v = v ∨ ∃ i, b ≤ i ∧ i < b + j ∧ i &&& W = i ∧ pl_v ks val (key + st_b i) = pl_b ks val key W j b v := by
  intro j
  induction j with
  | zero => intro b v; exact Or.inl rfl
  | succ j ih =>
    intro b v
    rw [pl_b]
    rcases ih (b + 1) (if b &&& W = b then sp_max v (pl_v ks val (key + st_b b)) else v) with q | ⟨i, h1, h2, h3, h4⟩
    · rw [q]
      by_cases z : b &&& W = b
      · rw [if_pos z]
        rcases sp_max_e (x := v) (y := pl_v ks val (key + st_b b)) with w | w
        · exact Or.inl w
        · exact Or.inr ⟨b, Nat.le_refl _, by omega, z, w.symm⟩
      · rw [if_neg z]
        exact Or.inl rfl
    · exact Or.inr ⟨i, by omega, by omega, h3, h4⟩
theorem pl_f_at {ks : List Nat} {val : Nat → Int32} {key W : Nat} {v : Int32} : ∀ (j b : Nat), (∃ i, b ≤ i ∧ i < b + j ∧ i &&& W = i ∧ pl_v ks val (key + st_b i) = v) → b ≤ pl_f ks val key W v j b ∧ pl_f ks val key W v j b < b + j ∧ pl_f ks val key W v j b &&& W = pl_f ks val key W v j b ∧ pl_v ks val (key + st_b (pl_f ks val key W v j b)) = v := by
  intro j
  induction j with
  | zero => rintro b ⟨i, h1, h2, -⟩; omega
  | succ j ih =>
    rintro b ⟨i, h1, h2, h3, h4⟩
    rw [pl_f]
    by_cases z : b &&& W = b ∧ pl_v ks val (key + st_b b) = v
    · rw [if_pos z]
      exact ⟨Nat.le_refl _, by omega, z.1, z.2⟩
    · rw [if_neg z]
      have : i ≠ b := fun y => z (y ▸ ⟨h3, h4⟩)
      obtain ⟨q1, q2, q3, q4⟩ := ih (b + 1) ⟨i, by omega, by omega, h3, h4⟩
      exact ⟨by omega, by omega, q3, q4⟩
/-- a couple that is worth the most is found, if there is any -/
theorem pl_fst_at {h : Am_H} {m n s : Nat} {ks : List Nat} {val : Nat → Int32} {at_ : Nat → Int32} (hn : n ≤ 3) (hv : ¬ pl_bst h m n ks val s at_ = -1) : pl_fst h m n ks val s at_ (pl_bst h m n ks val s at_) < 8 ∧ pl_fst h m n ks val s at_ (pl_bst h m n ks val s at_) ≤ mv_W h m n at_ ∧ pl_fst h m n ks val s at_ (pl_bst h m n ks val s at_) &&& mv_W h m n at_ = pl_fst h m n ks val s at_ (pl_bst h m n ks val s at_) ∧ s * 32768 + sp_pk at_ + st_b (pl_fst h m n ks val s at_ (pl_bst h m n ks val s at_)) ∈ ks ∧ val (s * 32768 + sp_pk at_ + st_b (pl_fst h m n ks val s at_ (pl_bst h m n ks val s at_))) = pl_bst h m n ks val s at_ := by
  have hW := mv_W_lt (h := h) (m := m) (at_ := at_) hn
  have ex := (pl_b_at (ks := ks) (val := val) (key := s * 32768 + sp_pk at_) (W := mv_W h m n at_) (mv_W h m n at_ + 1) 0 (-1)).resolve_left hv
  obtain ⟨q1, q2, q3, q4⟩ := pl_f_at (v := pl_bst h m n ks val s at_) (mv_W h m n at_ + 1) 0 ex
  change pl_fst h m n ks val s at_ (pl_bst h m n ks val s at_) < _ at q2
  change pl_fst h m n ks val s at_ (pl_bst h m n ks val s at_) &&& _ = pl_fst h m n ks val s at_ (pl_bst h m n ks val s at_) at q3
  change pl_v ks val (s * 32768 + sp_pk at_ + st_b (pl_fst h m n ks val s at_ (pl_bst h m n ks val s at_))) = _ at q4
  refine ⟨by omega, by omega, q3, ?_⟩
  unfold pl_v at q4
  split at q4
  · rename_i hm
    exact ⟨hm, q4⟩
  · exact absurd q4.symm hv
