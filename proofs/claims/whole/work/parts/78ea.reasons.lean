/-! the reasons of a refused text -/
def rs_ok (q : Nat × Nat) : Prop := 1 ≤ q.1 ∧ q.1 ≤ 4
theorem slope_r {ch : Nat → Int32} {len : Nat} {R : Mrec} {t : Tok} {q : Nat × Nat} (hp : p_slope ch len R t = .inl q) : rs_ok q := by
  unfold p_slope at hp
  rcases Pr.bd_inl hp with hp | ⟨v, -, hp⟩
  · exact ⟨(p_num_r hp).1, (p_num_r hp).2.1⟩
  by_cases w : wd ch (nx ch len (nx ch len t.2.2).2.2) w_siding
  · rw [ifc_t w] at hp
    rcases Pr.bd_inl hp with hp | ⟨u, -, hp⟩
    · exact ⟨(p_num_r hp).1, (p_num_r hp).2.1⟩
    rcases Pr.bd_inl hp with hp | ⟨u, -, hp⟩
    · exact sign_r hp
    · cases hp
  · rw [ifc_f w] at hp
    rcases Pr.bd_inl hp with hp | ⟨u, -, hp⟩
    · exact sign_r hp
    · cases hp
theorem one_r {ch : Nat → Int32} {len k : Nat} {R : Mrec} {t : Tok} {q : Nat × Nat} (hp : p_one ch len R k t = .inl q) : rs_ok q := by
  unfold p_one at hp
  rcases Pr.bd_inl hp with hp | ⟨v, -, hp⟩
  · exact ⟨(p_num_r hp).1, (p_num_r hp).2.1⟩
  rcases Pr.bd_inl hp with hp | ⟨u, -, hp⟩
  · exact sign_r hp
  · cases hp
theorem slips_r {ch : Nat → Int32} {len : Nat} {t : Tok} {q : Nat × Nat} (hp : p_slips ch len t = .inl q) : rs_ok q := by
  unfold p_slips at hp
  by_cases w : wd ch t w_slips
  · rw [ifc_t w] at hp
    rcases Pr.bd_inl hp with hp | ⟨v, -, hp⟩
    · exact ⟨(p_num_r hp).1, (p_num_r hp).2.1⟩
    · cases hp
  · rw [ifc_f w] at hp; cases hp
theorem glass_r {ch : Nat → Int32} {len : Nat} {t : Tok} {q : Nat × Nat} (hp : p_glass ch len t = .inl q) : rs_ok q := by
  unfold p_glass at hp
  by_cases w : wd ch t w_glass
  · rw [ifc_t w] at hp
    rcases Pr.bd_inl hp with hp | ⟨v, -, hp⟩
    · exact ⟨(p_num_r hp).1, (p_num_r hp).2.1⟩
    rcases Pr.bd_inl hp with hp | ⟨st, -, hp⟩
    · exact slips_r hp
    · cases hf : p_four ch st.2 w_always w_clear w_half w_turn with
      | none => rw [hf] at hp; cases hp
      | some u => rw [hf] at hp; cases hp
  · rw [ifc_f w] at hp; cases hp; exact ⟨show 1 ≤ 1 by omega, show 1 ≤ 4 by omega⟩
theorem rope_r {ch : Nat → Int32} {len : Nat} {R : Mrec} {t : Tok} {q : Nat × Nat} (hp : p_rope ch len R t = .inl q) : rs_ok q := by
  unfold p_rope at hp
  cases hf : p_four ch (nx ch len t.2.2) w_plain w_men w_water w_runaway with
  | none => rw [hf] at hp; cases hp; exact ⟨show 1 ≤ 1 by omega, show 1 ≤ 4 by omega⟩
  | some u =>
    rw [hf] at hp
    dsimp only at hp
    rcases Pr.bd_inl hp with hp | ⟨v, -, hp⟩
    · exact ⟨(p_num_r hp).1, (p_num_r hp).2.1⟩
    rcases Pr.bd_inl hp with hp | ⟨v, -, hp⟩
    · exact ⟨(p_num_r hp).1, (p_num_r hp).2.1⟩
    rcases Pr.bd_inl hp with hp | ⟨v, -, hp⟩
    · exact glass_r hp
    rcases Pr.bd_inl hp with hp | ⟨v, -, hp⟩
    · exact sign_r hp
    · cases hp
theorem line_r {ch : Nat → Int32} {len line : Nat} {R : Mrec} {nt ft : Prop} {t : Tok} {q : Nat × Nat} (hp : p_line ch len R nt ft line t = .inl q) : rs_ok q := by
  unfold p_line at hp
  by_cases w1 : wd ch t w_slope
  · rw [ifc_t w1] at hp
    by_cases z : 0 < line
    · rw [ifc_t z] at hp; cases hp; exact ⟨show 1 ≤ 3 by omega, show 3 ≤ 4 by omega⟩
    · rw [ifc_f z] at hp
      rcases Pr.bd_inl hp with hp | ⟨v, -, hp⟩
      · exact slope_r hp
      · cases hp
  rw [ifc_f w1] at hp
  by_cases w2 : wd ch t w_needs
  · rw [ifc_t w2] at hp
    by_cases z : nt
    · rw [ifc_t z] at hp; cases hp; exact ⟨show 1 ≤ 4 by omega, show 4 ≤ 4 by omega⟩
    · rw [ifc_f z] at hp
      rcases Pr.bd_inl hp with hp | ⟨v, -, hp⟩
      · exact one_r hp
      · cases hp
  rw [ifc_f w2] at hp
  by_cases w3 : wd ch t w_fast
  · rw [ifc_t w3] at hp
    by_cases z : ft
    · rw [ifc_t z] at hp; cases hp; exact ⟨show 1 ≤ 4 by omega, show 4 ≤ 4 by omega⟩
    · rw [ifc_f z] at hp
      rcases Pr.bd_inl hp with hp | ⟨v, -, hp⟩
      · exact one_r hp
      · cases hp
  rw [ifc_f w3] at hp
  by_cases w4 : wd ch t w_rope
  · rw [ifc_t w4] at hp
    by_cases z : 3 ≤ R 0 4
    · rw [ifc_t z] at hp; cases hp; exact ⟨show 1 ≤ 2 by omega, show 2 ≤ 4 by omega⟩
    · rw [ifc_f z] at hp
      rcases Pr.bd_inl hp with hp | ⟨v, -, hp⟩
      · exact rope_r hp
      · cases hp
  rw [ifc_f w4] at hp
  cases hp; exact ⟨show 1 ≤ 1 by omega, show 1 ≤ 4 by omega⟩
theorem all_r {ch : Nat → Int32} {len : Nat} : ∀ (j line : Nat) (R : Mrec) (nt ft : Prop) (t : Tok) (q : Nat × Nat), p_all ch len j line R nt ft t = .inl q → rs_ok q := by
  intro j
  induction j with
  | zero => intro line R nt ft t q hp; rw [p_all] at hp; cases hp
  | succ j ih =>
    intro line R nt ft t q hp
    rw [p_all] at hp
    split at hp
    · cases hp
    · rcases Pr.bd_inl hp with hp | ⟨v, -, hp⟩
      · exact line_r hp
      · exact ih _ _ _ _ _ _ hp
theorem text_r {ch : Nat → Int32} {len : Nat} {q : Nat × Nat} (hp : p_text ch len = .inl q) : rs_ok q := all_r 401 0 R_0 False False _ q hp
theorem p_all_s (ch : Nat → Int32) (len j line : Nat) (R : Mrec) (nt ft : Prop) (t : Tok) : p_all ch len (j + 1) line R nt ft t = (if t.1 = 0 then .inr R else Pr.bd (p_line ch len R nt ft line t) fun q => p_all ch len j (line + 1) q.1.1 q.2.1 q.2.2 q.1.2) := by rw [p_all]
/-- a line that stands brings the reading on: the text ends before the lines do -/
theorem all_stop {ch : Nat → Int32} {len : Nat} : ∀ (j line : Nat) (R : Mrec) (nt ft : Prop) (t : Tok), tk_ok ch len t → len < j + t.2.1 → rec_ok R → p_all ch len (j + 1) line R nt ft t = p_all ch len j line R nt ft t := by
  intro j
  induction j with
  | zero =>
    intro line R nt ft t hk hj a
    have hz : t.1 = 0 := Classical.byContradiction fun z => by have := hk.2.2.2.2.1 z; have := hk.2.1; omega
    rw [p_all_s ch len 0, if_pos hz]
    rfl
  | succ j ih =>
    intro line R nt ft t hk hj a
    by_cases z : t.1 = 0
    · rw [p_all_s ch len (j + 1), p_all_s ch len j, if_pos z, if_pos z]
    · rw [p_all_s ch len (j + 1), if_neg z]
      have e2 := p_all_s ch len j line R nt ft t
      rw [if_neg z] at e2
      rw [e2]
      cases hq : p_line ch len R nt ft line t with
      | inl q => rfl
      | inr q =>
        obtain ⟨c1, c2, c3⟩ := line_ok hk a hq
        have := hk.2.2.2.2.1 z
        exact ih _ _ _ _ _ c2 (by omega) c1
