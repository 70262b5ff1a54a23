/-! Tape.read, Tape.put -/
theorem p_num_b {ch : Nat → Int32} {t : Tok} {lo hi by_ v : Nat} (hp : p_num ch t lo hi by_ = .inr v) : lo ≤ v ∧ v ≤ hi ∧ v % by_ = 0 := by
  unfold p_num at hp
  split at hp
  · cases hp
  · split at hp
    · cases hp
    · split at hp
      · cases hp
      · cases hp; omega
theorem p_num_r {ch : Nat → Int32} {t : Tok} {lo hi by_ : Nat} {q : Nat × Nat} (hp : p_num ch t lo hi by_ = .inl q) : 1 ≤ q.1 ∧ q.1 ≤ 4 ∧ q.2 = t.2.1 := by
  unfold p_num at hp
  split at hp
  · cases hp; exact ⟨show 1 ≤ 1 by omega, show 1 ≤ 4 by omega, rfl⟩
  · split at hp
    · cases hp; exact ⟨show 1 ≤ 2 by omega, show 2 ≤ 4 by omega, rfl⟩
    · split at hp
      · cases hp; exact ⟨show 1 ≤ 2 by omega, show 2 ≤ 4 by omega, rfl⟩
      · cases hp
/-- what a record of a text holds to -/
def rec_ok (R : Mrec) : Prop := (4 ≤ R 0 0 ∧ R 0 0 ≤ 20 ∧ R 0 0 % 2 = 0) ∧ R 0 1 ≤ 3 ∧ (1 ≤ R 0 2 ∧ R 0 2 ≤ 99) ∧ (1 ≤ R 0 3 ∧ R 0 3 ≤ 99) ∧ R 0 4 ≤ 3 ∧ ∀ r, r < R 0 4 → R 1 r ≤ 3 ∧ R 2 r ≤ 99 ∧ R 3 r ≤ 98 ∧ (1 ≤ R 4 r ∧ R 4 r ≤ 30) ∧ R 5 r ≤ 3 ∧ R 6 r ≤ 3
theorem Pr.bd_inr {α β : Type} {x : Pr α} {f : α → Pr β} {b : β} (h : Pr.bd x f = .inr b) : ∃ a, x = .inr a ∧ f a = .inr b := by
  cases x with
  | inl q => cases h
  | inr a => exact ⟨a, rfl, h⟩
theorem Pr.bd_inl {α β : Type} {x : Pr α} {f : α → Pr β} {q : Nat × Nat} (h : Pr.bd x f = .inl q) : x = .inl q ∨ ∃ a, x = .inr a ∧ f a = .inl q := by
  cases x with
  | inl q2 => cases h; exact Or.inl rfl
  | inr a => exact Or.inr ⟨a, rfl, h⟩
theorem ru_o {R : Mrec} {o k v o2 k2 : Nat} (h : ¬ (o2 = o ∧ k2 = k)) : ru R o k v o2 k2 = R o2 k2 := if_neg h
theorem ru_e {R : Mrec} {o k v : Nat} : ru R o k v o k = v := if_pos ⟨rfl, rfl⟩
/-- a field of the head changed to a good value -/
theorem rec_ok.w {R : Mrec} (a : rec_ok R) {k v : Nat} (hk : k < 4) (h0 : k = 0 → 4 ≤ v ∧ v ≤ 20 ∧ v % 2 = 0) (h1 : k = 1 → v ≤ 3) (h2 : k = 2 ∨ k = 3 → 1 ≤ v ∧ v ≤ 99) : rec_ok (ru R 0 k v) := by
  obtain ⟨a0, a1, a2, a3, a4, a5⟩ := a
  have e4 : ru R 0 k v 0 4 = R 0 4 := ru_o (by omega)
  have ej : ∀ j, j ≠ k → ru R 0 k v 0 j = R 0 j := fun j hj => ru_o (fun z => hj z.2)
  have ee : ru R 0 k v 0 k = v := ru_e
  refine ⟨?_, ?_, ?_, ?_, by rw [e4]; exact a4, fun r hr => ?_⟩
  · by_cases z : k = 0
    · subst z; rw [ee]; exact h0 rfl
    · rw [ej 0 (Ne.symm z)]; exact a0
  · by_cases z : k = 1
    · subst z; rw [ee]; exact h1 rfl
    · rw [ej 1 (Ne.symm z)]; exact a1
  · by_cases z : k = 2
    · subst z; rw [ee]; exact h2 (Or.inl rfl)
    · rw [ej 2 (Ne.symm z)]; exact a2
  · by_cases z : k = 3
    · subst z; rw [ee]; exact h2 (Or.inr rfl)
    · rw [ej 3 (Ne.symm z)]; exact a3
  · rw [e4] at hr
    have n : ∀ o, 1 ≤ o → ru R 0 k v o r = R o r := fun o ho => ru_o (by omega)
    rw [n 1 (by omega), n 2 (by omega), n 3 (by omega), n 4 (by omega), n 5 (by omega), n 6 (by omega)]
    exact a5 r hr
theorem rec_ok.rope {R : Mrec} (a : rec_ok R) {k x b g s u : Nat} (h4 : R 0 4 < 3) (hk : k ≤ 3) (hx : x ≤ 99) (hb : b ≤ 98) (hg : 1 ≤ g ∧ g ≤ 30) (hs : s ≤ 3) (hu : u ≤ 3) : rec_ok (R_rope R k x b g s u) := by
  obtain ⟨a0, a1, a2, a3, a4, a5⟩ := a
  have e : ∀ j, j < 4 → R_rope R k x b g s u 0 j = R 0 j := fun j hj => by
    unfold R_rope
    rw [ru_o (by omega), ru_o (by omega), ru_o (by omega), ru_o (by omega), ru_o (by omega), ru_o (by omega), ru_o (by omega)]
  have e4 : R_rope R k x b g s u 0 4 = R 0 4 + 1 := by unfold R_rope; rw [ru_e]
  refine ⟨by rw [e 0 (by omega)]; exact a0, by rw [e 1 (by omega)]; exact a1, by rw [e 2 (by omega)]; exact a2, by rw [e 3 (by omega)]; exact a3, by rw [e4]; omega, fun r hr => ?_⟩
  rw [e4] at hr
  by_cases z : r = R 0 4
  · subst z
    simp only [R_rope, ru]
    simp [hk, hx, hb, hg, hs, hu]
  · have n : ∀ o, 1 ≤ o → R_rope R k x b g s u o r = R o r := fun o ho => by
      unfold R_rope
      rw [ru_o (by omega), ru_o (by omega), ru_o (by omega), ru_o (by omega), ru_o (by omega), ru_o (by omega), ru_o (by omega)]
    rw [n 1 (by omega), n 2 (by omega), n 3 (by omega), n 4 (by omega), n 5 (by omega), n 6 (by omega)]
    exact a5 r (by omega)
/-- a token further on -/
def tk_gt (p : Nat) (t : Tok) : Prop := p ≤ t.2.1
theorem sign_ok {ch : Nat → Int32} {len : Nat} {t t' : Tok} (hk : tk_ok ch len t) (hp : p_sign ch len t = .inr t') : tk_ok ch len t' ∧ t.2.2 ≤ t'.2.1 := by
  unfold p_sign at hp
  split at hp
  · cases hp; exact nx_ok ch len _ hk.2.1
  · cases hp
theorem sign_r {ch : Nat → Int32} {len : Nat} {t : Tok} {q : Nat × Nat} (hp : p_sign ch len t = .inl q) : 1 ≤ q.1 ∧ q.1 ≤ 4 := by
  unfold p_sign at hp
  split at hp
  · cases hp
  · cases hp; exact ⟨show 1 ≤ 1 by omega, show 1 ≤ 4 by omega⟩
theorem slope_ok {ch : Nat → Int32} {len : Nat} {R : Mrec} {t : Tok} (hk : tk_ok ch len t) (a : rec_ok R) {r : Mrec × Tok} (hp : p_slope ch len R t = .inr r) : rec_ok r.1 ∧ tk_ok ch len r.2 ∧ t.2.2 ≤ r.2.2.1 := by
  unfold p_slope at hp
  obtain ⟨v, hv, hp⟩ := Pr.bd_inr hp
  obtain ⟨v1, v2, v3⟩ := p_num_b hv
  obtain ⟨k1, l1⟩ := nx_ok ch len t.2.2 hk.2.1
  obtain ⟨k2, l2⟩ := nx_ok ch len _ k1.2.1
  have b1 := k1.1
  have b2 := k2.1
  have a1 : rec_ok (ru R 0 0 v) := a.w (by omega) (fun _ => ⟨v1, v2, v3⟩) (fun z => by omega) (fun z => by omega)
  by_cases w : wd ch (nx ch len (nx ch len t.2.2).2.2) w_siding
  · rw [ifc_t w] at hp
    obtain ⟨u, hu, hp⟩ := Pr.bd_inr hp
    obtain ⟨u1, u2, -⟩ := p_num_b hu
    obtain ⟨k3, l3⟩ := nx_ok ch len _ k2.2.1
    obtain ⟨k4, l4⟩ := nx_ok ch len _ k3.2.1
    have b3 := k3.1
    have b4 := k4.1
    obtain ⟨t', ht, hp⟩ := Pr.bd_inr hp
    obtain ⟨k5, l5⟩ := sign_ok k4 ht
    cases hp
    exact ⟨a1.w (by omega) (fun z => by omega) (fun _ => by omega) (fun z => by omega), k5, show _ ≤ t'.2.1 by omega⟩
  · rw [ifc_f w] at hp
    obtain ⟨t', ht, hp⟩ := Pr.bd_inr hp
    obtain ⟨k5, l5⟩ := sign_ok k2 ht
    cases hp
    exact ⟨a1, k5, show _ ≤ t'.2.1 by omega⟩
theorem one_ok {ch : Nat → Int32} {len k : Nat} {R : Mrec} {t : Tok} (hk : tk_ok ch len t) (a : rec_ok R) (h2 : k = 2 ∨ k = 3) {r : Mrec × Tok} (hp : p_one ch len R k t = .inr r) : rec_ok r.1 ∧ tk_ok ch len r.2 ∧ t.2.2 ≤ r.2.2.1 := by
  unfold p_one at hp
  obtain ⟨v, hv, hp⟩ := Pr.bd_inr hp
  obtain ⟨v1, v2, -⟩ := p_num_b hv
  obtain ⟨k1, l1⟩ := nx_ok ch len t.2.2 hk.2.1
  obtain ⟨k2, l2⟩ := nx_ok ch len _ k1.2.1
  have b1 := k1.1
  have b2 := k2.1
  obtain ⟨t', ht, hp⟩ := Pr.bd_inr hp
  obtain ⟨k5, l5⟩ := sign_ok k2 ht
  cases hp
  exact ⟨a.w (by omega) (fun z => by omega) (fun z => by omega) (fun _ => ⟨v1, v2⟩), k5, show _ ≤ t'.2.1 by omega⟩
theorem slips_ok {ch : Nat → Int32} {len : Nat} {t : Tok} (hk : tk_ok ch len t) {r : Nat × Tok} (hp : p_slips ch len t = .inr r) : r.1 ≤ 3 ∧ tk_ok ch len r.2 ∧ t.2.1 ≤ r.2.2.1 := by
  unfold p_slips at hp
  by_cases w : wd ch t w_slips
  · rw [ifc_t w] at hp
    obtain ⟨v, hv, hp⟩ := Pr.bd_inr hp
    obtain ⟨v1, v2, -⟩ := p_num_b hv
    obtain ⟨k1, l1⟩ := nx_ok ch len t.2.2 hk.2.1
    obtain ⟨k2, l2⟩ := nx_ok ch len _ k1.2.1
    have b0 := hk.1
    have b1 := k1.1
    cases hp
    exact ⟨v2, k2, show t.2.1 ≤ (nx ch len (nx ch len t.2.2).2.2).2.1 by omega⟩
  · rw [ifc_f w] at hp
    cases hp
    exact ⟨Nat.zero_le _, hk, Nat.le_refl _⟩
theorem glass_ok {ch : Nat → Int32} {len : Nat} {t : Tok} (hk : tk_ok ch len t) {r : Nat × Nat × Nat × Tok} (hp : p_glass ch len t = .inr r) : (1 ≤ r.1 ∧ r.1 ≤ 30) ∧ r.2.1 ≤ 3 ∧ r.2.2.1 ≤ 3 ∧ tk_ok ch len r.2.2.2 ∧ t.2.1 ≤ r.2.2.2.2.1 := by
  unfold p_glass at hp
  by_cases w : wd ch t w_glass
  · rw [ifc_t w] at hp
    obtain ⟨v, hv, hp⟩ := Pr.bd_inr hp
    obtain ⟨v1, v2, -⟩ := p_num_b hv
    obtain ⟨k1, l1⟩ := nx_ok ch len t.2.2 hk.2.1
    obtain ⟨k2, l2⟩ := nx_ok ch len _ k1.2.1
    obtain ⟨st, hs, hp⟩ := Pr.bd_inr hp
    obtain ⟨s1, s2, s3⟩ := slips_ok k2 hs
    have b0 := hk.1
    have b1 := k1.1
    cases hf : p_four ch st.2 w_always w_clear w_half w_turn with
    | none =>
      rw [hf] at hp
      cases hp
      exact ⟨⟨v1, v2⟩, s1, Nat.zero_le _, s2, show t.2.1 ≤ st.2.2.1 by omega⟩
    | some u =>
      rw [hf] at hp
      obtain ⟨k3, l3⟩ := nx_ok ch len _ s2.2.1
      have b2 := s2.1
      cases hp
      exact ⟨⟨v1, v2⟩, s1, p_four_le hf, k3, show t.2.1 ≤ (nx ch len st.2.2.2).2.1 by omega⟩
  · rw [ifc_f w] at hp
    cases hp
theorem rope_ok {ch : Nat → Int32} {len : Nat} {R : Mrec} {t : Tok} (hk : tk_ok ch len t) (a : rec_ok R) (h4 : R 0 4 < 3) {r : Mrec × Tok} (hp : p_rope ch len R t = .inr r) : rec_ok r.1 ∧ tk_ok ch len r.2 ∧ t.2.2 ≤ r.2.2.1 := by
  unfold p_rope at hp
  obtain ⟨k1, l1⟩ := nx_ok ch len t.2.2 hk.2.1
  obtain ⟨k2, l2⟩ := nx_ok ch len _ k1.2.1
  obtain ⟨k3, l3⟩ := nx_ok ch len _ k2.2.1
  obtain ⟨k4, l4⟩ := nx_ok ch len _ k3.2.1
  have b1 := k1.1
  have b2 := k2.1
  have b3 := k3.1
  cases hf : p_four ch (nx ch len t.2.2) w_plain w_men w_water w_runaway with
  | none => rw [hf] at hp; cases hp
  | some u =>
    rw [hf] at hp
    dsimp only at hp
    obtain ⟨x, hx, hp⟩ := Pr.bd_inr hp
    obtain ⟨b, hb, hp⟩ := Pr.bd_inr hp
    obtain ⟨q, hq, hp⟩ := Pr.bd_inr hp
    obtain ⟨t', ht, hp⟩ := Pr.bd_inr hp
    obtain ⟨q1, q2, q3, q4, q5⟩ := glass_ok k4 hq
    obtain ⟨k5, l5⟩ := sign_ok q4 ht
    have b5 := q4.1
    cases hp
    exact ⟨a.rope h4 (p_four_le hf) (p_num_b hx).2.1 (p_num_b hb).2.1 q1 q2 q3, k5, show _ ≤ t'.2.1 by omega⟩
theorem line_ok {ch : Nat → Int32} {len line : Nat} {R : Mrec} {nt ft : Prop} {t : Tok} (hk : tk_ok ch len t) (a : rec_ok R) {r : (Mrec × Tok) × Prop × Prop} (hp : p_line ch len R nt ft line t = .inr r) : rec_ok r.1.1 ∧ tk_ok ch len r.1.2 ∧ t.2.2 ≤ r.1.2.2.1 := by
  unfold p_line at hp
  by_cases w1 : wd ch t w_slope
  · rw [ifc_t w1] at hp
    by_cases z : 0 < line
    · rw [ifc_t z] at hp; cases hp
    · rw [ifc_f z] at hp
      obtain ⟨q, hq, hp⟩ := Pr.bd_inr hp
      cases hp
      exact slope_ok hk a hq
  rw [ifc_f w1] at hp
  by_cases w2 : wd ch t w_needs
  · rw [ifc_t w2] at hp
    by_cases z : nt
    · rw [ifc_t z] at hp; cases hp
    · rw [ifc_f z] at hp
      obtain ⟨q, hq, hp⟩ := Pr.bd_inr hp
      cases hp
      exact one_ok hk a (Or.inl rfl) hq
  rw [ifc_f w2] at hp
  by_cases w3 : wd ch t w_fast
  · rw [ifc_t w3] at hp
    by_cases z : ft
    · rw [ifc_t z] at hp; cases hp
    · rw [ifc_f z] at hp
      obtain ⟨q, hq, hp⟩ := Pr.bd_inr hp
      cases hp
      exact one_ok hk a (Or.inr rfl) hq
  rw [ifc_f w3] at hp
  by_cases w4 : wd ch t w_rope
  · rw [ifc_t w4] at hp
    by_cases z : 3 ≤ R 0 4
    · rw [ifc_t z] at hp; cases hp
    · rw [ifc_f z] at hp
      obtain ⟨q, hq, hp⟩ := Pr.bd_inr hp
      cases hp
      exact rope_ok hk a (by omega) hq
  rw [ifc_f w4] at hp
  cases hp
theorem R_0_ok : rec_ok R_0 := by
  refine ⟨⟨?_, ?_, ?_⟩, ?_, ⟨?_, ?_⟩, ⟨?_, ?_⟩, ?_, fun r hr => absurd hr (by show ¬ r < 0; omega)⟩ <;> decide
theorem all_ok {ch : Nat → Int32} {len : Nat} : ∀ (j line : Nat) (R : Mrec) (nt ft : Prop) (t : Tok), tk_ok ch len t → rec_ok R → ∀ R', p_all ch len j line R nt ft t = .inr R' → rec_ok R' := by
  intro j
  induction j with
  | zero => intro line R nt ft t hk a R' hp; rw [p_all] at hp; cases hp; exact a
  | succ j ih =>
    intro line R nt ft t hk a R' hp
    rw [p_all] at hp
    split at hp
    · cases hp; exact a
    · obtain ⟨q, hq, hp⟩ := Pr.bd_inr hp
      obtain ⟨c1, c2, -⟩ := line_ok hk a hq
      exact ih _ _ _ _ _ c2 c1 R' hp
theorem text_ok {ch : Nat → Int32} {len : Nat} {R : Mrec} (hp : p_text ch len = .inr R) : rec_ok R := all_ok 401 0 R_0 False False _ (nx_ok ch len 0 (Nat.zero_le _)).1 R_0_ok R hp
