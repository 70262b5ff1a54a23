/-! with no car under way no harm comes: the most is never lost -/
def at_no : Nat → Int32 := fun _ => -1
theorem mv_go_no (h : Am_H) (m n : Nat) : mv_go h m n at_no = at_no := by
  funext r
  unfold mv_go sp_go sp_go1 at_no
  rw [if_pos rfl]
  split <;> rfl
theorem sp_W_no (L : Int32) (i : Nat) : sp_W L at_no i = -1 := if_pos rfl
theorem sp_crowd_no {L H : Int32} {Nw Wa : Nat → Int32} (hW : ∀ i, Wa i = -1) : ∀ k, sp_crowd L H Wa Nw k = 0 := by
  intro k
  induction k with
  | zero => rfl
  | succ k ih =>
    unfold sp_crowd
    rw [if_pos (hW k), ih]
theorem mv_harm_no (h : Am_H) (m n : Nat) : mv_harm h m n at_no = 0 := by
  unfold mv_harm sp_harm
  rw [if_neg, sp_crowd_no (sp_W_no _), if_neg (by decide)]
  rintro ⟨a, b, _, _, q, _⟩
  exact q (sp_W_no _ a)
theorem mv_arr_no {h : Am_H} {m n L : Nat} (hL : am_I h m 0 = nI L) (hL2 : L ≤ 20) : mv_arr h m n at_no = 0 := by
  unfold mv_arr
  rw [mv_go_no, hL]
  have : ∀ k, sp_bits (fun r => at_no r = nI L) 0 k = 0 := by
    intro k
    induction k with
    | zero => rfl
    | succ k ih =>
      rw [sp_bits, if_neg (fun z => fq_m1 (a := L) (by omega) z.symm), ih]
  exact this n
theorem at2_no {L : Int32} {n : Nat} : sp_at2 L n at_no = at_no := by
  funext i
  unfold sp_at2 at_no
  split <;> rfl
theorem sp_loads_no {f : Nat → Int32} : ∀ n, n ≤ 3 → sp_loads f 0 n = 0 := by
  intro n
  induction n with
  | zero => intro _; rfl
  | succ n ih =>
    intro hn
    have : ∀ k, k < 3 → ((0 : Int32) >>> (nI k &&& 31)) &&& 1 = 0 := by decide +kernel
    rw [sp_loads, if_pos (this n (by omega)), ih (by omega)]
theorem dp_no (s : Nat) : dp_at (s * 32768) = at_no := by
  funext r
  unfold dp_at at_no
  rw [Nat.mul_mod_left, Nat.zero_div]
  rfl
theorem st_b0 : st_b 0 = 0 := by decide
theorem sp_pk_no : sp_pk at_no = 0 := by decide
theorem mp_at_no (h : Am_H) (m n s : Nat) : mp_at h m n (s * 32768) = at_no := by
  unfold mp_at
  rw [dp_no, mv_go_no, at2_no]
theorem vl_no {h : Am_H} {m n L N : Nat} {ks : List Nat} (hm : is_Good h m n L) (hc : ∀ s, s ≤ N → s * 32768 ∈ ks) : ∀ k s, s + k = N → 0 ≤ vl h m n ks k (s * 32768) := by
  intro k
  induction k with
  | zero => intro s _; exact Int32.le_refl _
  | succ k ih =>
    intro s hs
    have hr : 0 ≤ pl_bst h m n ks (vl h m n ks k) (s + 1) at_no := by
      refine pl_b_ge _ _ _ (Or.inr ⟨0, Nat.le_refl _, by omega, Nat.zero_and _, ?_⟩)
      rw [sp_pk_no, st_b0, Nat.add_zero, Nat.add_zero, pl_v, if_pos (hc (s + 1) (by omega))]
      exact ih (s + 1) (by omega)
    rw [vl, mp_at_no, dp_no, if_pos (mv_harm_no h m n), Nat.mul_div_cancel s (by omega), mv_arr_no hm.2.1 hm.2.2.1, sp_loads_no n hm.1.2.1]
    rw [if_neg (fun z => absurd (z ▸ hr) (by decide)), Int32.zero_add]
    exact hr
theorem pl_all_no {h : Am_H} {m n L N : Nat} {ks : List Nat} (hm : is_Good h m n L) (hN : N < 1000) (e : pl_all h m n N = some ks) : ∀ s, s ≤ N → s * 32768 ∈ ks := by
  obtain ⟨c0, c1⟩ := pl_all_cl hm hN e
  intro s
  induction s with
  | zero =>
    intro _
    have := c0 0 (Nat.zero_le _) (Nat.zero_and _)
    rw [show sp_pk (fun _ => -1) = 0 from sp_pk_no, st_b0, Nat.add_zero] at this
    exact this
  | succ s ih =>
    intro hs
    have := c1 _ (ih (by omega)) (by rw [Nat.mul_div_cancel s (by omega)]; omega) (by rw [dp_no]; exact mv_harm_no h m n) 0 (Nat.zero_le _) (Nat.zero_and _)
    rw [mp_at_no, sp_pk_no, st_b0, Nat.add_zero, Nat.add_zero, Nat.mul_div_cancel s (by omega)] at this
    exact this
/-- the most is never lost -/
theorem pl_most {h : Am_H} {m n L N : Nat} {ks : List Nat} (hm : is_Good h m n L) (hN : N < 1000) (e : pl_all h m n N = some ks) : ¬ pl_bst h m n ks (vlx h m n N ks) 0 at_no = -1 := by
  have hc := pl_all_no hm hN e
  intro z
  have hr : 0 ≤ pl_bst h m n ks (vlx h m n N ks) 0 at_no := by
    refine pl_b_ge _ _ _ (Or.inr ⟨0, Nat.le_refl _, by omega, Nat.zero_and _, ?_⟩)
    rw [sp_pk_no, st_b0, Nat.add_zero, pl_v, if_pos (hc 0 (by omega)), vlx, Nat.mul_div_cancel 0 (by omega)]
    exact vl_no hm hc _ 0 (by omega)
  exact absurd (z ▸ hr) (by decide)
