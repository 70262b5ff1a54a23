/-! the model's slipBy; slips one by one are the class's three loops -/
theorem ob_s {α β : Type} (a : α) (f : α → Option β) : (some a).bind f = f a := rfl
theorem ob_n {α β : Type} (f : α → Option β) : (none : Option α).bind f = none := rfl
def ad_l (kf : Nat → Nat) : Nat → Nat → List Nat → Option (List Nat)
  | 0, _, ks => some ks
  | j + 1, c, ks => (f_ad1 ks (kf c)).bind (ad_l kf j (c + 1))
theorem ad_l_add {kf : Nat → Nat} (b : Nat) : ∀ (a c : Nat) (ks : List Nat), ad_l kf (a + b) c ks = (ad_l kf a c ks).bind (ad_l kf b (c + a))
  | 0, c, ks => by rw [Nat.zero_add, ad_l]; rfl
  | a + 1, c, ks => by
    rw [show a + 1 + b = (a + b) + 1 by omega, ad_l, ad_l]
    cases f_ad1 ks (kf c) with
    | none => rfl
    | some k1 =>
      show ad_l kf (a + b) (c + 1) k1 = (ad_l kf a (c + 1) k1).bind (ad_l kf b (c + (a + 1)))
      rw [ad_l_add b a (c + 1) k1, show c + 1 + a = c + (a + 1) by omega]
theorem sl_c_ad {kf : Nat → Nat} {base : Nat} : ∀ (j c c' : Nat) (ks : List Nat), (∀ i, i < j → kf (c' + i) = base + (c + i) * 2 ^ 29) → sl_c base j c ks = ad_l kf j c' ks := by
  intro j
  induction j with
  | zero => intro c c' ks h; rw [sl_c, ad_l]
  | succ j ih =>
    intro c c' ks h
    have h0 := h 0 (by omega)
    rw [Nat.add_zero, Nat.add_zero] at h0
    rw [sl_c, ad_l, h0]
    generalize f_ad1 ks (base + c * 2 ^ 29) = F
    cases F with
    | none => rw [ob_n, ob_n]
    | some k1 =>
      rw [ob_s, ob_s]
      refine ih (c + 1) (c' + 1) k1 (fun i hi => ?_)
      have := h (i + 1) (by omega)
      rw [show c' + (i + 1) = c' + 1 + i by omega, show c + (i + 1) = c + 1 + i by omega] at this
      exact this
theorem sl_b_ad {kf : Nat → Nat} {base M2 : Nat} : ∀ (j b c' : Nat) (ks : List Nat), (∀ i c, i < j → c ≤ M2 → kf (c' + i * (M2 + 1) + c) = base + (b + i) * 2 ^ 18 + c * 2 ^ 29) → sl_b base M2 j b ks = ad_l kf (j * (M2 + 1)) c' ks := by
  intro j
  induction j with
  | zero => intro b c' ks h; rw [sl_b, Nat.zero_mul, ad_l]
  | succ j ih =>
    intro b c' ks h
    have h0 : sl_c (base + b * 2 ^ 18) (M2 + 1) 0 ks = ad_l kf (M2 + 1) c' ks := by
      refine sl_c_ad (M2 + 1) 0 c' ks (fun i hi => ?_)
      have := h 0 i (by omega) (by omega)
      rw [Nat.zero_mul, Nat.add_zero, Nat.add_zero] at this
      rw [Nat.zero_add]
      exact this
    rw [sl_b, show (j + 1) * (M2 + 1) = (M2 + 1) + j * (M2 + 1) by rw [Nat.add_mul, Nat.one_mul, Nat.add_comm], ad_l_add, h0]
    generalize ad_l kf (M2 + 1) c' ks = F
    cases F with
    | none => rw [ob_n, ob_n]
    | some k1 =>
      rw [ob_s, ob_s]
      refine ih (b + 1) (c' + (M2 + 1)) k1 (fun i c hi hc => ?_)
      have := h (i + 1) c (by omega) hc
      rw [Nat.add_mul, Nat.one_mul, show c' + (i * (M2 + 1) + (M2 + 1)) + c = c' + (M2 + 1) + i * (M2 + 1) + c by omega, show b + (i + 1) = b + 1 + i by omega] at this
      exact this
theorem sl_a_ad {kf : Nat → Nat} {base M1 M2 : Nat} : ∀ (j a c' : Nat) (ks : List Nat), (∀ i b c, i < j → b ≤ M1 → c ≤ M2 → kf (c' + i * ((M1 + 1) * (M2 + 1)) + b * (M2 + 1) + c) = base + (a + i) * 2 ^ 7 + b * 2 ^ 18 + c * 2 ^ 29) → sl_a base M1 M2 j a ks = ad_l kf (j * ((M1 + 1) * (M2 + 1))) c' ks := by
  intro j
  induction j with
  | zero => intro a c' ks h; rw [sl_a, Nat.zero_mul, ad_l]
  | succ j ih =>
    intro a c' ks h
    have h0 : sl_b (base + a * 2 ^ 7) M2 (M1 + 1) 0 ks = ad_l kf ((M1 + 1) * (M2 + 1)) c' ks := by
      refine sl_b_ad (M1 + 1) 0 c' ks (fun i c hi hc => ?_)
      have := h 0 i c (by omega) (by omega) hc
      rw [Nat.zero_mul, Nat.add_zero c', Nat.add_zero a] at this
      rw [Nat.zero_add]
      exact this
    generalize hN : (M1 + 1) * (M2 + 1) = N at *
    rw [sl_a, show (j + 1) * N = N + j * N by rw [Nat.add_mul, Nat.one_mul, Nat.add_comm], ad_l_add, h0]
    generalize ad_l kf N c' ks = F
    cases F with
    | none => rw [ob_n, ob_n]
    | some k1 =>
      rw [ob_s, ob_s]
      refine ih (a + 1) (c' + N) k1 (fun i b c hi hb hc => ?_)
      have := h (i + 1) b c (by omega) hb hc
      rw [Nat.add_mul, Nat.one_mul, show c' + (i * N + N) + b * (M2 + 1) + c = c' + N + i * N + b * (M2 + 1) + c by omega, show a + (i + 1) = a + 1 + i by omega] at this
      exact this
/-- what is left of a choice as it comes to rope p; the rope's slip -/
def dg_l (N : Nat → Nat) (c p : Nat) : Nat := if p = 2 then c else if p = 1 then c / N 2 else c / N 2 / N 1
def dg (N : Nat → Nat) (c p : Nat) : Nat := dg_l N c p % N p
theorem dg_of {N : Nat → Nat} {a b c : Nat} (h1 : b < N 1) (h2 : c < N 2) (h0 : a < N 0) : dg N (a * (N 1 * N 2) + b * N 2 + c) 0 = a ∧ dg N (a * (N 1 * N 2) + b * N 2 + c) 1 = b ∧ dg N (a * (N 1 * N 2) + b * N 2 + c) 2 = c := by
  have e : a * (N 1 * N 2) + b * N 2 + c = N 2 * (a * N 1 + b) + c := by
    rw [Nat.mul_add, Nat.mul_comm (N 1) (N 2), ← Nat.mul_assoc, Nat.mul_comm a (N 2), Nat.mul_assoc, Nat.mul_comm b (N 2)]
  have d2 : (a * (N 1 * N 2) + b * N 2 + c) / N 2 = a * N 1 + b := by
    rw [e, Nat.mul_add_div (by omega), Nat.div_eq_of_lt h2, Nat.add_zero]
  have m2 : (a * (N 1 * N 2) + b * N 2 + c) % N 2 = c := by
    rw [e, Nat.mul_add_mod, Nat.mod_eq_of_lt h2]
  have e1 : a * N 1 + b = N 1 * a + b := by rw [Nat.mul_comm]
  have d1 : (a * N 1 + b) / N 1 = a := by
    rw [e1, Nat.mul_add_div (by omega), Nat.div_eq_of_lt h1, Nat.add_zero]
  have m1 : (a * N 1 + b) % N 1 = b := by
    rw [e1, Nat.mul_add_mod, Nat.mod_eq_of_lt h1]
  refine ⟨?_, ?_, ?_⟩
  · show (if (0 : Nat) = 2 then _ else if (0 : Nat) = 1 then _ else _) % N 0 = a
    rw [if_neg (by omega), if_neg (by omega), d2, d1, Nat.mod_eq_of_lt h0]
  · show (if (1 : Nat) = 2 then _ else if (1 : Nat) = 1 then _ else _) % N 1 = b
    rw [if_neg (by omega), if_pos rfl, d2, m1]
  · show (if (2 : Nat) = 2 then _ else _) % N 2 = c
    rw [if_pos rfl, m2]
