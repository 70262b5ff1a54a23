/-! a second of the model: starts with slips; places below the slope's length -/
/-- places of the ropes that move are below L -/
def gl (L n : Nat) (f : Nat → Int32) : Prop := ∀ r, r < n → ¬ f r = -1 → ∃ a, a < L ∧ f r = nI a
theorem gl.c {L n : Nat} {f g : Nat → Int32} (a : gl L n f) (e : ∀ r, r < n → f r = g r) : gl L n g := fun r hr z => by
  rw [← e r hr] at z ⊢
  exact a r hr z
theorem gl.lt {L n : Nat} {f : Nat → Int32} (hL : L ≤ 20) (a : gl L n f) : md_lt (nI L) n f := fun r hr z => by
  obtain ⟨b, hb, e⟩ := a r hr z
  rw [e]
  exact nI_lt hb (by omega)
theorem go1_nI {L a : Nat} (hL : L ≤ 20) (ha : a < L) (fast kind pull : Int32) : ∃ b, b ≤ L ∧ sp_go1 (nI L) fast kind pull (nI a) = nI b := by
  unfold sp_go1
  rw [if_neg (nI_m1 (by omega))]
  obtain ⟨t, ht, t1, t3⟩ := sp_pace_in (nI L) fast kind pull (nI a)
  rw [ht, nI_add, sp_min]
  by_cases q : nI (a + t) < nI L
  · rw [if_pos q]
    exact ⟨_, by have := (nI_ltI (by omega) (by omega)).mp q; omega, rfl⟩
  · rw [if_neg q]
    exact ⟨_, Nat.le_refl _, rfl⟩
theorem gl.bd {h : Am_H} {m n L x : Nat} (hL0 : am_I h m 0 = nI L) (hL : L ≤ 20) (a : gl L n (am_I h x)) : md_bd h m n x L := fun r hr z => by
  obtain ⟨b, hb, e⟩ := a r hr z
  refine ⟨⟨b, by omega, e⟩, ?_⟩
  unfold mv_go sp_go
  rw [if_pos hr, e, hL0]
  exact go1_nI hL hb _ _ _
theorem gl.go {h : Am_H} {m n L : Nat} {f : Nat → Int32} (hL0 : am_I h m 0 = nI L) (hL : L ≤ 20) (a : gl L n f) : gl L n (sp_at2 (am_I h m 0) n (mv_go h m n f)) := fun r hr z => by
  have e2 : sp_at2 (am_I h m 0) n (mv_go h m n f) r = if mv_go h m n f r = nI L then -1 else mv_go h m n f r := by
    unfold sp_at2
    rw [hL0]
    by_cases w : mv_go h m n f r = nI L
    · rw [if_pos ⟨hr, w⟩, if_pos w]
    · rw [if_neg (fun y => w y.2), if_neg w]
  rw [e2] at z ⊢
  by_cases w : mv_go h m n f r = nI L
  · rw [if_pos w] at z; exact absurd rfl z
  · rw [if_neg w] at z ⊢
    have eg : mv_go h m n f r = sp_go1 (nI L) (am_I h m 3) (am_I h (m + 1) r) (am_I h (m + 3) r) (f r) := by
      unfold mv_go sp_go
      rw [if_pos hr, hL0]
    by_cases y : f r = -1
    · exact absurd (by rw [eg, sp_go1, if_pos y]) z
    · obtain ⟨b, hb, e⟩ := a r hr y
      rw [e] at eg
      obtain ⟨c, hc, ec⟩ := go1_nI hL hb (am_I h m 3) (am_I h (m + 1) r) (am_I h (m + 3) r)
      rw [eg, ec] at w ⊢
      exact ⟨c, Nat.lt_of_le_of_ne hc (fun u => w (by rw [u])), rfl⟩
/-- starts with other glasses: the same starts -/
theorem sd_slip {L needs : Int32} {n : Nat} {pull glass rule sl : Nat → Int32} {s0 : Sp_d} (hn : n ≤ 3) (h0 : s0.2.2.2 = 0) : ∀ k, k ≤ n → (sp_sd L needs n pull (fun r => glass r + sl r) rule s0 k).1 = (sp_sd L needs n pull glass rule s0 k).1 ∧ (sp_sd L needs n pull (fun r => glass r + sl r) rule s0 k).2.2 = (sp_sd L needs n pull glass rule s0 k).2.2 ∧ (∃ B, B < 2 ^ k ∧ (sp_sd L needs n pull glass rule s0 k).2.2.2 = nI B) ∧ (∀ r, k ≤ r → (sp_sd L needs n pull (fun r => glass r + sl r) rule s0 k).2.1 r = (sp_sd L needs n pull glass rule s0 k).2.1 r) ∧ ∀ r, r < k → (sp_sd L needs n pull (fun r => glass r + sl r) rule s0 k).2.1 r = if ¬ ((sp_sd L needs n pull glass rule s0 k).2.2.2 >>> (nI r &&& 31)) &&& 1 = 0 then (sp_sd L needs n pull glass rule s0 k).2.1 r + sl r else (sp_sd L needs n pull glass rule s0 k).2.1 r := by
  intro k
  induction k with
  | zero => intro _; exact ⟨rfl, rfl, ⟨0, by omega, h0⟩, fun r _ => rfl, fun r hr => by omega⟩
  | succ k ih =>
    intro hk
    obtain ⟨i1, i2, ⟨B, hB, eB⟩, i3, i4⟩ := ih (by omega)
    rw [sp_sd, sp_sd]
    generalize sp_sd L needs n pull (fun r => glass r + sl r) rule s0 k = t at *
    generalize sp_sd L needs n pull glass rule s0 k = s at *
    have hB8 : B < 8 := Nat.lt_of_lt_of_le hB (Nat.pow_le_pow_right (n := 2) (by omega) (show k ≤ 3 by omega))
    have hd : sp_due L needs n pull rule t k ↔ sp_due L needs n pull rule s k := by
      unfold sp_due
      rw [i1, i2, i3 k (Nat.le_refl _)]
    by_cases z : sp_due L needs n pull rule s k
    · rw [if_pos z, if_pos (hd.mpr z)]
      have hor : s.2.2.2 ||| ((1 : Int32) <<< (nI k &&& 31)) = nI (B ||| 2 ^ k) := by rw [eB, bt_or B hB8 k (by omega)]
      have hlt : B ||| 2 ^ k < 2 ^ (k + 1) := Nat.or_lt_two_pow (Nat.lt_of_lt_of_le hB (Nat.pow_le_pow_right (by omega) (by omega))) (Nat.pow_lt_pow_right (by omega) (by omega))
      have h8 : B ||| 2 ^ k < 8 := Nat.lt_of_lt_of_le hlt (Nat.pow_le_pow_right (n := 2) (by omega) (show k + 1 ≤ 3 by omega))
      refine ⟨?_, ?_, ⟨B ||| 2 ^ k, hlt, hor⟩, fun r hr => ?_, fun r hr => ?_⟩
      · show sp_upd t.1 k 0 = sp_upd s.1 k 0
        rw [i1]
      · show (nI k, t.2.2.2 ||| _) = (nI k, s.2.2.2 ||| _)
        rw [i2]
      · show sp_upd t.2.1 k _ r = sp_upd s.2.1 k _ r
        unfold sp_upd
        rw [if_neg (by omega), if_neg (by omega)]
        exact i3 r (by omega)
      · show sp_upd t.2.1 k _ r = if ¬ ((s.2.2.2 ||| _) >>> _) &&& 1 = 0 then sp_upd s.2.1 k _ r + sl r else sp_upd s.2.1 k _ r
        rw [hor]
        have b1 := bt_at _ h8 r (by omega)
        have b2 := bt_at B hB8 r (by omega)
        have i5 := i4 r
        rw [eB] at i5
        rw [Nat.testBit_or] at b1
        unfold sp_upd
        by_cases y : r = k
        · subst y
          rw [Nat.testBit_two_pow_self, Bool.or_true] at b1
          rw [if_pos rfl, if_pos rfl, if_pos (fun w => absurd (b1.mp w) (by decide))]
        · rw [Nat.testBit_two_pow_of_ne (fun w => y w.symm), Bool.or_false] at b1
          rw [if_neg y, if_neg y, i5 (by omega)]
          by_cases u : B.testBit r = false
          · rw [if_neg (fun w => w (b2.mpr u)), if_neg (fun w => w (b1.mpr u))]
          · rw [if_pos (fun w => u (b2.mp w)), if_pos (fun w => u (b1.mp w))]
    · rw [if_neg z, if_neg (fun w => z (hd.mp w))]
      refine ⟨i1, i2, ⟨B, Nat.lt_of_lt_of_le hB (Nat.pow_le_pow_right (by omega) (by omega)), eB⟩, fun r hr => i3 r (by omega), fun r hr => ?_⟩
      by_cases y : r = k
      · subst y
        have tb : B.testBit r = false := Nat.testBit_lt_two_pow hB
        rw [i3 r (Nat.le_refl _), eB, if_neg (fun w => w ((bt_at B hB8 r (by omega)).mpr tb))]
      · exact i4 r (by omega)
theorem gl_sd {L n : Nat} {Li needs : Int32} {pull glass rule : Nat → Int32} {s0 : Sp_d} (hL : 0 < L) (a : gl L n s0.1) : ∀ k, gl L n (sp_sd Li needs n pull glass rule s0 k).1 := by
  intro k
  induction k with
  | zero => exact a
  | succ k ih =>
    rw [sp_sd]
    generalize sp_sd Li needs n pull glass rule s0 k = s at ih ⊢
    by_cases z : sp_due Li needs n pull rule s k
    · rw [if_pos z]
      intro r hr w
      have w : ¬ sp_upd s.1 k 0 r = -1 := w
      show ∃ a, a < L ∧ sp_upd s.1 k 0 r = nI a
      unfold sp_upd at *
      by_cases y : r = k
      · rw [if_pos y]; exact ⟨0, hL, rfl⟩
      · rw [if_neg y] at *; exact ih r hr w
    · rw [if_neg z]; exact ih
theorem gl_pass {h : Am_H} {m n L : Nat} {f g : Nat → Int32} {x : Int32} (hL0 : am_I h m 0 = nI L) (hL : L ≤ 20) (h1 : 0 < L) (a : gl L n f) : gl L n (mv_pass h m n f g x).1 := gl_sd h1 (a.go hL0 hL) n
/-- what the model's day holds to besides -/
def md_ok (L n : Nat) (y : Dst) : Prop := (y.2.2.2.2.1 = 0 → gl L n y.1) ∧ ∀ k ∈ y.2.2.2.2.2.2, gl L n (dk_at k.1)
theorem md_ok_by {h : Am_H} {m n L : Nat} {sl : Nat → Int32} {y : Dst} (hL0 : am_I h m 0 = nI L) (hL : L ≤ 20) (h1 : 0 < L) (hn : n ≤ 3) (ok : ds_ok y) (a : md_ok L n y) (h0 : y.2.2.2.2.1 = 0) : md_ok L n (ds_by h m n sl y) := by
  have hg := (gk_K (ok.1 h0)).2.1
  have hmem : ∀ k ∈ ((sp_K y.1 y.2.1 y.2.2.1, y.2.2.2.1) :: y.2.2.2.2.2.2).take 300, gl L n (dk_at k.1) := by
    intro k hk2
    rcases List.mem_cons.mp (List.mem_of_mem_take hk2) with rfl | h1
    · exact (a.1 h0).c (fun r hr => (hg r (by omega)).symm)
    · exact a.2 k h1
  unfold ds_by
  by_cases z : mv_harm h m n y.1 = 0
  · rw [if_pos z]
    exact ⟨fun _ => gl_pass hL0 hL h1 (a.1 h0), hmem⟩
  · rw [if_neg z]
    exact ⟨fun w => absurd w z, hmem⟩
theorem md_ok_back {L n : Nat} {y : Dst} (a : md_ok L n y) : md_ok L n (ds_back y) := by
  unfold ds_back
  split
  · exact a
  · rename_i k r hl
    have a2 := a.2
    rw [hl] at a2
    exact ⟨fun _ => a2 k List.mem_cons_self, fun k2 hk2 => a2 k2 (List.mem_cons_of_mem _ hk2)⟩
theorem nI_mul (a b : Nat) : nI a * nI b = nI (a * b) := (Int32.ofNat_mul a b).symm
theorem nI_div {a b : Nat} (ha : a < 2 ^ 31) (hb : b < 2 ^ 31) : nI a / nI b = nI (a / b) := by
  apply Int32.toInt_inj.mp
  have h1 : a / b ≤ a := Nat.div_le_self a b
  rw [Int32.toInt_div, nI_toInt ha, nI_toInt hb, nI_toInt (by omega), ← Int.ofNat_tdiv]
  have h2 : ((a / b : Nat) : Int) ≤ a := by exact_mod_cast h1
  have h3 : (0 : Int) ≤ ((a / b : Nat) : Int) := Int.natCast_nonneg _
  generalize ((a / b : Nat) : Int) = q at h2 h3 ⊢
  exact Int.bmod_eq_of_le (by omega) (by omega)
theorem nI_rem {a b : Nat} (ha : a < 2 ^ 31) (hb : b < 2 ^ 31) : nI a - nI a / nI b * nI b = nI (a % b) := by
  rw [nI_div ha hb, nI_mul, nI_sub (Nat.div_mul_le_self a b), Nat.mod_def, Nat.mul_comm]
