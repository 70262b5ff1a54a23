/-! keys as states -/
def dk_at (x r : Nat) : Int32 := nI (x / (4 * 2048 ^ r) % 32) - 1
def dk_lf (x r : Nat) : Int32 := nI (x / (128 * 2048 ^ r) % 64)
def dk_ls (x : Nat) : Int32 := nI (x % 4) - 1
def sp_K (at_ left : Nat → Int32) (last : Int32) : Nat := sp_keyN (fun r => (at_ r + 1).toNatClampNeg) (fun r => (left r).toNatClampNeg) (last + 1).toNatClampNeg
theorem sp_K_c {f g f' g' : Nat → Int32} {x : Int32} (e : e3 f g) (e' : e3 f' g') : sp_K f f' x = sp_K g g' x := by
  unfold sp_K sp_keyN
  simp only [e 0 (by omega), e 1 (by omega), e 2 (by omega), e' 0 (by omega), e' 1 (by omega), e' 2 (by omega)]
theorem sp_gd_fit {at_ left : Nat → Int32} {last : Int32} (hg : sp_gd at_ left last) : sp_fit at_ left last (fun r => (at_ r + 1).toNatClampNeg) (fun r => (left r).toNatClampNeg) (last + 1).toNatClampNeg := by
  obtain ⟨a, b, w, hr, hw, hw4⟩ := hg
  refine ⟨fun r hr3 => ?_, ?_⟩
  · obtain ⟨r1, r2, r3, r4⟩ := hr r hr3
    show _ = nI (at_ r + 1).toNatClampNeg ∧ (at_ r + 1).toNatClampNeg < 32 ∧ _ = nI (left r).toNatClampNeg ∧ (left r).toNatClampNeg < 64
    rw [r1, r3, nI_clamp (by omega), nI_clamp (by omega)]
    exact ⟨rfl, by omega, rfl, by omega⟩
  · rw [hw, nI_clamp (by omega)]
    exact ⟨rfl, hw4⟩
theorem dk_of {a b : Nat → Nat} {w : Nat} (ha : ∀ r, r < 3 → a r < 32 ∧ b r < 64) (hw : w < 4) : (∀ r, r < 3 → dk_at (sp_keyN a b w) r = nI (a r) - 1 ∧ dk_lf (sp_keyN a b w) r = nI (b r)) ∧ dk_ls (sp_keyN a b w) = nI w - 1 ∧ sp_keyN a b w < 2 ^ 60 := by
  obtain ⟨a0, b0⟩ := ha 0 (by omega)
  obtain ⟨a1, b1⟩ := ha 1 (by omega)
  obtain ⟨a2, b2⟩ := ha 2 (by omega)
  unfold dk_at dk_lf dk_ls sp_keyN
  refine ⟨fun r hr => ?_, ?_, by omega⟩
  · rcases (show r = 0 ∨ r = 1 ∨ r = 2 by omega) with rfl | rfl | rfl
    · simp only [Nat.reducePow, Nat.reduceMul]
      exact ⟨congrArg (fun z => nI z - 1) (by omega), congrArg nI (by omega)⟩
    · simp only [Nat.reducePow, Nat.reduceMul]
      exact ⟨congrArg (fun z => nI z - 1) (by omega), congrArg nI (by omega)⟩
    · simp only [Nat.reducePow, Nat.reduceMul]
      exact ⟨congrArg (fun z => nI z - 1) (by omega), congrArg nI (by omega)⟩
  · congr 2
    omega
/-- a key whose state stays in bounds -/
def gk (x : Nat) : Prop := x < 2 ^ 60 ∧ sp_gd (dk_at x) (dk_lf x) (dk_ls x)
theorem gk_of {a b : Nat → Nat} {w : Nat} (ha : ∀ r, r < 3 → a r ≤ 20 ∧ b r ≤ 33) (hw : w < 4) : gk (sp_keyN a b w) := by
  obtain ⟨q1, q2, q3⟩ := dk_of (a := a) (b := b) (w := w) (fun r hr => by have := ha r hr; omega) hw
  refine ⟨q3, a, b, w, fun r hr => ?_, ?_, hw⟩
  · obtain ⟨c1, c2⟩ := q1 r hr
    have := ha r hr
    refine ⟨by rw [c1, Int32.sub_add_cancel], this.1, c2, this.2⟩
  · rw [q2, Int32.sub_add_cancel]
theorem gk_K {at_ left : Nat → Int32} {last : Int32} (hg : sp_gd at_ left last) : gk (sp_K at_ left last) ∧ e3 (dk_at (sp_K at_ left last)) at_ ∧ e3 (dk_lf (sp_K at_ left last)) left ∧ dk_ls (sp_K at_ left last) = last := by
  obtain ⟨a, b, w, hr, hw, hw4⟩ := hg
  have ek : sp_K at_ left last = sp_keyN a b w := by
    unfold sp_K sp_keyN
    obtain ⟨a0, a0', b0, b0'⟩ := hr 0 (by omega)
    obtain ⟨a1, a1', b1, b1'⟩ := hr 1 (by omega)
    obtain ⟨a2, a2', b2, b2'⟩ := hr 2 (by omega)
    simp only [a0, a1, a2, b0, b1, b2, hw]
    rw [nI_clamp (by omega), nI_clamp (by omega), nI_clamp (by omega), nI_clamp (by omega), nI_clamp (by omega), nI_clamp (by omega), nI_clamp (by omega)]
  rw [ek]
  obtain ⟨q1, q2, q3⟩ := dk_of (a := a) (b := b) (w := w) (fun r hr3 => by have := hr r hr3; omega) hw4
  refine ⟨gk_of (fun r hr3 => ⟨(hr r hr3).2.1, (hr r hr3).2.2.2⟩) hw4, fun r hr3 => ?_, fun r hr3 => ?_, ?_⟩
  · rw [(q1 r hr3).1, fq_neg (hr r hr3).1]
  · rw [(q1 r hr3).2, (hr r hr3).2.2.1]
  · rw [q2, fq_neg hw]
theorem bt_or : ∀ B, B < 8 → ∀ k, k < 3 → nI B ||| ((1 : Int32) <<< (nI k &&& 31)) = nI (B ||| 2 ^ k) := by decide +kernel
theorem bt_at : ∀ B, B < 8 → ∀ r, r < 3 → ((nI B >>> (nI r &&& 31)) &&& 1 = 0 ↔ B.testBit r = false) := by decide +kernel
/-- the bits of those that started -/
theorem sp_sd_bits {L needs : Int32} {n : Nat} {pull glass rule : Nat → Int32} {f g : Nat → Int32} {x : Int32} (hn : n ≤ 3) : ∀ k, k ≤ n → ∃ B, B < 8 ∧ (sp_sd L needs n pull glass rule (f, g, x, 0) k).2.2.2 = nI B ∧ ∀ r, B.testBit r = true → r < k ∧ (sp_sd L needs n pull glass rule (f, g, x, 0) k).2.1 r = glass r := by
  intro k
  induction k with
  | zero => intro _; exact ⟨0, by omega, rfl, fun r hr => absurd hr (by simp)⟩
  | succ k ih =>
    intro hk
    obtain ⟨B, hB, e, q⟩ := ih (by omega)
    rw [sp_sd]
    generalize sp_sd L needs n pull glass rule (f, g, x, 0) k = s at e q ⊢
    by_cases z : sp_due L needs n pull rule s k
    · rw [if_pos z]
      refine ⟨B ||| 2 ^ k, Nat.or_lt_two_pow (n := 3) hB (Nat.pow_lt_pow_right (by omega) (by omega)), ?_, fun r hr => ?_⟩
      · show s.2.2.2 ||| _ = _
        rw [e, bt_or B hB k (by omega)]
      · show _ ∧ sp_upd s.2.1 k (glass k) r = glass r
        unfold sp_upd
        by_cases y : r = k
        · rw [if_pos y, y]
          exact ⟨by omega, rfl⟩
        · rw [if_neg y]
          rw [Nat.testBit_or, Nat.testBit_two_pow_of_ne (fun w => y w.symm), Bool.or_false] at hr
          exact ⟨by have := (q r hr).1; omega, (q r hr).2⟩
    · rw [if_neg z]
      exact ⟨B, hB, e, fun r hr => ⟨by have := (q r hr).1; omega, (q r hr).2⟩⟩
