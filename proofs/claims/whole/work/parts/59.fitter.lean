/-! Fitter: what a search gives, unbounded; rowsFrom -/
def is_Fitter (h : Am_H) (T : Nat) : Prop := am_S h T = (1, 2) ∧ (am_P h T 0 = some (T + 1) ∧ am_P h T 1 = some (T + 6)) ∧ am_S h (T + 6) = (2, 201) ∧ is_Cars h (T + 1)
theorem is_Fitter.fq {h h' : Am_H} {X Y : Nat → Prop} {c : Nat} (a : is_Fitter h c) (b : am_fq h h' X Y) : is_Fitter h' c := ⟨by rw [b.1]; exact a.1, by rw [b.2.1]; exact a.2.1, by rw [b.1]; exact a.2.2.1, a.2.2.2.fq b⟩
/-- from a key on, second by second, till rows are known, or one starts -/
noncomputable def fw (h : Am_H) (m n : Nat) (told : Nat → Int32) (e : Nat) : Nat → Nat → (Nat → Int32) → (Nat → Int32) → Int32 → Nat ⊕ (Nat × Sp_d)
  | 0, _, _, _, _ => .inl 1
  | j + 1, s, at_, left, last => if s ≤ e ∧ s < 201 then (if mv_harm h m n at_ = 0 ∧ mv_arr h m n at_ = told s then (if (mv_pass h m n at_ left last).2.2.2 = 0 then fw h m n told e j (s + 1) (mv_pass h m n at_ left last).1 (mv_pass h m n at_ left last).2.1 (mv_pass h m n at_ left last).2.2.1 else .inr (s, mv_pass h m n at_ left last)) else .inl 0) else .inl 1
/-- the lowest rope of a set -/
def lo_r (B : Nat) : Nat := if B % 2 = 1 then 0 else if B / 2 % 2 = 1 then 1 else 2
def sm (f : Nat → Nat × Nat) : Nat → Nat × Nat
  | 0 => (0, 0)
  | k + 1 => ((sm f k).1 + (f k).1, (sm f k).2 + 1 + (f k).2)
noncomputable def FB (h : Am_H) (m n : Nat) (told : Nat → Int32) (e : Nat) : Nat → Nat → Nat → Nat → Nat × Nat
  | 0, _, _, _ => (0, 0)
  | k + 1, key, B, s => sm (fun slip => if B - 2 ^ lo_r B = 0 then (match fw h m n told e 201 (s + 1) (dk_at (key + slip * 2 ^ (7 + lo_r B * 11))) (dk_lf (key + slip * 2 ^ (7 + lo_r B * 11))) (dk_ls (key + slip * 2 ^ (7 + lo_r B * 11))) with
      | .inl r => (r, 0)
      | .inr (s', p) => FB h m n told e k (sp_K p.1 p.2.1 p.2.2.1) p.2.2.2.toNatClampNeg s')
    else FB h m n told e k (key + slip * 2 ^ (7 + lo_r B * 11)) (B - 2 ^ lo_r B) s) ((am_I h (m + 5) (lo_r B)).toNatClampNeg + 1)
noncomputable def FT (h : Am_H) (m n : Nat) (told : Nat → Int32) (e k key s : Nat) : Nat × Nat := match fw h m n told e 201 (s + 1) (dk_at key) (dk_lf key) (dk_ls key) with
  | .inl r => (r, 0)
  | .inr (s', p) => FB h m n told e k (sp_K p.1 p.2.1 p.2.2.1) p.2.2.2.toNatClampNeg s'
def X_fit (T : Nat) : Nat → Prop := fun q => T ≤ q ∧ q ≤ T + 5
/-- what a search leaves: rows, and turns, if turns suffice; else too many turns -/
def q_fit (h h' : Am_H) (T t : Nat) (RT : Nat × Nat) (x : Int32) : Prop := am_fr h h' (X_fit T) ∧ am_I h' T 2 = am_I h T 2 ∧ ∃ t', am_I h' T 3 = nI t' ∧ t ≤ t' ∧ t' ≤ 20001 ∧ (t + RT.2 ≤ 20000 → x = nI RT.1 ∧ t' = t + RT.2) ∧ (20000 < t + RT.2 → 20000 < t')
