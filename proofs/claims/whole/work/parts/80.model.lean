/-! the model: its object at M and its rows behind it (made by a program) -/
def mdT : List (Nat × Nat × Nat) := [(3, 3, 10), (4, 4, 6), (5, 5, 6), (6, 6, 6), (7, 7, 6), (8, 8, 6), (9, 9, 6), (10, 10, 3), (11, 11, 400), (22, 12, 7), (23, 13, 3), (24, 14, 3), (28, 15, 2100), (29, 16, 300), (31, 17, 28000), (32, 18, 4000), (33, 19, 4000), (34, 20, 16384), (35, 21, 7), (36, 22, 7), (39, 23, 4000), (41, 24, 4000), (42, 25, 32000), (43, 26, 4000), (44, 27, 8), (45, 28, 61), (50, 29, 8), (51, 30, 8), (52, 31, 1414), (53, 32, 2), (54, 33, 2), (61, 34, 7), (62, 35, 3), (63, 36, 2100), (64, 37, 300), (65, 38, 8), (66, 39, 8), (67, 40, 3)]
def is_Model (h : Am_H) (M : Nat) : Prop := am_S h M = (1, 10) ∧ (am_P h M 0 = some (M + 1) ∧ am_P h M 1 = some (M + 2) ∧ am_S h (M + 1) = (5, 4) ∧ am_S h (M + 2) = (5, 4) ∧ (∀ i, i < 4 → am_P h (M + 1) i = some (25 + i)) ∧ ∀ i, i < 4 → am_P h (M + 2) i = some (29 + i)) ∧ ∀ q ∈ mdT, am_P h M q.1 = some (M + q.2.1) ∧ am_S h (M + q.2.1) = (2, q.2.2)
theorem is_Model.fr {h h' : Am_H} {X : Nat → Prop} {M : Nat} (a : is_Model h M) (b : am_fr h h' X) : is_Model h' M := by
  unfold is_Model
  rw [b.1, b.2.1]
  exact a
theorem is_Model.fq {h h' : Am_H} {X Y : Nat → Prop} {M : Nat} (a : is_Model h M) (b : am_fq h h' X Y) : is_Model h' M := by
  unfold is_Model
  rw [b.1, b.2.1]
  exact a
theorem mp_told {h : Am_H} {M : Nat} (a : is_Model h M) : am_P h M 3 = some (M + 3) := (a.2.2 (3, 3, 10) (by decide)).1
theorem ms_told {h : Am_H} {M : Nat} (a : is_Model h M) : am_S h (M + 3) = (2, 10) := (a.2.2 (3, 3, 10) (by decide)).2
theorem mp_kind {h : Am_H} {M : Nat} (a : is_Model h M) : am_P h M 4 = some (M + 4) := (a.2.2 (4, 4, 6) (by decide)).1
theorem ms_kind {h : Am_H} {M : Nat} (a : is_Model h M) : am_S h (M + 4) = (2, 6) := (a.2.2 (4, 4, 6) (by decide)).2
theorem mp_load {h : Am_H} {M : Nat} (a : is_Model h M) : am_P h M 5 = some (M + 5) := (a.2.2 (5, 5, 6) (by decide)).1
theorem ms_load {h : Am_H} {M : Nat} (a : is_Model h M) : am_S h (M + 5) = (2, 6) := (a.2.2 (5, 5, 6) (by decide)).2
theorem mp_empty {h : Am_H} {M : Nat} (a : is_Model h M) : am_P h M 6 = some (M + 6) := (a.2.2 (6, 6, 6) (by decide)).1
theorem ms_empty {h : Am_H} {M : Nat} (a : is_Model h M) : am_S h (M + 6) = (2, 6) := (a.2.2 (6, 6, 6) (by decide)).2
theorem mp_glass {h : Am_H} {M : Nat} (a : is_Model h M) : am_P h M 7 = some (M + 7) := (a.2.2 (7, 7, 6) (by decide)).1
theorem ms_glass {h : Am_H} {M : Nat} (a : is_Model h M) : am_S h (M + 7) = (2, 6) := (a.2.2 (7, 7, 6) (by decide)).2
theorem mp_slips {h : Am_H} {M : Nat} (a : is_Model h M) : am_P h M 8 = some (M + 8) := (a.2.2 (8, 8, 6) (by decide)).1
theorem ms_slips {h : Am_H} {M : Nat} (a : is_Model h M) : am_S h (M + 8) = (2, 6) := (a.2.2 (8, 8, 6) (by decide)).2
theorem mp_rule {h : Am_H} {M : Nat} (a : is_Model h M) : am_P h M 9 = some (M + 9) := (a.2.2 (9, 9, 6) (by decide)).1
theorem ms_rule {h : Am_H} {M : Nat} (a : is_Model h M) : am_S h (M + 9) = (2, 6) := (a.2.2 (9, 9, 6) (by decide)).2
theorem mp_status {h : Am_H} {M : Nat} (a : is_Model h M) : am_P h M 10 = some (M + 10) := (a.2.2 (10, 10, 3) (by decide)).1
theorem ms_status {h : Am_H} {M : Nat} (a : is_Model h M) : am_S h (M + 10) = (2, 3) := (a.2.2 (10, 10, 3) (by decide)).2
theorem mp_tape {h : Am_H} {M : Nat} (a : is_Model h M) : am_P h M 11 = some (M + 11) := (a.2.2 (11, 11, 400) (by decide)).1
theorem ms_tape {h : Am_H} {M : Nat} (a : is_Model h M) : am_S h (M + 11) = (2, 400) := (a.2.2 (11, 11, 400) (by decide)).2
theorem mp_now {h : Am_H} {M : Nat} (a : is_Model h M) : am_P h M 22 = some (M + 12) := (a.2.2 (22, 12, 7) (by decide)).1
theorem ms_now {h : Am_H} {M : Nat} (a : is_Model h M) : am_S h (M + 12) = (2, 7) := (a.2.2 (22, 12, 7) (by decide)).2
theorem mp_slip {h : Am_H} {M : Nat} (a : is_Model h M) : am_P h M 23 = some (M + 13) := (a.2.2 (23, 13, 3) (by decide)).1
theorem ms_slip {h : Am_H} {M : Nat} (a : is_Model h M) : am_S h (M + 13) = (2, 3) := (a.2.2 (23, 13, 3) (by decide)).2
theorem mp_was {h : Am_H} {M : Nat} (a : is_Model h M) : am_P h M 24 = some (M + 14) := (a.2.2 (24, 14, 3) (by decide)).1
theorem ms_was {h : Am_H} {M : Nat} (a : is_Model h M) : am_S h (M + 14) = (2, 3) := (a.2.2 (24, 14, 3) (by decide)).2
theorem mp_rows {h : Am_H} {M : Nat} (a : is_Model h M) : am_P h M 28 = some (M + 15) := (a.2.2 (28, 15, 2100) (by decide)).1
theorem ms_rows {h : Am_H} {M : Nat} (a : is_Model h M) : am_S h (M + 15) = (2, 2100) := (a.2.2 (28, 15, 2100) (by decide)).2
theorem mp_ores {h : Am_H} {M : Nat} (a : is_Model h M) : am_P h M 29 = some (M + 16) := (a.2.2 (29, 16, 300) (by decide)).1
theorem ms_ores {h : Am_H} {M : Nat} (a : is_Model h M) : am_S h (M + 16) = (2, 300) := (a.2.2 (29, 16, 300) (by decide)).2
theorem mp_states {h : Am_H} {M : Nat} (a : is_Model h M) : am_P h M 31 = some (M + 17) := (a.2.2 (31, 17, 28000) (by decide)).1
theorem ms_states {h : Am_H} {M : Nat} (a : is_Model h M) : am_S h (M + 17) = (2, 28000) := (a.2.2 (31, 17, 28000) (by decide)).2
theorem mp_stsec {h : Am_H} {M : Nat} (a : is_Model h M) : am_P h M 32 = some (M + 18) := (a.2.2 (32, 18, 4000) (by decide)).1
theorem ms_stsec {h : Am_H} {M : Nat} (a : is_Model h M) : am_S h (M + 18) = (2, 4000) := (a.2.2 (32, 18, 4000) (by decide)).2
theorem mp_next {h : Am_H} {M : Nat} (a : is_Model h M) : am_P h M 33 = some (M + 19) := (a.2.2 (33, 19, 4000) (by decide)).1
theorem ms_next {h : Am_H} {M : Nat} (a : is_Model h M) : am_S h (M + 19) = (2, 4000) := (a.2.2 (33, 19, 4000) (by decide)).2
theorem mp_heads {h : Am_H} {M : Nat} (a : is_Model h M) : am_P h M 34 = some (M + 20) := (a.2.2 (34, 20, 16384) (by decide)).1
theorem ms_heads {h : Am_H} {M : Nat} (a : is_Model h M) : am_S h (M + 20) = (2, 16384) := (a.2.2 (34, 20, 16384) (by decide)).2
theorem mp_row {h : Am_H} {M : Nat} (a : is_Model h M) : am_P h M 35 = some (M + 21) := (a.2.2 (35, 21, 7) (by decide)).1
theorem ms_row {h : Am_H} {M : Nat} (a : is_Model h M) : am_S h (M + 21) = (2, 7) := (a.2.2 (35, 21, 7) (by decide)).2
theorem mp_then {h : Am_H} {M : Nat} (a : is_Model h M) : am_P h M 36 = some (M + 22) := (a.2.2 (36, 22, 7) (by decide)).1
theorem ms_then {h : Am_H} {M : Nat} (a : is_Model h M) : am_S h (M + 22) = (2, 7) := (a.2.2 (36, 22, 7) (by decide)).2
theorem mp_far {h : Am_H} {M : Nat} (a : is_Model h M) : am_P h M 39 = some (M + 23) := (a.2.2 (39, 23, 4000) (by decide)).1
theorem ms_far {h : Am_H} {M : Nat} (a : is_Model h M) : am_S h (M + 23) = (2, 4000) := (a.2.2 (39, 23, 4000) (by decide)).2
theorem mp_brings {h : Am_H} {M : Nat} (a : is_Model h M) : am_P h M 41 = some (M + 24) := (a.2.2 (41, 24, 4000) (by decide)).1
theorem ms_brings {h : Am_H} {M : Nat} (a : is_Model h M) : am_S h (M + 24) = (2, 4000) := (a.2.2 (41, 24, 4000) (by decide)).2
theorem mp_behind {h : Am_H} {M : Nat} (a : is_Model h M) : am_P h M 42 = some (M + 25) := (a.2.2 (42, 25, 32000) (by decide)).1
theorem ms_behind {h : Am_H} {M : Nat} (a : is_Model h M) : am_S h (M + 25) = (2, 32000) := (a.2.2 (42, 25, 32000) (by decide)).2
theorem mp_best {h : Am_H} {M : Nat} (a : is_Model h M) : am_P h M 43 = some (M + 26) := (a.2.2 (43, 26, 4000) (by decide)).1
theorem ms_best {h : Am_H} {M : Nat} (a : is_Model h M) : am_S h (M + 26) = (2, 4000) := (a.2.2 (43, 26, 4000) (by decide)).2
theorem mp_first {h : Am_H} {M : Nat} (a : is_Model h M) : am_P h M 44 = some (M + 27) := (a.2.2 (44, 27, 8) (by decide)).1
theorem ms_first {h : Am_H} {M : Nat} (a : is_Model h M) : am_S h (M + 27) = (2, 8) := (a.2.2 (44, 27, 8) (by decide)).2
theorem mp_plan {h : Am_H} {M : Nat} (a : is_Model h M) : am_P h M 45 = some (M + 28) := (a.2.2 (45, 28, 61) (by decide)).1
theorem ms_plan {h : Am_H} {M : Nat} (a : is_Model h M) : am_S h (M + 28) = (2, 61) := (a.2.2 (45, 28, 61) (by decide)).2
theorem mp_trope {h : Am_H} {M : Nat} (a : is_Model h M) : am_P h M 50 = some (M + 29) := (a.2.2 (50, 29, 8) (by decide)).1
theorem ms_trope {h : Am_H} {M : Nat} (a : is_Model h M) : am_S h (M + 29) = (2, 8) := (a.2.2 (50, 29, 8) (by decide)).2
theorem mp_tat {h : Am_H} {M : Nat} (a : is_Model h M) : am_P h M 51 = some (M + 30) := (a.2.2 (51, 30, 8) (by decide)).1
theorem ms_tat {h : Am_H} {M : Nat} (a : is_Model h M) : am_S h (M + 30) = (2, 8) := (a.2.2 (51, 30, 8) (by decide)).2
theorem mp_fitrows {h : Am_H} {M : Nat} (a : is_Model h M) : am_P h M 52 = some (M + 31) := (a.2.2 (52, 31, 1414) (by decide)).1
theorem ms_fitrows {h : Am_H} {M : Nat} (a : is_Model h M) : am_S h (M + 31) = (2, 1414) := (a.2.2 (52, 31, 1414) (by decide)).2
theorem mp_broken {h : Am_H} {M : Nat} (a : is_Model h M) : am_P h M 53 = some (M + 32) := (a.2.2 (53, 32, 2) (by decide)).1
theorem ms_broken {h : Am_H} {M : Nat} (a : is_Model h M) : am_S h (M + 32) = (2, 2) := (a.2.2 (53, 32, 2) (by decide)).2
theorem mp_brnow {h : Am_H} {M : Nat} (a : is_Model h M) : am_P h M 54 = some (M + 33) := (a.2.2 (54, 33, 2) (by decide)).1
theorem ms_brnow {h : Am_H} {M : Nat} (a : is_Model h M) : am_S h (M + 33) = (2, 2) := (a.2.2 (54, 33, 2) (by decide)).2
theorem mp_nowT {h : Am_H} {M : Nat} (a : is_Model h M) : am_P h M 61 = some (M + 34) := (a.2.2 (61, 34, 7) (by decide)).1
theorem ms_nowT {h : Am_H} {M : Nat} (a : is_Model h M) : am_S h (M + 34) = (2, 7) := (a.2.2 (61, 34, 7) (by decide)).2
theorem mp_slipT {h : Am_H} {M : Nat} (a : is_Model h M) : am_P h M 62 = some (M + 35) := (a.2.2 (62, 35, 3) (by decide)).1
theorem ms_slipT {h : Am_H} {M : Nat} (a : is_Model h M) : am_S h (M + 35) = (2, 3) := (a.2.2 (62, 35, 3) (by decide)).2
theorem mp_rowsT {h : Am_H} {M : Nat} (a : is_Model h M) : am_P h M 63 = some (M + 36) := (a.2.2 (63, 36, 2100) (by decide)).1
theorem ms_rowsT {h : Am_H} {M : Nat} (a : is_Model h M) : am_S h (M + 36) = (2, 2100) := (a.2.2 (63, 36, 2100) (by decide)).2
theorem mp_oresT {h : Am_H} {M : Nat} (a : is_Model h M) : am_P h M 64 = some (M + 37) := (a.2.2 (64, 37, 300) (by decide)).1
theorem ms_oresT {h : Am_H} {M : Nat} (a : is_Model h M) : am_S h (M + 37) = (2, 300) := (a.2.2 (64, 37, 300) (by decide)).2
theorem mp_tropeT {h : Am_H} {M : Nat} (a : is_Model h M) : am_P h M 65 = some (M + 38) := (a.2.2 (65, 38, 8) (by decide)).1
theorem ms_tropeT {h : Am_H} {M : Nat} (a : is_Model h M) : am_S h (M + 38) = (2, 8) := (a.2.2 (65, 38, 8) (by decide)).2
theorem mp_tatT {h : Am_H} {M : Nat} (a : is_Model h M) : am_P h M 66 = some (M + 39) := (a.2.2 (66, 39, 8) (by decide)).1
theorem ms_tatT {h : Am_H} {M : Nat} (a : is_Model h M) : am_S h (M + 39) = (2, 8) := (a.2.2 (66, 39, 8) (by decide)).2
theorem mp_statusT {h : Am_H} {M : Nat} (a : is_Model h M) : am_P h M 67 = some (M + 40) := (a.2.2 (67, 40, 3) (by decide)).1
theorem ms_statusT {h : Am_H} {M : Nat} (a : is_Model h M) : am_S h (M + 40) = (2, 3) := (a.2.2 (67, 40, 3) (by decide)).2
/-- a row of the model: three places, three glasses, who started last -/
def row_in (h : Am_H) (x : Nat) (at_ left : Nat → Int32) (last : Int32) : Prop := (∀ r, r < 3 → am_I h x r = at_ r ∧ am_I h x (3 + r) = left r) ∧ am_I h x 6 = last
/-- the model's mine is the mine at m, but for the glasses, which are gs -/
def mdg (gs : Nat → Int32) (h : Am_H) (M m n : Nat) : Prop := (am_I h (M + 3) 0 = am_I h m 0 ∧ am_I h (M + 3) 1 = am_I h m 1 ∧ am_I h (M + 3) 2 = nI n ∧ am_I h (M + 3) 3 = am_I h m 2 ∧ am_I h (M + 3) 4 = am_I h m 3) ∧ ∀ r, r < n → am_I h (M + 4) r = am_I h (m + 1) r ∧ am_I h (M + 5) r = am_I h (m + 2) r ∧ am_I h (M + 5) r - am_I h (M + 6) r = am_I h (m + 3) r ∧ am_I h (M + 7) r = gs r ∧ am_I h (M + 8) r = am_I h (m + 5) r ∧ am_I h (M + 9) r = am_I h (m + 6) r
/-- the model's mine is the mine at m -/
abbrev mdm (h : Am_H) (M m n : Nat) : Prop := mdg (am_I h (m + 4)) h M m n
/-- the model's own cells, from row 10 on (and its object) may change; the mine's rows stay -/
def X_md (M : Nat) : Nat → Prop := fun q => q = M ∨ (M + 10 ≤ q ∧ q ≤ M + 40)
theorem mdg.of {gs : Nat → Int32} {h h' : Am_H} {M m n : Nat} (a : mdg gs h M m n) (e : ∀ i, 3 ≤ i → i ≤ 9 → am_I h' (M + i) = am_I h (M + i)) (e2 : ∀ i, i ≤ 6 → am_I h' (m + i) = am_I h (m + i)) : mdg gs h' M m n := by
  have f0 := e2 0 (by omega)
  rw [Nat.add_zero] at f0
  unfold mdg
  rw [e 3 (by omega) (by omega), e 4 (by omega) (by omega), e 5 (by omega) (by omega), e 6 (by omega) (by omega), e 7 (by omega) (by omega), e 8 (by omega) (by omega), e 9 (by omega) (by omega), f0, e2 1 (by omega), e2 2 (by omega), e2 3 (by omega), e2 5 (by omega), e2 6 (by omega)]
  exact a
theorem mdg.fr {gs : Nat → Int32} {h h' : Am_H} {X : Nat → Prop} {M m n : Nat} (a : mdg gs h M m n) (e : am_fr h h' X) (h1 : ∀ i, 3 ≤ i → i ≤ 9 → ¬ X (M + i)) (h2 : ∀ i, i ≤ 6 → ¬ X (m + i)) : mdg gs h' M m n := a.of (fun i a b => e.f (h1 i a b)) (fun i a => e.f (h2 i a))
theorem mdm.of {h h' : Am_H} {M m n : Nat} (a : mdm h M m n) (e : ∀ i, 3 ≤ i → i ≤ 9 → am_I h' (M + i) = am_I h (M + i)) (e2 : ∀ i, i ≤ 6 → am_I h' (m + i) = am_I h (m + i)) : mdm h' M m n := by
  have := mdg.of a e e2
  rw [← e2 4 (by omega)] at this
  exact this
theorem mdm.fr {h h' : Am_H} {X : Nat → Prop} {M m n : Nat} (a : mdm h M m n) (e : am_fr h h' X) (h1 : ∀ i, 3 ≤ i → i ≤ 9 → ¬ X (M + i)) (h2 : ∀ i, i ≤ 6 → ¬ X (m + i)) : mdm h' M m n := a.of (fun i a b => e.f (h1 i a b)) (fun i a => e.f (h2 i a))
