/-! states: what depends only on three ropes; states that a key can hold -/
def e3 (f g : Nat → Int32) : Prop := ∀ r, r < 3 → f r = g r
theorem e3.rf {f : Nat → Int32} : e3 f f := fun _ _ => rfl
theorem e3.sy {f g : Nat → Int32} (h : e3 f g) : e3 g f := fun r hr => (h r hr).symm
theorem mv_go_c {h : Am_H} {m n : Nat} {f g : Nat → Int32} (e : e3 f g) : e3 (mv_go h m n f) (mv_go h m n g) := fun r hr => by
  unfold mv_go sp_go
  rw [e r hr]
theorem sp_pl_c {L : Int32} {f g : Nat → Int32} {i n : Nat} (e : e3 f g) (hi : i < 2 * n) (hn : n ≤ 3) : sp_pl L f i = sp_pl L g i := by
  unfold sp_pl
  rw [e (i / 2) (by omega)]
theorem mv_harm_c {h : Am_H} {m n : Nat} {f g : Nat → Int32} (e : e3 f g) (hn : n ≤ 3) : mv_harm h m n f = mv_harm h m n g := by
  unfold mv_harm
  refine sp_harm_congr (fun i hi => ?_) (fun i hi _ => sp_pl_c (mv_go_c e) hi hn)
  unfold sp_W
  rw [e (i / 2) (by omega), sp_pl_c e hi hn]
theorem sp_bits_c {P Q : Nat → Prop} {a0 : Int32} : ∀ n, (∀ r, r < n → (P r ↔ Q r)) → sp_bits P a0 n = sp_bits Q a0 n := by
  intro n
  induction n with
  | zero => intro _; rfl
  | succ n ih =>
    intro e
    unfold sp_bits
    rw [ih (fun r hr => e r (by omega)), propext (e n (by omega))]
theorem mv_arr_c {h : Am_H} {m n : Nat} {f g : Nat → Int32} (e : e3 f g) (hn : n ≤ 3) : mv_arr h m n f = mv_arr h m n g := sp_bits_c n (fun r hr => by rw [mv_go_c e r (by omega)])
theorem sp_oth_c {n : Nat} {f g : Nat → Int32} {x y : Int32} (e : e3 f g) (hn : n ≤ 3) : sp_oth f n x y ↔ sp_oth g n x y := by
  unfold sp_oth
  constructor
  · intro a r hr; rw [← e r (by omega)]; exact a r hr
  · intro a r hr; rw [e r (by omega)]; exact a r hr
theorem sp_allow_c {n : Nat} {f g : Nat → Int32} {x L y z : Int32} (e : e3 f g) (hn : n ≤ 3) : sp_allow x L n f y z ↔ sp_allow x L n g y z := by
  unfold sp_allow
  rw [sp_oth_c e hn, sp_oth_c e hn]
def d3 (s t : Sp_d) : Prop := e3 s.1 t.1 ∧ e3 s.2.1 t.2.1 ∧ s.2.2 = t.2.2
theorem sp_upd_c {f g : Nat → Int32} {k : Nat} {x : Int32} (e : e3 f g) : e3 (sp_upd f k x) (sp_upd g k x) := fun r hr => by
  unfold sp_upd
  rw [e r hr]
theorem sp_due_c {L needs : Int32} {n k : Nat} {pull rule : Nat → Int32} {s t : Sp_d} (e : d3 s t) (hn : n ≤ 3) (hk : k < 3) : sp_due L needs n pull rule s k ↔ sp_due L needs n pull rule t k := by
  unfold sp_due
  rw [e.1 k hk, e.2.1 k hk, e.2.2, sp_allow_c e.1 hn]
theorem sp_sd_c {L needs : Int32} {n : Nat} {pull glass rule : Nat → Int32} {s t : Sp_d} (e : d3 s t) (hn : n ≤ 3) : ∀ k, k ≤ 3 → d3 (sp_sd L needs n pull glass rule s k) (sp_sd L needs n pull glass rule t k) := by
  intro k
  induction k with
  | zero => intro _; exact e
  | succ k ih =>
    intro hk
    have i := ih (by omega)
    unfold sp_sd
    by_cases z : sp_due L needs n pull rule (sp_sd L needs n pull glass rule t k) k
    · rw [if_pos z, if_pos ((sp_due_c i hn (by omega)).mpr z)]
      refine ⟨sp_upd_c i.1, sp_upd_c i.2.1, ?_⟩
      show (_, _) = (_, _)
      rw [i.2.2]
    · rw [if_neg z, if_neg (fun w => z ((sp_due_c i hn (by omega)).mp w))]
      exact i
theorem sp_at2_c {L : Int32} {n : Nat} {f g : Nat → Int32} (e : e3 f g) : e3 (sp_at2 L n f) (sp_at2 L n g) := fun r hr => by
  unfold sp_at2
  rw [e r hr]
theorem sp_lf_c {n : Nat} {f g : Nat → Int32} (e : e3 f g) : e3 (sp_lf n f) (sp_lf n g) := fun r hr => by
  unfold sp_lf
  rw [e r hr]
theorem mv_pass_c {h : Am_H} {m n : Nat} {f g f' g' : Nat → Int32} {x : Int32} (e : e3 f g) (e' : e3 f' g') (hn : n ≤ 3) : d3 (mv_pass h m n f f' x) (mv_pass h m n g g' x) := by
  unfold mv_pass mv_sd
  exact sp_sd_c (s := (_, _, _, _)) (t := (_, _, _, _)) ⟨sp_at2_c (mv_go_c e), sp_lf_c e', rfl⟩ hn n hn
/-- a state that stays in a key's bounds -/
def sp_gd (at_ left : Nat → Int32) (last : Int32) : Prop := ∃ a b : Nat → Nat, ∃ w, (∀ r, r < 3 → at_ r + 1 = nI (a r) ∧ a r ≤ 20 ∧ left r = nI (b r) ∧ b r ≤ 33) ∧ last + 1 = nI w ∧ w < 4
def is_Good (h : Am_H) (m n L : Nat) : Prop := is_MineN h m n ∧ am_I h m 0 = nI L ∧ L ≤ 20 ∧ ∀ r, r < n → ∃ g s, am_I h (m + 4) r = nI g ∧ 1 ≤ g ∧ g ≤ 30 ∧ am_I h (m + 5) r = nI s ∧ s ≤ 3
theorem sp_pace_in (L fast kind pull x : Int32) : ∃ t, sp_pace L fast kind pull x = nI t ∧ 1 ≤ t ∧ t ≤ 3 := by
  unfold sp_pace
  repeat' split
  all_goals first | exact ⟨1, rfl, by omega, by omega⟩ | exact ⟨2, rfl, by omega, by omega⟩ | exact ⟨3, rfl, by omega, by omega⟩
theorem fq_neg {x : Int32} {a : Nat} (e : x + 1 = nI a) : x = nI a - 1 := by rw [← e, Int32.add_sub_cancel]
theorem fq_m1 {a : Nat} (ha : a < 2 ^ 31) : nI a = -1 → False := fun z => absurd (z ▸ nI_nn ha) (by decide)
theorem sp_go1_gd {L a : Nat} {fast kind pull x : Int32} (hL : L ≤ 20) (ha : a ≤ 20) (e : x + 1 = nI a) : ∃ a', sp_go1 (nI L) fast kind pull x + 1 = nI a' ∧ a' ≤ L + 1 := by
  have hx := fq_neg e
  unfold sp_go1
  rcases Nat.eq_zero_or_pos a with z | z
  · subst z
    rw [hx, if_pos (by decide)]
    exact ⟨0, rfl, by omega⟩
  · obtain ⟨p, rfl⟩ : ∃ p, a = p + 1 := ⟨a - 1, by omega⟩
    rw [fq_pred] at hx
    subst hx
    rw [if_neg (fq_m1 (by omega))]
    obtain ⟨t, ht, t1, t3⟩ := sp_pace_in (nI L) fast kind pull (nI p)
    rw [ht, nI_add, sp_min]
    by_cases q : nI (p + t) < nI L
    · rw [if_pos q, nI_1]
      exact ⟨_, rfl, by have := (nI_ltI (by omega) (by omega)).mp q; omega⟩
    · rw [if_neg q, nI_1]
      exact ⟨_, rfl, Nat.le_refl _⟩
theorem sp_gd_pass {h : Am_H} {m n L : Nat} {at_ left : Nat → Int32} {last : Int32} (hm : is_Good h m n L) (hg : sp_gd at_ left last) : sp_gd (mv_pass h m n at_ left last).1 (mv_pass h m n at_ left last).2.1 (mv_pass h m n at_ left last).2.2.1 := by
  obtain ⟨⟨-, hn, -⟩, hL, hL2, hgl⟩ := hm
  have : ∀ k, k ≤ n → sp_gd (mv_sd h m n (sp_at2 (am_I h m 0) n (mv_go h m n at_), sp_lf n left, last, 0) k).1 (mv_sd h m n (sp_at2 (am_I h m 0) n (mv_go h m n at_), sp_lf n left, last, 0) k).2.1 (mv_sd h m n (sp_at2 (am_I h m 0) n (mv_go h m n at_), sp_lf n left, last, 0) k).2.2.1 := by
    intro k
    induction k with
    | zero =>
      intro _
      obtain ⟨a, b, w, hr, hw⟩ := hg
      have ex : ∀ r, ∃ p : Nat × Nat, r < 3 → sp_at2 (am_I h m 0) n (mv_go h m n at_) r + 1 = nI p.1 ∧ p.1 ≤ 20 ∧ sp_lf n left r = nI p.2 ∧ p.2 ≤ 33 := by
        intro r
        by_cases hr3 : r < 3
        · obtain ⟨r1, r2, r3, r4⟩ := hr r hr3
          have hl : ∃ q, sp_lf n left r = nI q ∧ q ≤ 33 := by
            unfold sp_lf
            rw [r3]
            by_cases z : r < n
            · rw [if_pos z]
              rcases Nat.eq_zero_or_pos (b r) with y | y
              · rw [y, if_pos (by decide)]
                exact ⟨0, rfl, by omega⟩
              · rw [if_neg (nI_nle y (by omega))]
                obtain ⟨q, hq⟩ : ∃ q, b r = q + 1 := ⟨b r - 1, by omega⟩
                rw [hq, fq_pred]
                exact ⟨q, rfl, by omega⟩
            · rw [if_neg z]
              exact ⟨_, rfl, r4⟩
          obtain ⟨q, q1, q2⟩ := hl
          have ha : ∃ p, sp_at2 (am_I h m 0) n (mv_go h m n at_) r + 1 = nI p ∧ p ≤ 20 := by
            unfold sp_at2 mv_go sp_go
            by_cases z : r < n
            · rw [if_pos z, hL]
              obtain ⟨p, p1, p2⟩ := sp_go1_gd (L := L) (fast := am_I h m 3) (kind := am_I h (m + 1) r) (pull := am_I h (m + 3) r) hL2 r2 r1
              by_cases y : sp_go1 (nI L) (am_I h m 3) (am_I h (m + 1) r) (am_I h (m + 3) r) (at_ r) = nI L
              · rw [if_pos ⟨z, y⟩]
                exact ⟨0, rfl, by omega⟩
              · rw [if_neg (fun w => y w.2)]
                refine ⟨p, p1, ?_⟩
                have : p ≠ L + 1 := fun w => y (by
                  have := fq_neg p1
                  rw [w, fq_pred] at this
                  exact this)
                omega
            · rw [if_neg z, if_neg (fun w => z w.1)]
              exact ⟨_, r1, r2⟩
          obtain ⟨p, p1, p2⟩ := ha
          exact ⟨(p, q), fun _ => ⟨p1, p2, q1, q2⟩⟩
        · exact ⟨(0, 0), fun w => absurd w hr3⟩
      refine ⟨fun r => (Classical.choose (ex r)).1, fun r => (Classical.choose (ex r)).2, w, fun r hr3 => ?_, hw⟩
      exact Classical.choose_spec (ex r) hr3
    | succ k ih =>
      intro hk
      have i := ih (by omega)
      unfold mv_sd at i ⊢
      rw [sp_sd]
      generalize sp_sd (am_I h m 0) (am_I h m 2) n (am_I h (m + 3)) (am_I h (m + 4)) (am_I h (m + 6)) (sp_at2 (am_I h m 0) n (mv_go h m n at_), sp_lf n left, last, 0) k = s at i ⊢
      by_cases z : sp_due (am_I h m 0) (am_I h m 2) n (am_I h (m + 3)) (am_I h (m + 6)) s k
      · rw [if_pos z]
        obtain ⟨a, b, w, hr, hw⟩ := i
        obtain ⟨g, sl, hg1, hg2, hg3, -⟩ := hgl k (by omega)
        refine ⟨fun r => if r = k then 1 else a r, fun r => if r = k then g else b r, k + 1, fun r hr3 => ?_, nI_1 k, by omega⟩
        unfold sp_upd
        by_cases y : r = k
        · subst y
          simp only [if_pos]
          exact ⟨rfl, by omega, hg1, by omega⟩
        · simp only [if_neg y]
          exact hr r hr3
      · rw [if_neg z]
        exact i
  exact this n (Nat.le_refl _)
