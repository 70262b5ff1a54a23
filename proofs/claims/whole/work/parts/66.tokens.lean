/-! texts: signs, tokens, lines, as functions -/
def cc (x : Int32) : Nat := if x = 32 ∨ x = 10 then 0 else if 97 ≤ x ∧ x ≤ 122 then 1 else if 48 ≤ x ∧ x ≤ 57 then 2 else if x = 59 then 3 else 4
def tk_sk (ch : Nat → Int32) (len : Nat) : Nat → Nat → Nat
  | 0, p => p
  | j + 1, p => if p < len ∧ cc (ch p) = 0 then tk_sk ch len j (p + 1) else p
def tk_ex (ch : Nat → Int32) (len k : Nat) : Nat → Nat → Nat
  | 0, p => p
  | j + 1, p => if p < len ∧ cc (ch p) = k then tk_ex ch len k j (p + 1) else p
/-- a token: its kind, its first place, the place behind it -/
abbrev Tok : Type := Nat × Nat × Nat
def nx_at (ch : Nat → Int32) (len f : Nat) : Tok := if f < len then (cc (ch f), f, if cc (ch f) = 1 ∨ cc (ch f) = 2 then tk_ex ch len (cc (ch f)) (len - (f + 1)) (f + 1) else f + 1) else (0, f, f)
def nx (ch : Nat → Int32) (len p : Nat) : Tok := nx_at ch len (tk_sk ch len (len - p) p)
theorem tk_sk_b (ch : Nat → Int32) (len : Nat) : ∀ j p, p ≤ len → p ≤ tk_sk ch len j p ∧ tk_sk ch len j p ≤ len := by
  intro j
  induction j with
  | zero => intro p hp; exact ⟨Nat.le_refl _, hp⟩
  | succ j ih =>
    intro p hp
    rw [tk_sk]
    by_cases z : p < len ∧ cc (ch p) = 0
    · rw [if_pos z]; have := ih (p + 1) (by omega); omega
    · rw [if_neg z]; exact ⟨Nat.le_refl _, hp⟩
theorem tk_sk_n (ch : Nat → Int32) (len : Nat) : ∀ j p, len ≤ p + j → tk_sk ch len j p < len → cc (ch (tk_sk ch len j p)) ≠ 0 := by
  intro j
  induction j with
  | zero => intro p hp hl; rw [tk_sk] at hl; omega
  | succ j ih =>
    intro p hp
    rw [tk_sk]
    by_cases z : p < len ∧ cc (ch p) = 0
    · rw [if_pos z]; exact ih (p + 1) (by omega)
    · rw [if_neg z]; intro hl w; exact z ⟨hl, w⟩
theorem tk_ex_b (ch : Nat → Int32) (len k : Nat) : ∀ j p, p ≤ len → p ≤ tk_ex ch len k j p ∧ tk_ex ch len k j p ≤ len ∧ ∀ i, p ≤ i → i < tk_ex ch len k j p → cc (ch i) = k := by
  intro j
  induction j with
  | zero => intro p hp; exact ⟨Nat.le_refl _, hp, fun i a b => by rw [tk_ex] at b; omega⟩
  | succ j ih =>
    intro p hp
    rw [tk_ex]
    by_cases z : p < len ∧ cc (ch p) = k
    · rw [if_pos z]
      obtain ⟨a1, a2, a3⟩ := ih (p + 1) (by omega)
      refine ⟨by omega, a2, fun i b1 b2 => ?_⟩
      by_cases w : i = p
      · rw [w]; exact z.2
      · exact a3 i (by omega) b2
    · rw [if_neg z]; exact ⟨Nat.le_refl _, hp, fun i a b => by omega⟩
/-- what holds of every token -/
def tk_ok (ch : Nat → Int32) (len : Nat) (t : Tok) : Prop := t.2.1 ≤ t.2.2 ∧ t.2.2 ≤ len ∧ t.1 ≤ 4 ∧ (t.1 = 0 → t.2.1 = t.2.2) ∧ (t.1 ≠ 0 → t.2.1 < t.2.2) ∧ (t.1 = 1 ∨ t.1 = 2 → ∀ i, t.2.1 ≤ i → i < t.2.2 → cc (ch i) = t.1)
theorem cc_le (x : Int32) : cc x ≤ 4 := by unfold cc; split <;> (try split) <;> (try split) <;> (try split) <;> omega
theorem nx_ok (ch : Nat → Int32) (len p : Nat) (hp : p ≤ len) : tk_ok ch len (nx ch len p) ∧ p ≤ (nx ch len p).2.1 := by
  obtain ⟨b1, b2⟩ := tk_sk_b ch len (len - p) p hp
  have b3 := tk_sk_n ch len (len - p) p (by omega)
  unfold nx nx_at
  generalize tk_sk ch len (len - p) p = f at b1 b2 b3
  by_cases z : f < len
  · rw [if_pos z]
    have hz := b3 z
    by_cases w : cc (ch f) = 1 ∨ cc (ch f) = 2
    · rw [if_pos w]
      obtain ⟨a1, a2, a3⟩ := tk_ex_b ch len (cc (ch f)) (len - (f + 1)) (f + 1) (by omega)
      refine ⟨⟨Nat.le_trans (Nat.le_succ f) a1, a2, cc_le _, fun q => absurd q hz, fun _ => a1, fun _ i c1 c2 => ?_⟩, b1⟩
      by_cases v : i = f
      · rw [v]
      · exact a3 i (by have c3 : f ≤ i := c1; omega) c2
    · rw [if_neg w]
      exact ⟨⟨show f ≤ f + 1 by omega, show f + 1 ≤ len by omega, cc_le _, fun q => absurd q hz, fun _ => show f < f + 1 by omega, fun q => absurd q w⟩, b1⟩
  · rw [if_neg z]
    exact ⟨⟨Nat.le_refl _, b2, show 0 ≤ 4 by omega, fun _ => rfl, fun q => absurd rfl q, fun q => by have q2 : (0 : Nat) = 1 ∨ (0 : Nat) = 2 := q; omega⟩, b1⟩
/-- the number of so many digits -/
def nv (ch : Nat → Int32) (f : Nat) : Nat → Nat
  | 0 => 0
  | j + 1 => nv ch f j * 10 + (ch (f + j) - 48).toNatClampNeg
def wd (ch : Nat → Int32) (t : Tok) (w : List Int32) : Prop := t.1 = 1 ∧ t.2.2 - t.2.1 = w.length ∧ ∀ i, i < w.length → ch (t.2.1 + i) = w.getD i 0
abbrev Pr (α : Type) : Type := (Nat × Nat) ⊕ α
def Pr.bd {α β : Type} (x : Pr α) (f : α → Pr β) : Pr β := match x with
  | .inl q => .inl q
  | .inr a => f a
theorem Pr.bd_l {α β : Type} (q : Nat × Nat) (f : α → Pr β) : Pr.bd (.inl q) f = .inl q := rfl
theorem Pr.bd_r {α β : Type} (a : α) (f : α → Pr β) : Pr.bd (.inr a) f = f a := rfl
def p_num (ch : Nat → Int32) (t : Tok) (lo hi by_ : Nat) : Pr Nat := if t.1 ≠ 2 then .inl (1, t.2.1) else if 3 < t.2.2 - t.2.1 then .inl (2, t.2.1) else if nv ch t.2.1 (t.2.2 - t.2.1) < lo ∨ hi < nv ch t.2.1 (t.2.2 - t.2.1) ∨ nv ch t.2.1 (t.2.2 - t.2.1) % by_ ≠ 0 then .inl (2, t.2.1) else .inr (nv ch t.2.1 (t.2.2 - t.2.1))
def p_sign (ch : Nat → Int32) (len : Nat) (t : Tok) : Pr Tok := if t.1 = 3 then .inr (nx ch len t.2.2) else .inl (1, t.2.1)
/-- what a text tells: R 0 are slope, siding, needs, fast, ropes; R 1 .. R 6 kind, load, empty car, glass, slips, rule of each rope -/
abbrev Mrec : Type := Nat → Nat → Nat
def ru (R : Mrec) (o k v : Nat) : Mrec := fun q j => if q = o ∧ j = k then v else R q j
def R_0 : Mrec := fun q j => if q = 0 then (if j = 0 then 4 else if j = 2 then 1 else if j = 3 then 99 else 0) else 0
def w_slope : List Int32 := [115, 108, 111, 112, 101]
def w_siding : List Int32 := [115, 105, 100, 105, 110, 103]
def w_needs : List Int32 := [110, 101, 101, 100, 115]
def w_fast : List Int32 := [102, 97, 115, 116]
def w_rope : List Int32 := [114, 111, 112, 101]
def w_glass : List Int32 := [103, 108, 97, 115, 115]
def w_slips : List Int32 := [115, 108, 105, 112, 115]
def w_plain : List Int32 := [112, 108, 97, 105, 110]
def w_men : List Int32 := [109, 101, 110]
def w_water : List Int32 := [119, 97, 116, 101, 114]
def w_runaway : List Int32 := [114, 117, 110, 97, 119, 97, 121]
def w_always : List Int32 := [97, 108, 119, 97, 121, 115]
def w_clear : List Int32 := [99, 108, 101, 97, 114]
def w_half : List Int32 := [104, 97, 108, 102]
def w_turn : List Int32 := [116, 117, 114, 110]
noncomputable def ifc {α : Type} (p : Prop) (a b : α) : α := by
  classical exact if p then a else b
theorem ifc_t {α : Type} {p : Prop} {a b : α} (h : p) : ifc p a b = a := by
  unfold ifc
  rw [if_pos h]
theorem ifc_f {α : Type} {p : Prop} {a b : α} (h : ¬ p) : ifc p a b = b := by
  unfold ifc
  rw [if_neg h]
noncomputable def p_four (ch : Nat → Int32) (t : Tok) (a b c d : List Int32) : Option Nat := ifc (wd ch t a) (some 0) (ifc (wd ch t b) (some 1) (ifc (wd ch t c) (some 2) (ifc (wd ch t d) (some 3) none)))
noncomputable def p_slope (ch : Nat → Int32) (len : Nat) (R : Mrec) (t : Tok) : Pr (Mrec × Tok) :=
  Pr.bd (p_num ch (nx ch len t.2.2) 4 20 2) fun v =>
    ifc (wd ch (nx ch len (nx ch len t.2.2).2.2) w_siding)
      (Pr.bd (p_num ch (nx ch len (nx ch len (nx ch len t.2.2).2.2).2.2) 0 (min 3 (v / 2 - 1)) 1) fun u =>
        Pr.bd (p_sign ch len (nx ch len (nx ch len (nx ch len (nx ch len t.2.2).2.2).2.2).2.2)) fun t' => .inr (ru (ru R 0 0 v) 0 1 u, t'))
      (Pr.bd (p_sign ch len (nx ch len (nx ch len t.2.2).2.2)) fun t' => .inr (ru R 0 0 v, t'))
noncomputable def p_one (ch : Nat → Int32) (len : Nat) (R : Mrec) (k : Nat) (t : Tok) : Pr (Mrec × Tok) :=
  Pr.bd (p_num ch (nx ch len t.2.2) 1 99 1) fun v => Pr.bd (p_sign ch len (nx ch len (nx ch len t.2.2).2.2)) fun t' => .inr (ru R 0 k v, t')
/-- slips, if they are told: how many, and the token behind -/
noncomputable def p_slips (ch : Nat → Int32) (len : Nat) (t : Tok) : Pr (Nat × Tok) :=
  ifc (wd ch t w_slips) (Pr.bd (p_num ch (nx ch len t.2.2) 0 3 1) fun s => .inr (s, nx ch len (nx ch len t.2.2).2.2)) (.inr (0, t))
/-- from the word glass on: glass, slips, rule, the token behind -/
noncomputable def p_glass (ch : Nat → Int32) (len : Nat) (t : Tok) : Pr (Nat × Nat × Nat × Tok) :=
  ifc (wd ch t w_glass) (Pr.bd (p_num ch (nx ch len t.2.2) 1 30 1) fun g => Pr.bd (p_slips ch len (nx ch len (nx ch len t.2.2).2.2)) fun st =>
    match p_four ch st.2 w_always w_clear w_half w_turn with
    | none => .inr (g, st.1, 0, st.2)
    | some r => .inr (g, st.1, r, nx ch len st.2.2.2)) (.inl (1, t.2.1))
noncomputable def p_rope (ch : Nat → Int32) (len : Nat) (R : Mrec) (t : Tok) : Pr (Mrec × Tok) :=
  match p_four ch (nx ch len t.2.2) w_plain w_men w_water w_runaway with
  | none => .inl (1, (nx ch len t.2.2).2.1)
  | some k => Pr.bd (p_num ch (nx ch len (nx ch len t.2.2).2.2) 1 99 1) fun a =>
    Pr.bd (p_num ch (nx ch len (nx ch len (nx ch len t.2.2).2.2).2.2) 0 98 1) fun b =>
      Pr.bd (p_glass ch len (nx ch len (nx ch len (nx ch len (nx ch len t.2.2).2.2).2.2).2.2)) fun q =>
        Pr.bd (p_sign ch len q.2.2.2) fun t' => .inr (ru (ru (ru (ru (ru (ru (ru R 1 (R 0 4) k) 2 (R 0 4) a) 3 (R 0 4) b) 4 (R 0 4) q.1) 5 (R 0 4) q.2.1) 6 (R 0 4) q.2.2.1) 0 4 (R 0 4 + 1), t')
/-- a line; what was told: needs, fast -/
noncomputable def p_line (ch : Nat → Int32) (len : Nat) (R : Mrec) (nt ft : Prop) (line : Nat) (t : Tok) : Pr ((Mrec × Tok) × Prop × Prop) :=
  ifc (wd ch t w_slope) (ifc (0 < line) (.inl (3, t.2.1)) (Pr.bd (p_slope ch len R t) fun q => .inr (q, nt, ft)))
    (ifc (wd ch t w_needs) (ifc nt (.inl (4, t.2.1)) (Pr.bd (p_one ch len R 2 t) fun q => .inr (q, True, ft)))
    (ifc (wd ch t w_fast) (ifc ft (.inl (4, t.2.1)) (Pr.bd (p_one ch len R 3 t) fun q => .inr (q, nt, True)))
    (ifc (wd ch t w_rope) (ifc (3 ≤ R 0 4) (.inl (2, t.2.1)) (Pr.bd (p_rope ch len R t) fun q => .inr (q, nt, ft)))
    (.inl (1, t.2.1)))))
noncomputable def p_all (ch : Nat → Int32) (len : Nat) : Nat → Nat → Mrec → Prop → Prop → Tok → Pr Mrec
  | 0, _, R, _, _, _ => .inr R
  | j + 1, line, R, nt, ft, t => if t.1 = 0 then .inr R else Pr.bd (p_line ch len R nt ft line t) fun q => p_all ch len j (line + 1) q.1.1 q.2.1 q.2.2 q.1.2
noncomputable def p_text (ch : Nat → Int32) (len : Nat) : Pr Mrec := p_all ch len 401 0 R_0 False False (nx ch len 0)
