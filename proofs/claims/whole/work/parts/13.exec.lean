/-! the abstract machine's step as a proposition: what must hold for the run to go on, and from where -/
abbrev Am_I : Type := Nat × Int32 × Nat × Nat × Nat × Nat × Nat
def am_li (v : Option Value) (F : Int32 → Prop) : Prop := match v with
  | some (.int x) => F x
  | _ => False
def am_ll (v : Option Value) (F : Int64 → Prop) : Prop := match v with
  | some (.long x) => F x
  | _ => False
def am_la (v : Option Value) (F : Value → Prop) : Prop := match v with
  | some v => am_isA v ∧ F v
  | none => False
def am_arr (t : Nat) (s : Nat × Nat) (F : Nat → Prop) : Prop := s.1 = t ∧ F s.2
def am_d (st : List Value) : Nat := (st.map fun v => v.category).sum
def am_pop (n : Nat) (st acc : List Value) (F : List Value → List Value → Prop) : Prop := match n, st with
  | 0, st => F acc st
  | n + 1, v :: st => am_pop n st (v :: acc) F
  | _ + 1, [] => False
theorem am_pop_use {n : Nat} {st acc : List Value} {F : List Value → List Value → Prop} (h : am_pop n st acc F) : ∃ as rest, as.length = n ∧ st = as.reverse ++ rest ∧ F (as ++ acc) rest := by
  induction n generalizing st acc with
  | zero => cases st <;> exact ⟨[], _, rfl, rfl, h⟩
  | succ n ih =>
    cases st with
    | nil => exact h.elim
    | cons v st =>
      obtain ⟨as, rest, e1, e2, e3⟩ := ih (st := st) (acc := v :: acc) h
      exact ⟨as ++ [v], rest, by simp [e1], by simp [e2], by simpa using e3⟩
def am_lng : List Int64 := [3, 31, 63, -7046029254386353131, 32767]
def am_s1 (st : List Value) (F : Int32 → List Value → Prop) : Prop := match st with
  | .int x :: st => F x st
  | _ => False
def am_s2 (st : List Value) (F : Int32 → Int32 → List Value → Prop) : Prop := match st with
  | .int y :: .int x :: st => F x y st
  | _ => False
def am_t1 (st : List Value) (F : Int64 → List Value → Prop) : Prop := match st with
  | .long x :: st => F x st
  | _ => False
def am_t2 (st : List Value) (F : Int64 → Int64 → List Value → Prop) : Prop := match st with
  | .long y :: .long x :: st => F x y st
  | _ => False
def am_st (st : List Value) (F : Int64 → Int32 → List Value → Prop) : Prop := match st with
  | .int y :: .long x :: st => F x y st
  | _ => False
def am_r1 (st : List Value) (F : Nat → List Value → Prop) : Prop := match st with
  | .ref o :: st => F o st
  | _ => False
def am_sr (st : List Value) (F : Nat → Int32 → List Value → Prop) : Prop := match st with
  | .int x :: .ref o :: st => F o x st
  | _ => False
def am_ssr (st : List Value) (F : Nat → Int32 → Int32 → List Value → Prop) : Prop := match st with
  | .int x :: .int i :: .ref o :: st => F o i x st
  | _ => False
def am_tsr (st : List Value) (F : Nat → Int32 → Int64 → List Value → Prop) : Prop := match st with
  | .long x :: .int i :: .ref o :: st => F o i x st
  | _ => False
def am_rr (st : List Value) (F : Nat → Option Nat → List Value → Prop) : Prop := match st with
  | .ref q :: .ref o :: st => F o (some q) st
  | .null :: .ref o :: st => F o none st
  | _ => False
def am_v1 (st : List Value) (F : Value → List Value → Prop) : Prop := match st with
  | x :: st => F x st
  | _ => False
def am_v2 (st : List Value) (F : Value → Value → List Value → Prop) : Prop := match st with
  | x :: y :: st => F x y st
  | _ => False
def am_e (st : List Value) (F : Prop) : Prop := match st with
  | [] => F
  | _ => False
/-- the script's own row -/
def am_sf (st : List Value) (F : Int32 → List Value → Prop) : Prop := match st with
  | .int i :: .float x :: st => x = 9999 ∧ F i st
  | _ => False
def am_f1 (st : List Value) (F : List Value → Prop) : Prop := match st with
  | .float x :: st => x = 9999 ∧ F st
  | _ => False
def am_op (l : Am_L) (mi d rc rs pc : Nat) (v : Int32) (a b e nx : Nat) (ls : List (Option Value)) (st : List Value) (h : Am_H) (K : Am_R → Am_H → Prop) (tsw : Nat → List Nat) (V : Nat → Nat → Nat → List (Option Value) → List Value → Am_H → Prop) (op : Nat) : Prop := match op with
  | 1 => V rc rs nx ls (.int v :: st) h
  | 2 => V rc rs nx ls (.int v :: st) h
  | 3 => V rc rs nx ls (.int v :: st) h
  | 4 => V rc rs nx ls (.long (Int64.ofNat a) :: st) h
  | 5 => am_li (am_get ls a) fun x => V rc rs nx ls (.int x :: st) h
  | 6 => am_li (am_get ls a) fun x => V rc rs nx ls (.int x :: st) h
  | 7 => am_ll (am_get ls a) fun x => V rc rs nx ls (.long x :: st) h
  | 8 => am_ll (am_get ls a) fun x => V rc rs nx ls (.long x :: st) h
  | 9 => am_la (am_get ls a) fun x => V rc rs nx ls (x :: st) h
  | 10 => am_la (am_get ls a) fun x => V rc rs nx ls (x :: st) h
  | 11 => am_s1 st fun x st => am_nl (am_get ls (a - 1)) ∧ V rc rs nx (am_set ls a (some (.int x))) st h
  | 12 => am_s1 st fun x st => am_nl (am_get ls (a - 1)) ∧ V rc rs nx (am_set ls a (some (.int x))) st h
  | 13 => am_t1 st fun x st => (am_nl (am_get ls (a - 1)) ∨ a = 0) ∧ V rc rs nx (am_set (am_set ls a (some (.long x))) (a + 1) none) st h
  | 14 => am_t1 st fun x st => (am_nl (am_get ls (a - 1)) ∨ a = 0) ∧ V rc rs nx (am_set (am_set ls a (some (.long x))) (a + 1) none) st h
  | 15 => am_v1 st fun x st => am_nl (am_get ls (a - 1)) ∧ am_isA x ∧ V rc rs nx (am_set ls a (some x)) st h
  | 16 => am_v1 st fun x st => am_nl (am_get ls (a - 1)) ∧ am_isA x ∧ V rc rs nx (am_set ls a (some x)) st h
  | 17 => am_li (am_get ls a) fun x => am_nl (am_get ls (a - 1)) ∧ V rc rs nx (am_set ls a (some (.int (x + v)))) st h
  | 20 => am_s2 st fun x y st => V rc rs nx ls (.int (x + y) :: st) h
  | 21 => am_s2 st fun x y st => V rc rs nx ls (.int (x - y) :: st) h
  | 22 => am_s2 st fun x y st => V rc rs nx ls (.int (x * y) :: st) h
  | 23 => am_s2 st fun x y st => ¬ y = 0 ∧ V rc rs nx ls (.int (x / y) :: st) h
  | 24 => am_s2 st fun x y st => ¬ y = 0 ∧ V rc rs nx ls (.int (x - x / y * y) :: st) h
  | 25 => am_s2 st fun x y st => V rc rs nx ls (.int (x &&& y) :: st) h
  | 26 => am_s2 st fun x y st => V rc rs nx ls (.int (x ||| y) :: st) h
  | 27 => am_s2 st fun x y st => V rc rs nx ls (.int (x ^^^ y) :: st) h
  | 28 => am_s2 st fun x y st => V rc rs nx ls (.int (x <<< (y &&& 31)) :: st) h
  | 29 => am_s2 st fun x y st => V rc rs nx ls (.int (x >>> (y &&& 31)) :: st) h
  | 30 => am_s2 st fun x y st => V rc rs nx ls (.int ((x.toUInt32 >>> (y.toUInt32 &&& Int32.toUInt32 31)).toInt32) :: st) h
  | 31 => am_t2 st fun x y st => V rc rs nx ls (.long (x + y) :: st) h
  | 32 => am_t2 st fun x y st => V rc rs nx ls (.long (x * y) :: st) h
  | 33 => am_t2 st fun x y st => V rc rs nx ls (.long (x &&& y) :: st) h
  | 34 => am_t2 st fun x y st => V rc rs nx ls (.long (x ||| y) :: st) h
  | 35 => am_st st fun x y st => V rc rs nx ls (.long (x <<< (y.toInt64 &&& 63)) :: st) h
  | 36 => am_st st fun x y st => V rc rs nx ls (.long ((x.toUInt64 >>> (y.toInt64.toUInt64 &&& Int64.toUInt64 63)).toInt64) :: st) h
  | 37 => am_t2 st fun x y st => V rc rs nx ls (.int (lg_cmp x y) :: st) h
  | 38 => am_s1 st fun x st => V rc rs nx ls (.long x.toInt64 :: st) h
  | 39 => am_t1 st fun x st => V rc rs nx ls (.int x.toInt32 :: st) h
  | 40 => am_s1 st fun x st => V rc rs nx ls (.int x.toInt8.toInt32 :: st) h
  | 41 => am_s1 st fun x st => V rc rs nx ls (.int (x.toUInt32 % 65536).toInt32 :: st) h
  | 42 => am_v1 st fun x st => am_nl (some x) ∧ V rc rs nx ls (x :: x :: st) h
  | 43 => am_v1 st fun x st => am_nl (some x) ∧ V rc rs nx ls st h
  | 44 => am_v2 st fun x y st => am_nl (some x) ∧ am_nl (some y) ∧ V rc rs nx ls (x :: y :: x :: y :: st) h
  | 45 => V rc rs nx ls (.null :: st) h
  | 50 => am_s1 st fun x st => (x = 0 → V rc rs a ls st h) ∧ (¬ x = 0 → V rc rs nx ls st h)
  | 51 => am_s1 st fun x st => (¬ x = 0 → V rc rs a ls st h) ∧ (x = 0 → V rc rs nx ls st h)
  | 52 => am_s1 st fun x st => (x < 0 → V rc rs a ls st h) ∧ (¬ x < 0 → V rc rs nx ls st h)
  | 53 => am_s1 st fun x st => (0 ≤ x → V rc rs a ls st h) ∧ (¬ 0 ≤ x → V rc rs nx ls st h)
  | 54 => am_s1 st fun x st => (0 < x → V rc rs a ls st h) ∧ (¬ 0 < x → V rc rs nx ls st h)
  | 55 => am_s1 st fun x st => (x ≤ 0 → V rc rs a ls st h) ∧ (¬ x ≤ 0 → V rc rs nx ls st h)
  | 56 => am_s2 st fun x y st => (x = y → V rc rs a ls st h) ∧ (¬ x = y → V rc rs nx ls st h)
  | 57 => am_s2 st fun x y st => (¬ x = y → V rc rs a ls st h) ∧ (x = y → V rc rs nx ls st h)
  | 58 => am_s2 st fun x y st => (x < y → V rc rs a ls st h) ∧ (¬ x < y → V rc rs nx ls st h)
  | 59 => am_s2 st fun x y st => (y ≤ x → V rc rs a ls st h) ∧ (¬ y ≤ x → V rc rs nx ls st h)
  | 60 => am_s2 st fun x y st => (y < x → V rc rs a ls st h) ∧ (¬ y < x → V rc rs nx ls st h)
  | 61 => am_s2 st fun x y st => (x ≤ y → V rc rs a ls st h) ∧ (¬ x ≤ y → V rc rs nx ls st h)
  | 62 => V rc rs a ls st h
  | 63 => am_v1 st fun x st => am_isA x ∧ (¬ x = .null → V rc rs a ls st h) ∧ (x = .null → V rc rs nx ls st h)
  | 64 => am_s1 st fun x st => am_sw x v (tsw a) b fun t => V rc rs t ls st h
  | 70 => am_r1 st fun o st => am_S h o = (1, b) ∧ V rc rs nx ls (.int (am_I h o a) :: st) h
  | 71 => am_r1 st fun o st => am_S h o = (1, b) ∧ V rc rs nx ls (am_rf (am_P h o a) :: st) h
  | 72 => am_sr st fun o x st => am_S h o = (1, b) ∧ V rc rs nx ls st (am_wI h o a x)
  | 73 => am_sr st fun o x st => am_S h o = (1, b) ∧ (x = 0 ∨ x = 1) ∧ V rc rs nx ls st (am_wI h o a x)
  | 74 => am_rr st fun o q st => am_S h o = (1, b) ∧ V rc rs nx ls st (am_wP h o a q)
  | 75 => am_sr st fun o i st => am_arr 2 (am_S h o) fun n => vp_in i n ∧ V rc rs nx ls (.int (am_I h o i.toNatClampNeg) :: st) h
  | 76 => am_sr st fun o i st => am_arr 3 (am_S h o) fun n => vp_in i n ∧ V rc rs nx ls (.int (am_I h o i.toNatClampNeg) :: st) h
  | 77 => am_sr st fun o i st => am_arr 4 (am_S h o) fun n => vp_in i n ∧ V rc rs nx ls (.long (am_L h o i.toNatClampNeg) :: st) h
  | 78 => am_ssr st fun o i x st => am_arr 2 (am_S h o) fun n => vp_in i n ∧ V rc rs nx ls st (am_wI h o i.toNatClampNeg x)
  | 79 => am_ssr st fun o i x st => am_arr 3 (am_S h o) fun n => vp_in i n ∧ narrow .byte (.int x) = .int x ∧ V rc rs nx ls st (am_wI h o i.toNatClampNeg x)
  | 80 => am_tsr st fun o i x st => am_arr 4 (am_S h o) fun n => vp_in i n ∧ V rc rs nx ls st (am_wL h o i.toNatClampNeg x)
  | 81 => am_r1 st fun o st => ((am_S h o).1 = 2 ∨ (am_S h o).1 = 3 ∨ (am_S h o).1 = 4 ∨ (am_S h o).1 = 5) ∧ V rc rs nx ls (.int (Int32.ofNat (am_S h o).2) :: st) h
  | 85 => am_s2 st fun x y st => am_d st ≤ 8 ∧ V rc rs nx ls (.int (if y < x then y else x) :: st) h
  | 86 => am_s2 st fun x y st => am_d st ≤ 8 ∧ V rc rs nx ls (.int (if x < y then y else x) :: st) h
  | 87 => V rc rs nx ls (.int v :: st) h
  | 88 => V rc rs nx ls (.int v :: st) h
  | 89 => V rc rs nx ls (.long (am_lng.getD a 0) :: st) h
  | 90 => V rc rs nx ls (.float (UInt32.ofNat a) :: st) h
  | 91 => am_r1 st fun _ st => am_d st ≤ 8 ∧ V rc rs nx ls st h
  | 92 => 1 ≤ rc ∧ a ≤ rs ∧ V (rc - 1) (rs - a) nx ls (.ref (am_N h) :: st) (am_nw h (1, b))
  | 93 => am_s1 st fun x st => ¬ x < 0 ∧ x.toNatClampNeg ≤ 1000000 ∧ 1 ≤ rc ∧ x.toNatClampNeg ≤ rs ∧ V (rc - 1) (rs - x.toNatClampNeg) nx ls (.ref (am_N h) :: st) (am_nw h (a, x.toNatClampNeg))
  | 95 => am_sf st fun i st => vp_in i l.2.1 ∧ V rc rs nx ls (.int (l.2.2 i.toNatClampNeg) :: st) h
  | 96 => am_f1 st fun st => V rc rs nx ls (.int (Int32.ofNat l.2.1) :: st) h
  | 100 => am_pop b st [] fun as st => am_r1 st fun o st => am_S h o = (1, e) ∧ am_d st ≤ 8 ∧ 1 ≤ d ∧ am_M l (d - 1) 0 0 a (.ref o :: as) h (fun r h' => am_ok r (fun v => am_J l mi d rc rs nx ls (am_push v st) h' K))
  | 101 => am_pop b st [] fun as st => am_d st ≤ 8 ∧ 1 ≤ d ∧ am_M l (d - 1) 0 0 a as h (fun r h' => am_ok r (fun v => am_J l mi d rc rs nx ls (am_push v st) h' K))
  | 110 => am_s1 st fun x st => am_e st (K (.inl (some (.int x))) h)
  | 111 => am_s1 st fun x st => am_e st ((x = 0 ∨ x = 1) ∧ K (.inl (some (.int x))) h)
  | 112 => am_t1 st fun x st => am_e st (K (.inl (some (.long x))) h)
  | 113 => am_r1 st fun o st => am_e st (K (.inl (some (.ref o))) h)
  | 114 => am_e st (K (.inl none) h)
  | 200 => am_J l mi d rc rs pc ls st h K
  | _ => False
def am_ex (l : Am_L) (mi d rc rs pc : Nat) (t : Am_I) (ls : List (Option Value)) (st : List Value) (h : Am_H) (K : Am_R → Am_H → Prop) (tsw : Nat → List Nat) (V : Nat → Nat → Nat → List (Option Value) → List Value → Am_H → Prop) : Prop := match t with
  | (op, v, a, b, e, nx, hd) => match hd with
    | 0 => am_op l mi d rc rs pc v a b e nx ls st h K tsw V op
    | _ => am_J l mi d rc rs pc ls st h K
/-- n steps of it -/
def am_vc (l : Am_L) (mi d : Nat) (K : Am_R → Am_H → Prop) (at_ : Nat → Am_I) (tsw : Nat → List Nat) : Nat → Nat → Nat → Nat → List (Option Value) → List Value → Am_H → Prop
  | 0, rc, rs, pc, ls, st, h => am_J l mi d rc rs pc ls st h K
  | n + 1, rc, rs, pc, ls, st, h => am_ex l mi d rc rs pc (at_ pc) ls st h K tsw (am_vc l mi d K at_ tsw n)
