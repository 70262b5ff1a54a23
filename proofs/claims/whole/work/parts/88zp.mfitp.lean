/-! fitting: counts, sums, how many starts are still to come -/
/-- how many are so -/
noncomputable def ct (P : Nat → Prop) : Nat → Nat
  | 0 => 0
  | k + 1 => ct P k + ifc (P k) 1 0
theorem ct_or {P Q R : Nat → Prop} : ∀ n, (∀ i, i < n → P i → Q i ∨ R i) → ct P n ≤ ct Q n + ct R n
  | 0, _ => Nat.le_refl _
  | n + 1, h => by
    have ih := ct_or n (fun i hi => h i (by omega))
    rw [ct, ct, ct]
    by_cases p : P n
    · rw [ifc_t p]
      rcases h n (by omega) p with q | q
      · rw [ifc_t q]; omega
      · rw [ifc_t q]; omega
    · rw [ifc_f p]; omega
theorem ct_add {P Q R : Nat → Prop} : ∀ n, (∀ i, i < n → (P i → R i) ∧ (Q i → R i) ∧ ¬ (P i ∧ Q i)) → ct P n + ct Q n ≤ ct R n
  | 0, _ => Nat.le_refl _
  | n + 1, h => by
    have ih := ct_add n (fun i hi => h i (by omega))
    obtain ⟨h1, h2, h3⟩ := h n (by omega)
    rw [ct, ct, ct]
    by_cases p : P n
    · rw [ifc_t p, ifc_t (h1 p), ifc_f (fun q => h3 ⟨p, q⟩)]; omega
    · rw [ifc_f p]
      by_cases q : Q n
      · rw [ifc_t q, ifc_t (h2 q)]; omega
      · rw [ifc_f q]; omega
theorem ct_c {P Q : Nat → Prop} : ∀ n, (∀ i, i < n → (P i ↔ Q i)) → ct P n = ct Q n
  | 0, _ => rfl
  | n + 1, h => by
    rw [ct, ct, ct_c n (fun i hi => h i (by omega))]
    by_cases p : P n
    · rw [ifc_t p, ifc_t ((h n (by omega)).mp p)]
    · rw [ifc_f p, ifc_f (fun q => p ((h n (by omega)).mpr q))]
theorem ct_le {P : Nat → Prop} : ∀ n, ct P n ≤ n
  | 0 => Nat.le_refl _
  | n + 1 => by
    have := ct_le (P := P) n
    rw [ct]
    by_cases p : P n
    · rw [ifc_t p]; omega
    · rw [ifc_f p]; omega
/-- how many ropes a set has -/
def pcn (B : Nat) : Nat := B % 2 + B / 2 % 2 + B / 4 % 2
theorem pcn_ct {B n : Nat} (hn : n ≤ 3) (hB : B < 8) (hBn : ∀ r, n ≤ r → B.testBit r = false) : ct (fun r => B.testBit r = true) n = pcn B := by
  have e3' : ct (fun r => B.testBit r = true) 3 = pcn B := by
    obtain ⟨t0, t1, t2⟩ := tb_0 B hB
    unfold pcn
    rw [t0, t1, t2, ct, ct, ct, ct]
    cases B.testBit 0 <;> cases B.testBit 1 <;> cases B.testBit 2 <;> simp [ifc]
  have ext : ∀ j k, ct (fun r => B.testBit r = true) (n + j) = ct (fun r => B.testBit r = true) n ∨ k = 0 := fun j k => by
    left
    induction j with
    | zero => rfl
    | succ j ih =>
      rw [← Nat.add_assoc, ct, ih, ifc_f (by rw [hBn (n + j) (by omega)]; decide)]
      rfl
  have := (ext (3 - n) 1).resolve_right (by omega)
  rw [show n + (3 - n) = 3 by omega] at this
  omega
theorem pcn_bt {P : Nat → Prop} {n : Nat} (hn : n ≤ 3) : ct P n = pcn (bt_n P n) := by
  have hB : bt_n P n < 8 := Nat.lt_of_lt_of_le (bt_lt n) (Nat.pow_le_pow_right (by omega) hn)
  rw [← pcn_ct (n := n) hn hB (fun r hr => by
    cases hq : (bt_n P n).testBit r with
    | false => rfl
    | true => have := ((bt_bit n r).mp hq).1; omega)]
  exact ct_c n (fun r hr => ⟨fun w => (bt_bit n r).mpr ⟨hr, w⟩, fun w => ((bt_bit n r).mp w).2⟩)
/-- told sets as numbers -/
def tn (tr ts : Nat → Int32) (s : Nat) : Nat → Nat
  | 0 => 0
  | t + 1 => if ts t = nI s then tn tr ts s t ||| 2 ^ (tr t).toNatClampNeg else tn tr ts s t
theorem tn_d : ∀ a, a < 8 → ∀ r, r < 3 → nI a ||| ((1 : Int32) <<< (nI r &&& 31)) = nI (a ||| 2 ^ r) ∧ a ||| 2 ^ r < 8 ∧ pcn (a ||| 2 ^ r) ≤ pcn a + 1 := by decide +kernel
theorem tn_ok {tr ts : Nat → Int32} {s : Nat} : ∀ T, (∀ i, i < T → ∃ r, r < 3 ∧ tr i = nI r) → sp_told tr ts s T = nI (tn tr ts s T) ∧ tn tr ts s T < 8 ∧ pcn (tn tr ts s T) ≤ ct (fun i => ts i = nI s) T
  | 0, _ => ⟨rfl, show 0 < 8 by omega, show pcn 0 ≤ 0 by decide⟩
  | T + 1, h => by
    obtain ⟨a1, a2, a3⟩ := tn_ok (tr := tr) (ts := ts) (s := s) T (fun i hi => h i (by omega))
    rw [sp_told, tn, ct]
    by_cases z : ts T = nI s
    · obtain ⟨r, hr, er⟩ := h T (by omega)
      obtain ⟨b1, b2, b3⟩ := tn_d _ a2 r hr
      rw [if_pos z, if_pos z, ifc_t z, er, nI_clamp (by omega), a1]
      exact ⟨b1, b2, by omega⟩
    · rw [if_neg z, if_neg z, ifc_f z]
      exact ⟨a1, a2, a3⟩
theorem sp_sd_at {L needs : Int32} {n : Nat} {pull glass rule : Nat → Int32} {f g : Nat → Int32} {x : Int32} (hn : n ≤ 3) : ∀ k, k ≤ n → ∃ B, B < 8 ∧ (sp_sd L needs n pull glass rule (f, g, x, 0) k).2.2.2 = nI B ∧ (∀ r, B.testBit r = true → r < k ∧ f r = -1 ∧ (sp_sd L needs n pull glass rule (f, g, x, 0) k).1 r = 0) ∧ ∀ r, B.testBit r = false → (sp_sd L needs n pull glass rule (f, g, x, 0) k).1 r = f r := by
  intro k
  induction k with
  | zero => intro _; exact ⟨0, by omega, rfl, fun r hr => absurd hr (by simp), fun r _ => rfl⟩
  | succ k ih =>
    intro hk
    obtain ⟨B, hB, e, q1, q2⟩ := ih (by omega)
    rw [sp_sd]
    generalize sp_sd L needs n pull glass rule (f, g, x, 0) k = s at e q1 q2 ⊢
    by_cases z : sp_due L needs n pull rule s k
    · rw [if_pos z]
      refine ⟨B ||| 2 ^ k, Nat.or_lt_two_pow (n := 3) hB (Nat.pow_lt_pow_right (by omega) (by omega)), ?_, fun r hr => ?_, fun r hr => ?_⟩
      · show s.2.2.2 ||| _ = _
        rw [e, bt_or B hB k (by omega)]
      · show _ ∧ _ ∧ sp_upd s.1 k 0 r = 0
        unfold sp_upd
        by_cases y : r = k
        · rw [if_pos y, y]
          have kf : B.testBit k = false := by
            cases hq : B.testBit k with
            | false => rfl
            | true => have := (q1 k hq).1; omega
          exact ⟨by omega, by rw [← q2 k kf]; exact z.2.1, rfl⟩
        · rw [if_neg y]
          rw [Nat.testBit_or, Nat.testBit_two_pow_of_ne (fun w => y w.symm), Bool.or_false] at hr
          obtain ⟨a1, a2, a3⟩ := q1 r hr
          exact ⟨by omega, a2, a3⟩
      · show sp_upd s.1 k 0 r = f r
        unfold sp_upd
        rw [Nat.testBit_or, Bool.or_eq_false_iff] at hr
        have y : ¬ r = k := fun w => by rw [w, Nat.testBit_two_pow_self] at hr; exact absurd hr.2 (by decide)
        rw [if_neg y]
        exact q2 r hr.1
    · rw [if_neg z]
      refine ⟨B, hB, e, fun r hr => ?_, q2⟩
      obtain ⟨a1, a2, a3⟩ := q1 r hr
      exact ⟨by omega, a2, a3⟩
/-- ropes that wait -/
noncomputable def wt (n : Nat) (f : Nat → Int32) : Nat := ct (fun r => f r = -1) n
/-- arrivals told for later seconds -/
noncomputable def tl (ts : Nat → Int32) (T s : Nat) : Nat := ct (fun i => ∃ u, s < u ∧ u ≤ 200 ∧ ts i = nI u) T
theorem tl_st {ts : Nat → Int32} {T s : Nat} (hs : s + 1 ≤ 200) : tl ts T (s + 1) + ct (fun i => ts i = nI (s + 1)) T ≤ tl ts T s := by
  refine ct_add T (fun i hi => ⟨fun ⟨u, h1, h2, h3⟩ => ⟨u, by omega, h2, h3⟩, fun w => ⟨s + 1, by omega, hs, w⟩, fun ⟨⟨u, h1, h2, h3⟩, w⟩ => ?_⟩)
  have := nI_ij (by omega) (by omega) (h3.symm.trans w)
  omega
theorem mu_st {h : Am_H} {m n L x T s B : Nat} {tr ts : Nat → Int32} (hg : is_Good h m n L) (hx : pk L n x) (htr : ∀ i, i < T → ∃ r, r < 3 ∧ tr i = nI r) (hs : s + 1 ≤ 200) (ha : mv_arr h m n (dk_at x) = sp_told tr ts (s + 1) T) (hB : B < 8) (eB : (mx_p h m n x).2.2.2 = nI B) : wt n (mx_p h m n x).1 + pcn B + tl ts T (s + 1) ≤ wt n (dk_at x) + tl ts T s := by
  have hn := hg.1.2.1
  obtain ⟨B', hB', e', q1, q2⟩ := sp_sd_at (L := am_I h m 0) (needs := am_I h m 2) (pull := am_I h (m + 3)) (glass := am_I h (m + 4)) (rule := am_I h (m + 6)) (f := sp_at2 (am_I h m 0) n (mv_go h m n (dk_at x))) (g := sp_lf n (dk_lf x)) (x := dk_ls x) hn n (Nat.le_refl _)
  have eB2 : (mx_p h m n x).2.2.2 = nI B' := e'
  have : B' = B := nI_ij (by omega) (by omega) (eB2.symm.trans eB)
  subst this
  have q1 : ∀ r, B'.testBit r = true → r < n ∧ sp_at2 (am_I h m 0) n (mv_go h m n (dk_at x)) r = -1 ∧ (mx_p h m n x).1 r = 0 := q1
  have q2 : ∀ r, B'.testBit r = false → (mx_p h m n x).1 r = sp_at2 (am_I h m 0) n (mv_go h m n (dk_at x)) r := q2
  have hBn : ∀ r, n ≤ r → B'.testBit r = false := fun r hr => by
    cases tb : B'.testBit r
    · rfl
    · have := (q1 r tb).1; omega
  have b : wt n (mx_p h m n x).1 + pcn B' ≤ wt n (sp_at2 (am_I h m 0) n (mv_go h m n (dk_at x))) := by
    rw [← pcn_ct hn hB hBn]
    refine ct_add n (fun r hr => ⟨fun w => ?_, fun w => (q1 r w).2.1, fun w => ?_⟩)
    · cases tb : B'.testBit r
      · rw [← q2 r tb]; exact w
      · exact (q1 r tb).2.1
    · have := (q1 r w.2).2.2
      rw [this] at w
      exact absurd w.1 (by decide)
  have a : wt n (sp_at2 (am_I h m 0) n (mv_go h m n (dk_at x))) ≤ wt n (dk_at x) + ct (fun r => mv_go h m n (dk_at x) r = am_I h m 0) n := by
    refine ct_or n (fun r hr w => ?_)
    by_cases y : dk_at x r = -1
    · exact Or.inl y
    · refine Or.inr ?_
      unfold sp_at2 at w
      by_cases z : mv_go h m n (dk_at x) r = am_I h m 0
      · exact z
      · rw [if_neg (fun u => z u.2)] at w
        obtain ⟨b, hb, e⟩ := hx.2.2 r hr y
        exfalso
        obtain ⟨c, hc, ec⟩ := go1_nI hg.2.2.1 hb (am_I h m 3) (am_I h (m + 1) r) (am_I h (m + 3) r)
        have eg : mv_go h m n (dk_at x) r = nI c := by
          unfold mv_go sp_go
          rw [if_pos hr, hg.2.1, e]; exact ec
        rw [eg] at w
        exact nI_m1 (by have := hg.2.2.1; omega) w
  have c : ct (fun r => mv_go h m n (dk_at x) r = am_I h m 0) n ≤ ct (fun i => ts i = nI (s + 1)) T := by
    rw [pcn_bt hn]
    obtain ⟨t1, t2, t3⟩ := tn_ok (ts := ts) (s := s + 1) T htr
    have e1 : nI (bt_n (fun r => mv_go h m n (dk_at x) r = am_I h m 0) n) = nI (tn tr ts (s + 1) T) := by
      rw [← bt_sp n hn, ← t1]; exact ha
    have hb8 : bt_n (fun r => mv_go h m n (dk_at x) r = am_I h m 0) n < 8 := Nat.lt_of_lt_of_le (bt_lt n) (Nat.pow_le_pow_right (by omega) hn)
    rw [nI_ij (by omega) (by omega) e1]
    exact t3
  have d := tl_st (ts := ts) (T := T) hs
  omega
/-- sums of couples -/
def SG (f : Nat → Nat × Nat) : Nat → Nat × Nat
  | 0 => (0, 0)
  | k + 1 => ((SG f k).1 + (f k).1, (SG f k).2 + (f k).2)
theorem sm_SG (f : Nat → Nat × Nat) : ∀ k, sm f k = ((SG f k).1, (SG f k).2 + k)
  | 0 => rfl
  | k + 1 => by
    rw [sm, SG, sm_SG f k]
    show ((SG f k).1 + (f k).1, (SG f k).2 + k + 1 + (f k).2) = ((SG f k).1 + (f k).1, (SG f k).2 + (f k).2 + (k + 1))
    congr 1
    omega
theorem SG_c {f g : Nat → Nat × Nat} : ∀ k, (∀ i, i < k → f i = g i) → SG f k = SG g k
  | 0, _ => rfl
  | k + 1, h => by rw [SG, SG, SG_c k (fun i hi => h i (by omega)), h k (by omega)]
theorem SG_t {f : Nat → Nat × Nat} {t : Nat} : ∀ k, SG (fun i => ((f i).1, (f i).2 + t)) k = ((SG f k).1, (SG f k).2 + k * t)
  | 0 => by rw [SG, SG, Nat.zero_mul]
  | k + 1 => by
    rw [SG, SG, SG_t k, Nat.add_mul, Nat.one_mul]
    show (_, (SG f k).2 + k * t + ((f k).2 + t)) = (_, (SG f k).2 + (f k).2 + (k * t + t))
    congr 1
    omega
theorem SG_1 (f : Nat → Nat × Nat) : SG f 1 = f 0 := by
  rw [SG, SG]
  show (0 + (f 0).1, 0 + (f 0).2) = f 0
  rw [Nat.zero_add, Nat.zero_add]
theorem SG_add (f : Nat → Nat × Nat) (a : Nat) : ∀ b, SG f (a + b) = ((SG f a).1 + (SG (fun j => f (a + j)) b).1, (SG f a).2 + (SG (fun j => f (a + j)) b).2)
  | 0 => rfl
  | b + 1 => by
    rw [← Nat.add_assoc, SG, SG, SG_add f a b]
    show ((SG f a).1 + (SG (fun j => f (a + j)) b).1 + (f (a + b)).1, (SG f a).2 + (SG (fun j => f (a + j)) b).2 + (f (a + b)).2) = ((SG f a).1 + ((SG (fun j => f (a + j)) b).1 + (f (a + b)).1), (SG f a).2 + ((SG (fun j => f (a + j)) b).2 + (f (a + b)).2))
    rw [Nat.add_assoc, Nat.add_assoc]
theorem SG_mul (g : Nat → Nat × Nat) (b : Nat) : ∀ a, SG g (a * b) = SG (fun i => SG (fun j => g (i * b + j)) b) a
  | 0 => by rw [Nat.zero_mul, SG, SG]
  | a + 1 => by rw [Nat.add_mul, Nat.one_mul, SG_add, SG, SG_mul g b a]
