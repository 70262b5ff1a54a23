/-! fitting: a node's rows and turns, choice by choice -/
section
variable {h : Am_H} {m n L e : Nat} {told : Nat → Int32}
noncomputable def nsl (h : Am_H) (m r : Nat) : Nat := (am_I h (m + 5) r).toNatClampNeg + 1
theorem FB_1 {k key s r B : Nat} (hr : lo_r B = r) (hb : B - 2 ^ r = 0) : FB h m n told e (k + 1) key B s = sm (fun c => FT h m n told e k (key + c * 2 ^ (7 + r * 11)) s) (nsl h m r) := by
  subst hr
  rw [FB]
  unfold nsl FT
  congr 1
  funext c
  rw [if_pos hb]
theorem FB_2 {k key s r B B' : Nat} (hr : lo_r B = r) (hb : B - 2 ^ r = B') (h0 : B' ≠ 0) : FB h m n told e (k + 1) key B s = sm (fun c => FB h m n told e k (key + c * 2 ^ (7 + r * 11)) B' s) (nsl h m r) := by
  subst hr hb
  rw [FB]
  unfold nsl
  congr 1
  funext c
  rw [if_neg h0]
/-- how many turns a set of starts costs -/
def tr_n (h : Am_H) (m B : Nat) : Nat := (if B.testBit 0 = true then sl_n h m B 0 else 0) + (if B.testBit 1 = true then sl_n h m B 0 * sl_n h m B 1 else 0) + (if B.testBit 2 = true then sl_n h m B 0 * sl_n h m B 1 * sl_n h m B 2 else 0)
theorem SG3 {g : Nat → Nat × Nat} {G : Nat → Nat × Nat} {N : Nat → Nat} {key : Nat} (hg : ∀ c, g c = G (sk_key key N c)) (h0 : 1 ≤ N 0) (h1 : 1 ≤ N 1) (h2 : 1 ≤ N 2) : SG g (N 0 * N 1 * N 2) = SG (fun a => SG (fun b => SG (fun c => G (key + a * 128 + b * 262144 + c * 536870912)) (N 2)) (N 1)) (N 0) := by
  rw [Nat.mul_assoc, SG_mul]
  refine SG_c _ (fun a ha => ?_)
  rw [SG_mul]
  refine SG_c _ (fun b hb => ?_)
  refine SG_c _ (fun c hc => ?_)
  have q := dg_of (N := N) (a := a) (b := b) (c := c) hb hc ha
  rw [hg, ← Nat.add_assoc]
  unfold sk_key
  rw [q.1, q.2.1, q.2.2]
theorem pair_c {a b c d : Nat} (h1 : a = c) (h2 : b = d) : (a, b) = (c, d) := by rw [h1, h2]
theorem FB_sum {k key s B : Nat} (hB : B < 8) (h0 : B ≠ 0) : FB h m n told e (k + pcn B) key B s = ((SG (fun c => FT h m n told e k (sk_key key (sl_n h m B) c) s) (sl_n h m B 0 * sl_n h m B 1 * sl_n h m B 2)).1, tr_n h m B + (SG (fun c => FT h m n told e k (sk_key key (sl_n h m B) c) s) (sl_n h m B 0 * sl_n h m B 1 * sl_n h m B 2)).2) := by
  have hn1 : ∀ r, 1 ≤ sl_n h m B r := fun r => by unfold sl_n; split <;> omega
  rw [SG3 (G := fun x => FT h m n told e k x s) (fun c => rfl) (hn1 0) (hn1 1) (hn1 2)]
  have nt : ∀ r, B.testBit r = true → sl_n h m B r = nsl h m r := fun r hr => by unfold sl_n nsl; rw [if_pos hr]
  have nf : ∀ r, B.testBit r = false → sl_n h m B r = 1 := fun r hr => by unfold sl_n; rw [if_neg (by rw [hr]; decide)]
  unfold tr_n
  rcases (show B = 1 ∨ B = 2 ∨ B = 3 ∨ B = 4 ∨ B = 5 ∨ B = 6 ∨ B = 7 by omega) with rfl | rfl | rfl | rfl | rfl | rfl | rfl
  · rw [if_pos (show Nat.testBit 1 0 = true from rfl), if_neg (show ¬ Nat.testBit 1 1 = true by decide), if_neg (show ¬ Nat.testBit 1 2 = true by decide)]
    rw [nt 0 rfl, nf 1 rfl, nf 2 rfl, show k + pcn 1 = k + 1 from rfl, FB_1 (r := 0) rfl rfl, sm_SG]
    simp only [SG_1, Nat.zero_mul, Nat.add_zero, Nat.reducePow, Nat.mul_one]
    exact pair_c rfl (by omega)
  · rw [if_neg (show ¬ Nat.testBit 2 0 = true by decide), if_pos (show Nat.testBit 2 1 = true from rfl), if_neg (show ¬ Nat.testBit 2 2 = true by decide)]
    rw [nf 0 rfl, nt 1 rfl, nf 2 rfl, show k + pcn 2 = k + 1 from rfl, FB_1 (r := 1) rfl rfl, sm_SG]
    simp only [SG_1, Nat.zero_mul, Nat.add_zero, Nat.reducePow, Nat.reduceMul, Nat.reduceAdd, Nat.mul_one, Nat.one_mul]
    exact pair_c rfl (by omega)
  · rw [if_pos (show Nat.testBit 3 0 = true from rfl), if_pos (show Nat.testBit 3 1 = true from rfl), if_neg (show ¬ Nat.testBit 3 2 = true by decide)]
    rw [nt 0 rfl, nt 1 rfl, nf 2 rfl, show k + pcn 3 = k + 1 + 1 from rfl, FB_2 (r := 0) (B' := 2) rfl rfl (by omega), sm_SG]
    simp only [FB_1 (B := 2) (r := 1) rfl rfl, sm_SG, SG_t, SG_1, Nat.zero_mul, Nat.add_zero, Nat.reducePow, Nat.reduceMul, Nat.reduceAdd, Nat.mul_one]
    exact pair_c rfl (by omega)
  · rw [if_neg (show ¬ Nat.testBit 4 0 = true by decide), if_neg (show ¬ Nat.testBit 4 1 = true by decide), if_pos (show Nat.testBit 4 2 = true from rfl)]
    rw [nf 0 rfl, nf 1 rfl, nt 2 rfl, show k + pcn 4 = k + 1 from rfl, FB_1 (r := 2) rfl rfl, sm_SG]
    simp only [SG_1, Nat.zero_mul, Nat.add_zero, Nat.reducePow, Nat.reduceMul, Nat.reduceAdd, Nat.mul_one, Nat.one_mul]
    exact pair_c rfl (by omega)
  · rw [if_pos (show Nat.testBit 5 0 = true from rfl), if_neg (show ¬ Nat.testBit 5 1 = true by decide), if_pos (show Nat.testBit 5 2 = true from rfl)]
    rw [nt 0 rfl, nf 1 rfl, nt 2 rfl, show k + pcn 5 = k + 1 + 1 from rfl, FB_2 (r := 0) (B' := 4) rfl rfl (by omega), sm_SG]
    simp only [FB_1 (B := 4) (r := 2) rfl rfl, sm_SG, SG_t, SG_1, Nat.zero_mul, Nat.add_zero, Nat.reducePow, Nat.reduceMul, Nat.reduceAdd, Nat.mul_one]
    exact pair_c rfl (by omega)
  · rw [if_neg (show ¬ Nat.testBit 6 0 = true by decide), if_pos (show Nat.testBit 6 1 = true from rfl), if_pos (show Nat.testBit 6 2 = true from rfl)]
    rw [nf 0 rfl, nt 1 rfl, nt 2 rfl, show k + pcn 6 = k + 1 + 1 from rfl, FB_2 (r := 1) (B' := 4) rfl rfl (by omega), sm_SG]
    simp only [FB_1 (B := 4) (r := 2) rfl rfl, sm_SG, SG_t, SG_1, Nat.zero_mul, Nat.add_zero, Nat.reducePow, Nat.reduceMul, Nat.reduceAdd, Nat.mul_one, Nat.one_mul]
    exact pair_c rfl (by omega)
  · rw [if_pos (show Nat.testBit 7 0 = true from rfl), if_pos (show Nat.testBit 7 1 = true from rfl), if_pos (show Nat.testBit 7 2 = true from rfl)]
    rw [nt 0 rfl, nt 1 rfl, nt 2 rfl, show k + pcn 7 = k + 1 + 1 + 1 from rfl, FB_2 (r := 0) (B' := 6) rfl rfl (by omega), sm_SG]
    simp only [FB_2 (B := 6) (r := 1) (B' := 4) rfl rfl (show (4 : Nat) ≠ 0 by omega), FB_1 (B := 4) (r := 2) rfl rfl, sm_SG, Nat.add_assoc, SG_t, Nat.zero_mul, Nat.add_zero, Nat.reducePow, Nat.reduceMul, Nat.reduceAdd, Nat.mul_add]
    exact pair_c rfl (by rw [Nat.mul_assoc]; omega)
/-- rows and turns from a key on, from a second on -/
noncomputable def fv (h : Am_H) (m n : Nat) (told : Nat → Int32) (e k : Nat) (r : Nat ⊕ (Nat × Sp_d)) : Nat × Nat := match r with
  | .inl r => (r, 0)
  | .inr (s', p) => FB h m n told e k (sp_K p.1 p.2.1 p.2.2.1) p.2.2.2.toNatClampNeg s'
noncomputable def FJ (h : Am_H) (m n : Nat) (told : Nat → Int32) (e k j x s : Nat) : Nat × Nat := fv h m n told e k (fw h m n told e j s (dk_at x) (dk_lf x) (dk_ls x))
theorem FT_J {k x s : Nat} (hs : s ≤ 201) : FT h m n told e k x s = FJ h m n told e k (201 - s) x (s + 1) := by
  unfold FT FJ fv
  have hf := fw_fi (h := h) (m := m) (n := n) (told := told) (e := e) s (201 - s) (s + 1) (dk_at x) (dk_lf x) (dk_ls x) (by omega)
  rw [show 201 - s + s = 201 by omega] at hf
  rw [hf]
  generalize fw h m n told e (201 - s) (s + 1) (dk_at x) (dk_lf x) (dk_ls x) = r
  rcases r with r | ⟨a, p⟩ <;> rfl
theorem FJ_0 {k x s : Nat} : FJ h m n told e k 0 x s = (1, 0) := rfl
theorem FJ_s {k j x s : Nat} (hg : is_Good h m n L) (hx : pk L n x) : FJ h m n told e k (j + 1) x s = if s ≤ e ∧ s < 201 then (if mv_harm h m n (dk_at x) = 0 ∧ mv_arr h m n (dk_at x) = told s then (if (mx_p h m n x).2.2.2 = 0 then FJ h m n told e k j (mx_K h m n x) (s + 1) else FB h m n told e k (mx_K h m n x) (mx_p h m n x).2.2.2.toNatClampNeg s) else (0, 0)) else (1, 0) := by
  have hn := hg.1.2.1
  have hp : sp_gd (mx_p h m n x).1 (mx_p h m n x).2.1 (mx_p h m n x).2.2.1 := sp_gd_pass hg hx.1.2
  obtain ⟨g1, g2, g3, g4⟩ := gk_K hp
  unfold FJ
  rw [fw_s]
  by_cases z : s ≤ e ∧ s < 201
  · rw [if_pos z, if_pos z]
    by_cases y : mv_harm h m n (dk_at x) = 0 ∧ mv_arr h m n (dk_at x) = told s
    · rw [if_pos y, if_pos y]
      by_cases w : (mx_p h m n x).2.2.2 = 0
      · rw [if_pos w, if_pos (show (mv_pass h m n (dk_at x) (dk_lf x) (dk_ls x)).2.2.2 = 0 from w)]
        have hc := fw_c (h := h) (m := m) (told := told) (e := e) hn j (s + 1) (mx_p h m n x).1 (mx_p h m n x).2.1 (dk_at (mx_K h m n x)) (dk_lf (mx_K h m n x)) (mx_p h m n x).2.2.1 g2.sy g3.sy
        have g4' : dk_ls (mx_K h m n x) = (mx_p h m n x).2.2.1 := g4
        rw [g4']
        show fv h m n told e k (fw h m n told e j (s + 1) (mx_p h m n x).1 (mx_p h m n x).2.1 (mx_p h m n x).2.2.1) = _
        revert hc
        generalize fw h m n told e j (s + 1) (mx_p h m n x).1 (mx_p h m n x).2.1 (mx_p h m n x).2.2.1 = a
        generalize fw h m n told e j (s + 1) (dk_at (mx_K h m n x)) (dk_lf (mx_K h m n x)) (mx_p h m n x).2.2.1 = b
        rcases a with a | ⟨a, p⟩ <;> rcases b with b | ⟨b, q⟩ <;> intro hc <;> simp only at hc <;> unfold fv
        · rw [hc]
        · obtain ⟨rfl, hp1, hp2, hp3⟩ := hc
          show FB h m n told e k (sp_K p.1 p.2.1 p.2.2.1) p.2.2.2.toNatClampNeg a = FB h m n told e k (sp_K q.1 q.2.1 q.2.2.1) q.2.2.2.toNatClampNeg a
          rw [hp3, sp_K_c hp1 hp2]
      · rw [if_neg w, if_neg (show ¬ (mv_pass h m n (dk_at x) (dk_lf x) (dk_ls x)).2.2.2 = 0 from w)]
        rfl
    · rw [if_neg y, if_neg y]; rfl
  · rw [if_neg z, if_neg z]; rfl
end
