/-! keys as the model's rows -/
def md_dec (x i : Nat) : Int32 := if i < 3 then dk_at x i else if i < 6 then dk_lf x (i - 3) else dk_ls x
theorem md_dec_a {x r : Nat} (h : r < 3) : md_dec x r = dk_at x r := by unfold md_dec; rw [if_pos h]
theorem md_dec_l {x r : Nat} (h : r < 3) : md_dec x (3 + r) = dk_lf x r := by unfold md_dec; rw [if_neg (by omega), if_pos (by omega), show 3 + r - 3 = r by omega]
theorem md_dec_s {x : Nat} : md_dec x 6 = dk_ls x := by unfold md_dec; rw [if_neg (by omega), if_neg (by omega)]
theorem kn_lt {a b : Nat → Nat} {w : Nat} (ha : ∀ r, r < 3 → a r < 32 ∧ b r < 64) (hw : w < 4) : sp_keyN a b w < 2 ^ 35 := by
  have h0 := ha 0 (by omega)
  have h1 := ha 1 (by omega)
  have h2 := ha 2 (by omega)
  unfold sp_keyN
  simp only [Nat.reducePow]
  omega
theorem kn_of {x : Nat} (hx : x < 2 ^ 35) : x = sp_keyN (at_n x) (lf_n x) (x % 4) := by
  unfold sp_keyN at_n lf_n
  simp only [Nat.reducePow, Nat.reduceMul] at hx ⊢
  omega
theorem md_inj {x y : Nat} (hx : x < 2 ^ 35) (hy : y < 2 ^ 35) (e : ∀ i, i < 7 → md_dec y i = md_dec x i) : y = x := by
  have ea : ∀ r, r < 3 → at_n y r = at_n x r := fun r hr => by
    have := e r (by omega)
    rw [md_dec_a hr, md_dec_a hr] at this
    have b1 : at_n y r < 32 := Nat.mod_lt _ (by omega)
    have b2 : at_n x r < 32 := Nat.mod_lt _ (by omega)
    have t2 : nI (at_n y r) = nI (at_n x r) := by
      have t : nI (at_n y r) - 1 = nI (at_n x r) - 1 := this
      rw [← Int32.sub_add_cancel (nI (at_n y r)) 1, t, Int32.sub_add_cancel]
    exact nI_ij (by omega) (by omega) t2
  have el : ∀ r, r < 3 → lf_n y r = lf_n x r := fun r hr => by
    have := e (3 + r) (by omega)
    rw [md_dec_l hr, md_dec_l hr] at this
    have b1 : lf_n y r < 64 := Nat.mod_lt _ (by omega)
    have b2 : lf_n x r < 64 := Nat.mod_lt _ (by omega)
    exact nI_ij (by omega) (by omega) (show nI (lf_n y r) = nI (lf_n x r) from this)
  have ew : y % 4 = x % 4 := by
    have := e 6 (by omega)
    rw [md_dec_s, md_dec_s] at this
    have t2 : nI (y % 4) = nI (x % 4) := by
      have t : nI (y % 4) - 1 = nI (x % 4) - 1 := this
      rw [← Int32.sub_add_cancel (nI (y % 4)) 1, t, Int32.sub_add_cancel]
    exact nI_ij (by omega) (by omega) t2
  rw [kn_of hx, kn_of hy]
  unfold sp_keyN
  rw [ea 0 (by omega), ea 1 (by omega), ea 2 (by omega), el 0 (by omega), el 1 (by omega), el 2 (by omega), ew]
/-- a state's key in the model -/
def pk (L n x : Nat) : Prop := gk x ∧ x < 2 ^ 35 ∧ gl L n (dk_at x)
theorem pk_K {L n : Nat} {at_ left : Nat → Int32} {last : Int32} (hn : n ≤ 3) (hg : sp_gd at_ left last) (hl : gl L n at_) : pk L n (sp_K at_ left last) := by
  obtain ⟨g1, g2, g3, g4⟩ := gk_K hg
  refine ⟨g1, ?_, hl.c (fun r hr => (g2 r (by omega)).symm)⟩
  have f := sp_gd_fit hg
  unfold sp_K
  refine kn_lt (fun r hr => ⟨(f.1 r hr).2.1, (f.1 r hr).2.2.2⟩) f.2.2
theorem md_dec_K {at_ left : Nat → Int32} {last : Int32} (hg : sp_gd at_ left last) (i : Nat) (hi : i < 7) : md_dec (sp_K at_ left last) i = if i < 3 then at_ i else if i < 6 then left (i - 3) else last := by
  obtain ⟨g1, g2, g3, g4⟩ := gk_K hg
  unfold md_dec
  by_cases a : i < 3
  · rw [if_pos a, if_pos a]; exact g2 i a
  · rw [if_neg a, if_neg a]
    by_cases b : i < 6
    · rw [if_pos b, if_pos b]; exact g3 (i - 3) (by omega)
    · rw [if_neg b, if_neg b]; exact g4
/-- a key with slips more -/
theorem sk_dec {h : Am_H} {m n L x : Nat} {D : Nat → Nat} (hm : is_Good h m n L) (h1 : 0 < L) (hx : pk L n x) (hD : ∀ r, r < 3 → D r ≤ mx_M h m n x r) : pk L n (mx_K h m n x + D 0 * 2 ^ 7 + D 1 * 2 ^ 18 + D 2 * 2 ^ 29) ∧ ∀ i, i < 7 → md_dec (mx_K h m n x + D 0 * 2 ^ 7 + D 1 * 2 ^ 18 + D 2 * 2 ^ 29) i = if i < 3 then (mx_p h m n x).1 i else if i < 6 then (mx_p h m n x).2.1 (i - 3) + nI (D (i - 3)) else (mx_p h m n x).2.2.1 := by
  have hM := mx_M_in hm hx.1
  have hp : sp_gd (mx_p h m n x).1 (mx_p h m n x).2.1 (mx_p h m n x).2.2.1 := sp_gd_pass hm hx.1.2
  have hgl : gl L n (mx_p h m n x).1 := gl_pass hm.2.1 hm.2.2.1 h1 hx.2.2
  have hn := hm.1.2.1
  unfold mx_K
  generalize mx_p h m n x = p at *
  obtain ⟨a, b, w, hr, hw, hw4⟩ := hp
  have hb : ∀ r, r < 3 → (p.2.1 r).toNatClampNeg = b r ∧ b r + D r ≤ 33 := fun r hr3 => by
    obtain ⟨-, -, r3, r4⟩ := hr r hr3
    have e1 : (p.2.1 r).toNatClampNeg = b r := by rw [r3, nI_clamp (by omega)]
    have := (hM r hr3).2.2
    rw [e1] at this
    have := hD r hr3
    exact ⟨e1, by omega⟩
  have hgd : sp_gd p.1 (fun r => p.2.1 r + nI (D r)) p.2.2.1 := ⟨a, fun r => b r + D r, w, fun r hr3 => ⟨(hr r hr3).1, (hr r hr3).2.1, by show p.2.1 r + nI (D r) = nI (b r + D r); rw [(hr r hr3).2.2.1, nI_add], (hb r hr3).2⟩, hw, hw4⟩
  have e : sp_K p.1 p.2.1 p.2.2.1 + D 0 * 2 ^ 7 + D 1 * 2 ^ 18 + D 2 * 2 ^ 29 = sp_K p.1 (fun r => p.2.1 r + nI (D r)) p.2.2.1 := by
    have c : ∀ r, r < 3 → (p.2.1 r + nI (D r)).toNatClampNeg = b r + D r := fun r hr3 => by
      have := (hb r hr3).2
      rw [(hr r hr3).2.2.1, nI_add, nI_clamp (by omega)]
    unfold sp_K sp_keyN
    simp only [c 0 (by omega), c 1 (by omega), c 2 (by omega), (hb 0 (by omega)).1, (hb 1 (by omega)).1, (hb 2 (by omega)).1, Nat.reducePow]
    omega
  rw [e]
  refine ⟨pk_K hn hgd hgl, fun i hi => ?_⟩
  rw [md_dec_K hgd i hi]
/-- how many slips a rope has -/
theorem sl_n_M {h : Am_H} {m n x B r : Nat} (hB : B < 8) (eB : (mx_p h m n x).2.2.2 = nI B) (hr : r < 3) : sl_n h m B r = mx_M h m n x r + 1 := by
  unfold sl_n mx_M sp_ms
  rw [eB]
  by_cases z : B.testBit r = true
  · rw [if_pos z, if_neg (fun w => by rw [(bt_at B hB r hr).mp w] at z; cases z)]
  · rw [if_neg z, if_pos ((bt_at B hB r hr).mpr (by simpa using z))]
    rfl
theorem so_n {h : Am_H} {m B : Nat} {n : Nat} (hn : n ≤ 3) (hB : B < 8) (hsl : ∀ r, r < n → ∃ s, am_I h (m + 5) r = nI s ∧ s ≤ 3) : ∀ k, k ≤ n → md_so (am_I h (m + 5)) (nI B) k = nI (if k = 0 then 1 else if k = 1 then sl_n h m B 0 else if k = 2 then sl_n h m B 0 * sl_n h m B 1 else sl_n h m B 0 * sl_n h m B 1 * sl_n h m B 2) := by
  have st : ∀ k, k < n → (if (nI B >>> (nI k &&& 31)) &&& 1 = 1 then am_I h (m + 5) k + 1 else 1) = nI (sl_n h m B k) := fun k hk => by
    obtain ⟨s, es, hs⟩ := hsl k hk
    unfold sl_n
    rw [es, nI_clamp (by omega)]
    have bt := bt_at B hB k (by omega)
    rcases and1 (nI B >>> (nI k &&& 31)) with z | z
    · rw [if_neg (by rw [z]; decide), if_neg (by rw [bt.mp z]; decide)]; rfl
    · rw [if_pos z, if_pos (by
        cases ht : B.testBit k
        · exact absurd (z.symm.trans (bt.mpr ht)) (by decide)
        · rfl), nI_1]
  intro k
  match k with
  | 0 => intro _; rfl
  | 1 => intro h1; rw [md_so, st 0 (by omega), md_so, if_neg (by omega), if_pos rfl]; show nI 1 * nI _ = _; rw [nI_mul, Nat.one_mul]
  | 2 => intro h1; rw [md_so, st 1 (by omega), md_so, st 0 (by omega), md_so, if_neg (by omega), if_neg (by omega), if_pos rfl]; show nI 1 * nI _ * nI _ = _; rw [nI_mul, nI_mul, Nat.one_mul]
  | 3 => intro h1; rw [md_so, st 2 (by omega), md_so, st 1 (by omega), md_so, st 0 (by omega), md_so, if_neg (by omega), if_neg (by omega), if_neg (by omega)]; show nI 1 * nI _ * nI _ * nI _ = _; rw [nI_mul, nI_mul, nI_mul, Nat.one_mul]
  | k + 4 => intro h1; omega
theorem so_all {h : Am_H} {m B : Nat} {n : Nat} (hn : n ≤ 3) (hB : B < 8) (hBn : ∀ r, n ≤ r → B.testBit r = false) (hsl : ∀ r, r < n → ∃ s, am_I h (m + 5) r = nI s ∧ s ≤ 3) : md_so (am_I h (m + 5)) (nI B) n = nI (sl_n h m B 0 * sl_n h m B 1 * sl_n h m B 2) := by
  have n1 : ∀ r, n ≤ r → sl_n h m B r = 1 := fun r hr => by unfold sl_n; rw [if_neg (by rw [hBn r hr]; decide)]
  rw [so_n hn hB hsl n (Nat.le_refl _)]
  rcases (show n = 0 ∨ n = 1 ∨ n = 2 ∨ n = 3 by omega) with rfl | rfl | rfl | rfl
  · rw [if_pos rfl, n1 0 (by omega), n1 1 (by omega), n1 2 (by omega)]
  · rw [if_neg (by omega), if_pos rfl, n1 1 (by omega), n1 2 (by omega), Nat.mul_one, Nat.mul_one]
  · rw [if_neg (by omega), if_neg (by omega), if_pos rfl, n1 2 (by omega), Nat.mul_one]
  · rw [if_neg (by omega), if_neg (by omega), if_neg (by omega)]
theorem sl_n_b {h : Am_H} {m B : Nat} {n : Nat} (hBn : ∀ r, n ≤ r → B.testBit r = false) (hsl : ∀ r, r < n → ∃ s, am_I h (m + 5) r = nI s ∧ s ≤ 3) (r : Nat) : 1 ≤ sl_n h m B r ∧ sl_n h m B r ≤ 4 := by
  unfold sl_n
  by_cases z : B.testBit r = true
  · rw [if_pos z]
    by_cases hr : r < n
    · obtain ⟨s, es, hs⟩ := hsl r hr
      rw [es, nI_clamp (by omega)]
      omega
    · rw [hBn r (by omega)] at z; cases z
  · rw [if_neg z]; omega
