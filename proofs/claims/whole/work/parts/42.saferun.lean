/-! Safety: the search -/
theorem f_ad1_P {P : Nat → Prop} {ks ks' : List Nat} {x : Nat} (hx : P x) (hk : ∀ y, y ∈ ks → P y) (e : f_ad1 ks x = some ks') : ∀ y, y ∈ ks' → P y := by
  unfold f_ad1 f_add at e
  split at e
  · injection e with e
    subst e
    intro y hy
    split at hy
    · exact hk y hy
    · rcases List.mem_append.mp hy with q | q
      · exact hk y q
      · rw [List.mem_singleton] at q
        exact q ▸ hx
  · cases e
theorem sl_c_P {P : Nat → Prop} {base : Nat} : ∀ (j c : Nat) (ks ks' : List Nat), (∀ i, c ≤ i → i < c + j → P (base + i * 2 ^ 29)) → (∀ y, y ∈ ks → P y) → sl_c base j c ks = some ks' → ∀ y, y ∈ ks' → P y := by
  intro j
  induction j with
  | zero =>
    intro c ks ks' _ hk e
    injection e with e
    exact e ▸ hk
  | succ j ih =>
    intro c ks ks' hP hk e
    rw [sl_c, Option.bind_eq_some_iff] at e
    obtain ⟨k1, e1, e2⟩ := e
    exact ih (c + 1) k1 ks' (fun i h1 h2 => hP i (by omega) (by omega)) (f_ad1_P (hP c (by omega) (by omega)) hk e1) e2
theorem sl_b_P {P : Nat → Prop} {base M2 : Nat} : ∀ (j b : Nat) (ks ks' : List Nat), (∀ i c, b ≤ i → i < b + j → c ≤ M2 → P (base + i * 2 ^ 18 + c * 2 ^ 29)) → (∀ y, y ∈ ks → P y) → sl_b base M2 j b ks = some ks' → ∀ y, y ∈ ks' → P y := by
  intro j
  induction j with
  | zero =>
    intro c ks ks' _ hk e
    injection e with e
    exact e ▸ hk
  | succ j ih =>
    intro b ks ks' hP hk e
    rw [sl_b, Option.bind_eq_some_iff] at e
    obtain ⟨k1, e1, e2⟩ := e
    exact ih (b + 1) k1 ks' (fun i c h1 h2 h3 => hP i c (by omega) (by omega) h3) (sl_c_P _ _ _ _ (fun i h1 h2 => hP b i (by omega) (by omega) (by omega)) hk e1) e2
theorem sl_a_P {P : Nat → Prop} {base M1 M2 : Nat} : ∀ (j a : Nat) (ks ks' : List Nat), (∀ i b c, a ≤ i → i < a + j → b ≤ M1 → c ≤ M2 → P (base + i * 2 ^ 7 + b * 2 ^ 18 + c * 2 ^ 29)) → (∀ y, y ∈ ks → P y) → sl_a base M1 M2 j a ks = some ks' → ∀ y, y ∈ ks' → P y := by
  intro j
  induction j with
  | zero =>
    intro c ks ks' _ hk e
    injection e with e
    exact e ▸ hk
  | succ j ih =>
    intro a ks ks' hP hk e
    rw [sl_a, Option.bind_eq_some_iff] at e
    obtain ⟨k1, e1, e2⟩ := e
    exact ih (a + 1) k1 ks' (fun i b c h1 h2 h3 h4 => hP i b c (by omega) (by omega) h3 h4) (sl_b_P _ _ _ _ (fun i c h1 h2 h3 => hP a i c (by omega) (by omega) (by omega) h3) hk e1) e2
noncomputable def mx_p (h : Am_H) (m n x : Nat) : Sp_d := mv_pass h m n (dk_at x) (dk_lf x) (dk_ls x)
noncomputable def mx_M (h : Am_H) (m n x r : Nat) : Nat := (sp_ms (mx_p h m n x).2.2.2 (am_I h (m + 5)) r).toNatClampNeg
noncomputable def mx_K (h : Am_H) (m n x : Nat) : Nat := sp_K (mx_p h m n x).1 (mx_p h m n x).2.1 (mx_p h m n x).2.2.1
noncomputable def sf_step (h : Am_H) (m n x : Nat) (ks : List Nat) : Option (List Nat) := sl_a (mx_K h m n x) (mx_M h m n x 1) (mx_M h m n x 2) (mx_M h m n x 0 + 1) 0 ks
theorem mx_M_in {h : Am_H} {m n L x : Nat} (hm : is_Good h m n L) (hx : gk x) : ∀ r, r < 3 → sp_ms (mx_p h m n x).2.2.2 (am_I h (m + 5)) r = nI (mx_M h m n x r) ∧ mx_M h m n x r ≤ 3 ∧ ((mx_p h m n x).2.1 r).toNatClampNeg + mx_M h m n x r ≤ 33 := by
  have hp := sp_gd_pass hm hx.2
  obtain ⟨⟨-, hn, -⟩, hL, hL2, hgl⟩ := hm
  intro r hr
  obtain ⟨B, hB, eB, qB⟩ := sp_sd_bits (L := am_I h m 0) (needs := am_I h m 2) (pull := am_I h (m + 3)) (glass := am_I h (m + 4)) (rule := am_I h (m + 6)) (f := sp_at2 (am_I h m 0) n (mv_go h m n (dk_at x))) (g := sp_lf n (dk_lf x)) (x := dk_ls x) hn n (Nat.le_refl _)
  have eB : (mx_p h m n x).2.2.2 = nI B := eB
  have qB : ∀ r, B.testBit r = true → r < n ∧ (mx_p h m n x).2.1 r = am_I h (m + 4) r := qB
  unfold mx_M
  rw [eB]
  unfold sp_ms
  by_cases z : B.testBit r = true
  · rw [if_neg (fun w => by rw [(bt_at B hB r hr).mp w] at z; cases z)]
    obtain ⟨q1, q2⟩ := qB r z
    obtain ⟨g, s, g1, g2, g3, s1, s2⟩ := hgl r q1
    rw [s1, q2, g1, nI_clamp (by omega), nI_clamp (by omega)]
    exact ⟨rfl, s2, by omega⟩
  · rw [if_pos ((bt_at B hB r hr).mpr (by simpa using z))]
    obtain ⟨a, b, w, hr3, -⟩ := hp
    have := hr3 r hr
    have e : (mx_p h m n x).2.1 r = nI (b r) := this.2.2.1
    rw [e, nI_clamp (by omega)]
    exact ⟨rfl, by decide, by show b r + 0 ≤ 33; omega⟩
theorem sf_step_P {h : Am_H} {m n L x : Nat} {ks ks' : List Nat} (hm : is_Good h m n L) (hx : gk x) (hk : ∀ y, y ∈ ks → gk y) (e : sf_step h m n x ks = some ks') : ∀ y, y ∈ ks' → gk y := by
  have hM := mx_M_in hm hx
  have hp : sp_gd (mx_p h m n x).1 (mx_p h m n x).2.1 (mx_p h m n x).2.2.1 := sp_gd_pass hm hx.2
  obtain ⟨M0, M0', M0''⟩ := hM 0 (by omega)
  obtain ⟨M1, M1', M1''⟩ := hM 1 (by omega)
  obtain ⟨M2, M2', M2''⟩ := hM 2 (by omega)
  refine sl_a_P _ _ ks ks' (fun a b c h1 h2 h3 h4 => ?_) hk e
  obtain ⟨p, q, w, hr, hw, hw4⟩ := hp
  have e : mx_K h m n x + a * 2 ^ 7 + b * 2 ^ 18 + c * 2 ^ 29 = sp_keyN (fun r => ((mx_p h m n x).1 r + 1).toNatClampNeg) (fun r => ((mx_p h m n x).2.1 r).toNatClampNeg + (if r = 0 then a else if r = 1 then b else c)) ((mx_p h m n x).2.2.1 + 1).toNatClampNeg := by
    unfold mx_K sp_K sp_keyN
    simp only [if_pos, show ¬ (1 : Nat) = 0 from by omega, show ¬ (2 : Nat) = 0 from by omega, show ¬ (2 : Nat) = 1 from by omega, if_false]
    omega
  rw [e]
  refine gk_of (fun r hr3 => ?_) (by rw [hw, nI_clamp (by omega)]; exact hw4)
  obtain ⟨r1, r2, r3, r4⟩ := hr r hr3
  refine ⟨by show Int32.toNatClampNeg (_ + 1) ≤ 20; rw [r1, nI_clamp (by omega)]; exact r2, ?_⟩
  rcases (show r = 0 ∨ r = 1 ∨ r = 2 by omega) with rfl | rfl | rfl
  · show _ + a ≤ 33
    omega
  · show _ + b ≤ 33
    omega
  · show _ + c ≤ 33
    omega
noncomputable def sf_run (h : Am_H) (m n : Nat) : Nat → Nat → Nat → Nat → List Nat → Int32 → Option (Int32 × Nat)
  | 0, _, _, _, ks, so => some (so, ks.length)
  | j + 1, i, sec, ends, ks, so => if i < ks.length then
      (if mv_harm h m n (dk_at (ks.getD i 0)) = 0 then (sf_step h m n (ks.getD i 0) ks).bind (fun ks' => sf_run h m n j (i + 1) (if i = ends then sec + 1 else sec) (if i = ends then ks.length else ends) ks' so)
      else sf_run h m n j (i + 1) (if i = ends then sec + 1 else sec) (if i = ends then ks.length else ends) ks (if so = -1 then nI (if i = ends then sec + 1 else sec) else so))
      else some (so, ks.length)
