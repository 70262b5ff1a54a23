/-! Planner: what was come to is closed under a second and starts -/
theorem pre.mem {ks ks' : List Nat} (h : pre ks ks') {x : Nat} (hx : x ∈ ks) : x ∈ ks' := by
  obtain ⟨i, hi, e⟩ := List.getElem_of_mem hx
  have e : ks.getD i 0 = x := by rw [List.getD_eq_getElem?_getD, List.getElem?_eq_getElem hi]; exact e
  rw [← e, ← h.2 i hi]
  exact gd_mem (Nat.lt_of_lt_of_le hi h.1)
theorem f_ad1_in {ks ks' : List Nat} {x : Nat} (e : f_ad1 ks x = some ks') : x ∈ ks' ∧ pre ks ks' ∧ (ks.length ≤ 4000 → ks'.length ≤ 4000) := by
  unfold f_ad1 f_add at e
  split at e
  · rename_i hc
    injection e with e
    subst e
    split
    · rename_i hx
      exact ⟨hx, pre.rf, fun q => q⟩
    · rename_i hx
      refine ⟨by simp, ⟨by rw [List.length_append]; omega, fun i hi => gd_app hi⟩, fun q => ?_⟩
      have := hc.resolve_left hx
      rw [List.length_append]
      show ks.length + 1 ≤ 4000
      omega
  · cases e
theorem pl_s_in {key W : Nat} : ∀ (j b : Nat) (ks ks' : List Nat), pl_s key W j b ks = some ks' → (∀ i, b ≤ i → i < b + j → i &&& W = i → key + st_b i ∈ ks') ∧ pre ks ks' ∧ (ks.length ≤ 4000 → ks'.length ≤ 4000) := by
  intro j
  induction j with
  | zero =>
    intro b ks ks' e
    injection e with e
    subst e
    exact ⟨fun i h1 h2 => absurd h2 (by omega), pre.rf, fun q => q⟩
  | succ j ih =>
    intro b ks ks' e
    rw [pl_s] at e
    by_cases z : b &&& W = b
    · rw [if_pos z, Option.bind_eq_some_iff] at e
      obtain ⟨k1, e1, e2⟩ := e
      obtain ⟨a1, a2, a3⟩ := f_ad1_in e1
      obtain ⟨b1, b2, b3⟩ := ih (b + 1) k1 ks' e2
      refine ⟨fun i h1 h2 hw => ?_, a2.tr b2, fun q => b3 (a3 q)⟩
      by_cases y : i = b
      · rw [y]; exact b2.mem a1
      · exact b1 i (by omega) (by omega) hw
    · rw [if_neg z] at e
      obtain ⟨b1, b2, b3⟩ := ih (b + 1) ks ks' e
      refine ⟨fun i h1 h2 hw => ?_, b2, b3⟩
      by_cases y : i = b
      · exact absurd (y ▸ hw) z
      · exact b1 i (by omega) (by omega) hw
/-- the couples behind x are there -/
def pl_cl (h : Am_H) (m n N : Nat) (ks : List Nat) (x : Nat) : Prop := x / 32768 < N → mv_harm h m n (dp_at x) = 0 → ∀ b, b ≤ mv_W h m n (mp_at h m n x) → b &&& mv_W h m n (mp_at h m n x) = b → (x / 32768 + 1) * 32768 + sp_pk (mp_at h m n x) + st_b b ∈ ks
theorem pl_cl.mo {h : Am_H} {m n N x : Nat} {ks ks' : List Nat} (a : pl_cl h m n N ks x) (p : pre ks ks') : pl_cl h m n N ks' x := fun h1 h2 b h3 h4 => p.mem (a h1 h2 b h3 h4)
theorem pl_run_cl {h : Am_H} {m n L N : Nat} (hm : is_Good h m n L) (hN : N < 1000) : ∀ (j i : Nat) (ks ks' : List Nat), i + j = 4000 → ks.length ≤ 4000 → ks_so ks → (∀ y, y ∈ ks → i < ks.length → y / 32768 ≤ ks.getD i 0 / 32768 + 1) → (∀ y, y ∈ ks → gq N y) → (∀ k, k < i → k < ks.length → pl_cl h m n N ks (ks.getD k 0)) → pl_run h m n N j i ks = some ks' → (∀ k, k < ks'.length → pl_cl h m n N ks' (ks'.getD k 0)) ∧ pre ks ks' := by
  intro j
  induction j with
  | zero =>
    intro i ks ks' hij hl hs _ _ hc e
    injection e with e
    subst e
    exact ⟨fun k hk => hc k (by omega) hk, pre.rf⟩
  | succ j ih =>
    intro i ks ks' hij hl hs hb hg hc e
    rw [pl_run] at e
    by_cases z : i < ks.length
    · rw [if_pos z] at e
      have hgx := hg _ (gd_mem z)
      by_cases y : N ≤ ks.getD i 0 / 32768
      · rw [if_pos y] at e
        injection e with e
        subst e
        refine ⟨fun k hk => ?_, pre.rf⟩
        rcases Nat.lt_or_ge k i with w | w
        · exact hc k w hk
        · have := hs i k w hk
          exact fun h1 => absurd h1 (by omega)
      · rw [if_neg y] at e
        by_cases w : mv_harm h m n (dp_at (ks.getD i 0)) = 0
        · rw [if_pos w, Option.bind_eq_some_iff] at e
          obtain ⟨k1, e1, e2⟩ := e
          have gp : sp_gp (mp_at h m n (ks.getD i 0)) := sp_gp_at2 hm.2.1 hm.2.2.1 hgx.2.2
          obtain ⟨a1, a2⟩ := pl_st_so hm.1.2.1 gp ⟨hs, fun y hy => hb y hy z⟩ e1
          obtain ⟨c1, c2, c3⟩ := pl_s_in _ _ _ _ e1
          obtain ⟨b1, b2⟩ := ih (i + 1) k1 ks' (by omega) (c3 hl) a1.1 (fun y hy hi => by
            have q1 := a1.2 y hy
            have q2 := a1.1 i (i + 1) (by omega) hi
            rw [a2.2 i z] at q2
            omega) (pl_st_P hm.1.2.1 gp (by omega) hN hg e1) (fun k hk hk1 => by
            by_cases q : k = i
            · subst q
              rw [a2.2 k z]
              exact fun _ _ b h3 h4 => c1 b (by omega) (by omega) h4
            · rw [a2.2 k (by omega)]
              exact (hc k (by omega) (by omega)).mo a2) e2
          exact ⟨b1, a2.tr b2⟩
        · rw [if_neg w] at e
          refine ih (i + 1) ks ks' (by omega) hl hs (fun y hy hi => ?_) hg (fun k hk hk1 => ?_) e
          · have q1 := hb y hy z
            have q2 := hs i (i + 1) (by omega) hi
            omega
          · by_cases q : k = i
            · subst q
              exact fun _ h2 => absurd h2 w
            · exact hc k (by omega) hk1
    · rw [if_neg z] at e
      injection e with e
      subst e
      exact ⟨fun k hk => hc k (by omega) hk, pre.rf⟩
/-- all couples: the first ones are there, and each one's next -/
theorem pl_all_cl {h : Am_H} {m n L N : Nat} {ks : List Nat} (hm : is_Good h m n L) (hN : N < 1000) (e : pl_all h m n N = some ks) : (∀ b, b ≤ mv_W h m n (fun _ => -1) → b &&& mv_W h m n (fun _ => -1) = b → 0 * 32768 + sp_pk (fun _ => -1) + st_b b ∈ ks) ∧ ∀ x, x ∈ ks → pl_cl h m n N ks x := by
  unfold pl_all at e
  rw [Option.bind_eq_some_iff] at e
  obtain ⟨k1, e1, e2⟩ := e
  have h0 : q_so [] 0 := ⟨fun i j _ hj => absurd hj (by simp), fun y hy => by cases hy⟩
  obtain ⟨a1, -⟩ := pl_st_so hm.1.2.1 gp_none h0 e1
  obtain ⟨c1, c2, c3⟩ := pl_s_in _ _ _ _ e1
  obtain ⟨b1, b2⟩ := pl_run_cl hm hN 4000 0 k1 ks (by omega) (c3 (by decide)) a1.1 (fun y hy _ => by have := a1.2 y hy; omega) (pl_st_P hm.1.2.1 gp_none (by omega) hN (fun y hy => by cases hy) e1) (fun k hk => absurd hk (by omega)) e2
  refine ⟨fun b h1 h2 => b2.mem (c1 b (by omega) (by omega) h2), fun x hx => ?_⟩
  obtain ⟨i, hi, ex⟩ := List.getElem_of_mem hx
  have ex : ks.getD i 0 = x := by rw [List.getD_eq_getElem?_getD, List.getElem?_eq_getElem hi]; exact ex
  rw [← ex]
  exact b1 i hi
