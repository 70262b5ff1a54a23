/-! Planner: keep -/
noncomputable def kp_f (h : Am_H) (m n N : Nat) (ks : List Nat) (s : Nat) (at_ : Nat → Int32) : Nat := pl_fst h m n ks (vlx h m n N ks) s at_ (pl_bst h m n ks (vlx h m n N ks) s at_)
noncomputable def kp_at (h : Am_H) (m n N : Nat) (ks : List Nat) : Nat → (Nat → Int32)
  | 0 => at_no
  | s + 1 => mp_at h m n (s * 32768 + sp_pk (kp_at h m n N ks s) + st_b (kp_f h m n N ks s (kp_at h m n N ks s)))
noncomputable def kp_b (h : Am_H) (m n N : Nat) (ks : List Nat) (s : Nat) : Nat := kp_f h m n N ks s (kp_at h m n N ks s)
noncomputable def kp_r (h : Am_H) (m n N : Nat) (ks : List Nat) (s : Nat) : Int32 := pl_bst h m n ks (vlx h m n N ks) s (kp_at h m n N ks s)
noncomputable def kp_x (h : Am_H) (m n N : Nat) (ks : List Nat) (s : Nat) : Nat := s * 32768 + sp_pk (kp_at h m n N ks s) + st_b (kp_b h m n N ks s)
theorem kp_ok {h : Am_H} {m n L N : Nat} {ks : List Nat} (hm : is_Good h m n L) (hN : N < 1000) (e : pl_all h m n N = some ks) : ∀ s, s ≤ N → sp_gp (kp_at h m n N ks s) ∧ ¬ kp_r h m n N ks s = -1 := by
  intro s
  induction s with
  | zero => intro _; exact ⟨gp_none, pl_most hm hN e⟩
  | succ s ih =>
    intro hs
    obtain ⟨g, r⟩ := ih (by omega)
    obtain ⟨q1, q2, q3, q4, q5⟩ := pl_fst_at hm.1.2.1 r
    obtain ⟨k1, k2, k3⟩ := pl_key (h := h) (m := m) (n := n) (s := s) hm.1.2.1 g q1 q3
    have hst := vlx_step (ks := ks) (N := N) hm k3 (by rw [k2]; omega)
    rw [q5, k2] at hst
    have gp : sp_gp (kp_at h m n N ks (s + 1)) := sp_gp_at2 hm.2.1 hm.2.2.1 k3
    refine ⟨gp, fun z => ?_⟩
    have z : pl_bst h m n ks (vlx h m n N ks) (s + 1) (mp_at h m n (s * 32768 + sp_pk (kp_at h m n N ks s) + st_b (pl_fst h m n ks (vlx h m n N ks) s (kp_at h m n N ks s) (pl_bst h m n ks (vlx h m n N ks) s (kp_at h m n N ks s))))) = -1 := z
    by_cases w : mv_harm h m n (dp_at (s * 32768 + sp_pk (kp_at h m n N ks s) + st_b (pl_fst h m n ks (vlx h m n N ks) s (kp_at h m n N ks s) (pl_bst h m n ks (vlx h m n N ks) s (kp_at h m n N ks s))))) = 0
    · rw [if_pos w, if_pos z] at hst
      exact r hst
    · rw [if_neg w] at hst
      exact r hst
/-- a second of the plan -/
theorem kp_go {h : Am_H} {m n L N : Nat} {ks : List Nat} (hm : is_Good h m n L) (hN : N < 1000) (e : pl_all h m n N = some ks) {s : Nat} (hs : s ≤ N) : kp_b h m n N ks s < 8 ∧ kp_x h m n N ks s < 2 ^ 40 ∧ (s < N → mv_harm h m n (dp_at (kp_x h m n N ks s)) = 0 ∧ kp_r h m n N ks s - sp_loads (am_I h (m + 2)) (mv_arr h m n (dp_at (kp_x h m n N ks s))) n = kp_r h m n N ks (s + 1)) := by
  obtain ⟨g, r⟩ := kp_ok hm hN e s hs
  obtain ⟨q1, q2, q3, q4, q5⟩ := pl_fst_at hm.1.2.1 r
  change kp_b h m n N ks s < 8 at q1
  change kp_b h m n N ks s &&& _ = kp_b h m n N ks s at q3
  change vlx h m n N ks (kp_x h m n N ks s) = kp_r h m n N ks s at q5
  have hlt := (sp_pk_lt g).2 _ q1
  obtain ⟨k1, k2, k3⟩ := pl_key (h := h) (m := m) (n := n) (s := s) hm.1.2.1 g q1 q3
  change kp_x h m n N ks s / 32768 = s at k2
  change sp_gp (dp_at (kp_x h m n N ks s)) at k3
  refine ⟨q1, by unfold kp_x; omega, fun hsN => ?_⟩
  have hst := vlx_step (ks := ks) (N := N) hm k3 (by rw [k2]; omega)
  rw [q5, k2] at hst
  have r2 := (kp_ok hm hN e (s + 1) (by omega)).2
  change kp_r h m n N ks s = if _ then (if kp_r h m n N ks (s + 1) = -1 then -1 else _ + kp_r h m n N ks (s + 1)) else -1 at hst
  by_cases w : mv_harm h m n (dp_at (kp_x h m n N ks s)) = 0
  · rw [if_pos w, if_neg r2] at hst
    refine ⟨w, ?_⟩
    rw [hst, Int32.add_comm, Int32.add_sub_cancel]
  · rw [if_neg w] at hst
    exact absurd hst r
