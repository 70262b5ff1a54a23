/-! Planner.search -/
def X_ps (P F : Nat) : Nat → Prop := fun q => (P ≤ q ∧ q ≤ P + 6) ∨ X_add F q ∨ q = F + 2
section
variable {l : Am_L} {d : Nat} {h : Am_H} {m c n P F L : Nat} {K : Am_R → Am_H → Prop}
theorem pl_st_eq {h h' : Am_H} {m n s : Nat} (e0 : am_I h' m = am_I h m) (e3 : am_I h' (m + 3) = am_I h (m + 3)) (f : Nat → Int32) (ks : List Nat) : pl_st h' m n s f ks = pl_st h m n s f ks := by
  unfold pl_st
  rw [mv_W_eq e0 e3]
theorem mp_at_eq {h h' : Am_H} {m n : Nat} (e0 : am_I h' m = am_I h m) (e1 : am_I h' (m + 1) = am_I h (m + 1)) (e3 : am_I h' (m + 3) = am_I h (m + 3)) (x : Nat) : mp_at h' m n x = mp_at h m n x := by
  unfold mp_at
  rw [e0, mv_go_eq e0 e1 e3]
theorem pl_run_eq {h h' : Am_H} {m n N : Nat} (e0 : am_I h' m = am_I h m) (e1 : am_I h' (m + 1) = am_I h (m + 1)) (e3 : am_I h' (m + 3) = am_I h (m + 3)) : ∀ (j i : Nat) (ks : List Nat), pl_run h' m n N j i ks = pl_run h m n N j i ks := by
  intro j
  induction j with
  | zero => intro i ks; rfl
  | succ j ih =>
    intro i ks
    have : pl_run h' m n N j (i + 1) = pl_run h m n N j (i + 1) := funext (ih (i + 1))
    rw [pl_run, pl_run, mv_harm_eq e0 e1 e3, mp_at_eq e0 e1 e3, pl_st_eq e0 e3, this]
theorem pl_all_eq {h h' : Am_H} {m n N : Nat} (e0 : am_I h' m = am_I h m) (e1 : am_I h' (m + 1) = am_I h (m + 1)) (e3 : am_I h' (m + 3) = am_I h (m + 3)) : pl_all h' m n N = pl_all h m n N := by
  unfold pl_all
  rw [pl_st_eq e0 e3, show pl_run h' m n N 4000 0 = pl_run h m n N 4000 0 from funext (pl_run_eq e0 e1 e3 4000 0)]
theorem pl_bst_eq {h h' : Am_H} {m n s : Nat} (e0 : am_I h' m = am_I h m) (e3 : am_I h' (m + 3) = am_I h (m + 3)) (ks : List Nat) (val : Nat → Int32) (f : Nat → Int32) : pl_bst h' m n ks val s f = pl_bst h m n ks val s f := by
  unfold pl_bst
  rw [mv_W_eq e0 e3]
theorem vl_eq {h h' : Am_H} {m n : Nat} (e0 : am_I h' m = am_I h m) (e1 : am_I h' (m + 1) = am_I h (m + 1)) (e2 : am_I h' (m + 2) = am_I h (m + 2)) (e3 : am_I h' (m + 3) = am_I h (m + 3)) (ks : List Nat) : ∀ k, vl h' m n ks k = vl h m n ks k := by
  intro k
  induction k with
  | zero => rfl
  | succ k ih =>
    funext x
    rw [vl, vl, ih, mv_harm_eq e0 e1 e3, mp_at_eq e0 e1 e3, pl_bst_eq e0 e3, mv_arr_eq e0 e1 e3, e2]
theorem vlx_eq {h h' : Am_H} {m n N : Nat} (e0 : am_I h' m = am_I h m) (e1 : am_I h' (m + 1) = am_I h (m + 1)) (e2 : am_I h' (m + 2) = am_I h (m + 2)) (e3 : am_I h' (m + 3) = am_I h (m + 3)) (ks : List Nat) : vlx h' m n N ks = vlx h m n N ks := by
  funext x
  unfold vlx
  rw [vl_eq e0 e1 e2 e3]
theorem kp_at_eq {h h' : Am_H} {m n N : Nat} (e0 : am_I h' m = am_I h m) (e1 : am_I h' (m + 1) = am_I h (m + 1)) (e2 : am_I h' (m + 2) = am_I h (m + 2)) (e3 : am_I h' (m + 3) = am_I h (m + 3)) (ks : List Nat) : ∀ s, kp_at h' m n N ks s = kp_at h m n N ks s := by
  intro s
  induction s with
  | zero => rfl
  | succ s ih =>
    rw [kp_at, kp_at, ih, mp_at_eq e0 e1 e3]
    unfold kp_f pl_fst
    rw [vlx_eq e0 e1 e2 e3, mv_W_eq e0 e3, pl_bst_eq e0 e3]
theorem kp_b_eq {h h' : Am_H} {m n N : Nat} (e0 : am_I h' m = am_I h m) (e1 : am_I h' (m + 1) = am_I h (m + 1)) (e2 : am_I h' (m + 2) = am_I h (m + 2)) (e3 : am_I h' (m + 3) = am_I h (m + 3)) (ks : List Nat) (s : Nat) : kp_b h' m n N ks s = kp_b h m n N ks s ∧ kp_r h' m n N ks s = kp_r h m n N ks s := by
  unfold kp_b kp_r kp_f pl_fst
  rw [kp_at_eq e0 e1 e2 e3, vlx_eq e0 e1 e2 e3, mv_W_eq e0 e3, pl_bst_eq e0 e3]
  exact ⟨rfl, rfl⟩
end
