/-! SandCars.on, undo -/
theorem rg_new {h' : Am_H} {h : Am_H} {D x s : Nat} {key : Nat} {past : List (Nat × Int32)} (hx : sp_slot x = s % 300) (hp : past.length ≤ s) (hL : ∀ i, am_L h' (D + 7) i = if i = sp_slot x then lN key else am_L h (D + 7) i) (hI : ∀ i, am_I h' (D + 8) i = if i = sp_slot x then am_I h D 2 else am_I h (D + 8) i) (ho : ∀ i k, past[i]? = some k → am_L h (D + 7) ((s - 1 - i) % 300) = lN k.1 ∧ am_I h (D + 8) ((s - 1 - i) % 300) = k.2) : ∀ i k, (((key, am_I h D 2) :: past).take 300)[i]? = some k → am_L h' (D + 7) ((s + 1 - 1 - i) % 300) = lN k.1 ∧ am_I h' (D + 8) ((s + 1 - 1 - i) % 300) = k.2 := by
  intro i k hk
  rw [List.getElem?_take] at hk
  split at hk
  · rename_i hi
    cases i with
    | zero =>
      rw [List.getElem?_cons_zero] at hk
      cases hk
      rw [show (s + 1 - 1 - 0) % 300 = sp_slot x by rw [hx, Nat.sub_zero, Nat.add_sub_cancel], hL, hI, if_pos rfl, if_pos rfl]
      exact ⟨rfl, rfl⟩
    | succ i =>
      rw [List.getElem?_cons_succ] at hk
      have hil : i < past.length := (List.getElem?_eq_some_iff.mp hk).1
      have e : s + 1 - 1 - (i + 1) = s - 1 - i := by omega
      have ne : (s - 1 - i) % 300 ≠ sp_slot x := by rw [hx]; omega
      rw [e, hL, hI, if_neg ne, if_neg ne]
      exact ho i k hk
  · cases hk
theorem dy_by {h h' : Am_H} {m n L D x u key : Nat} {y : Dst} (hm : is_Good h m n L) (a : dy_in h D y) (ok : ds_ok y) (h0 : y.2.2.2.2.1 = 0) (hx : am_I h D 7 = nI x) (hxs : sp_slot x = y.2.2.2.2.2.1 % 300) (hu : u = y.2.2.2.2.2.2.length) (hkey : key = sp_K y.1 y.2.1 y.2.2.1) (hq : (mv_harm h m n (am_I h (D + 2)) = 0 ∧ q_by h h' m D n x u key) ∨ (¬ mv_harm h m n (am_I h (D + 2)) = 0 ∧ q_byH h h' m D n x u key)) : dy_in h' D (ds_by h m n (am_I h (D + 6)) y) := by
  obtain ⟨⟨b1, b2, b3⟩, b4, b5, b6, b7, b8, b9⟩ := a
  obtain ⟨o1, o2, o3, o4, o5⟩ := ok
  have hn := hm.1.2.1
  have eh := mv_harm_c (h := h) (m := m) b1 hn
  have ea := mv_arr_c (h := h) (m := m) b1 hn
  have dp := mv_pass_c (h := h) (m := m) (x := y.2.2.1) b1 b2 hn
  have hlen : (if u = 300 then 300 else u + 1) = (((sp_K y.1 y.2.1 y.2.2.1, y.2.2.2.1) :: y.2.2.2.2.2.2).take 300).length := by
    rw [List.length_take, List.length_cons, hu]
    by_cases z : y.2.2.2.2.2.2.length = 300
    · rw [if_pos z, z]; rfl
    · rw [if_neg z]; omega
  have hsl : ∃ x', nI (sp_slot x + 1) = nI x' ∧ x' ≤ 300 ∧ sp_slot x' = (y.2.2.2.2.2.1 + 1) % 300 := by
    refine ⟨sp_slot x + 1, rfl, by rw [hxs]; omega, ?_⟩
    show (if sp_slot x + 1 = 300 then 0 else sp_slot x + 1) = _
    rw [hxs]
    by_cases z : y.2.2.2.2.2.1 % 300 + 1 = 300
    · rw [if_pos z]; omega
    · rw [if_neg z]; omega
  unfold ds_by
  rcases hq with ⟨z, c1, c2, c3, c4, c5, c6, c7⟩ | ⟨z, c1, c2, c3, c4, c5, c6, c7⟩
  · rw [eh] at z
    rw [if_pos z]
    rw [b3] at c4 c5 c6
    have rg := rg_new (h := h) (h' := h') (D := D) (key := key) hxs o3 c2 c3 b9
    rw [b4, hkey] at rg
    refine ⟨⟨?_, ?_, ?_⟩, ?_, ?_, ?_, ?_, ?_, rg⟩
    · intro r hr; rw [c4]; exact dp.1 r hr
    · intro r hr
      rw [c5, dp.2.2]
      show (if _ then _ else _) = ds_lf _ _ _ r
      unfold ds_lf
      rw [dp.2.1 r hr]
    · rw [c6, dp.2.2]
    · rw [c7, if_neg (by omega), if_neg (by omega), if_neg (by omega), if_neg (by omega), if_pos rfl, ea, b4]
    · rw [c7, if_neg (by omega), if_neg (by omega), if_neg (by omega), if_pos rfl]
    · rw [c7, if_neg (by omega), if_neg (by omega), if_pos rfl, b6, nI_1]
    · rw [c7, if_neg (by omega), if_pos rfl, hlen]
    · rw [c7, if_pos rfl]; exact hsl
  · rw [eh] at z
    rw [if_neg z]
    have rg := rg_new (h := h) (h' := h') (D := D) (key := key) hxs o3 c2 c3 b9
    rw [b4, hkey] at rg
    refine ⟨⟨?_, ?_, ?_⟩, ?_, ?_, ?_, ?_, ?_, rg⟩
    · intro r hr; rw [c4]; exact mv_go_c b1 r hr
    · rw [c5]; exact b2
    · rw [c6]; exact b3
    · rw [c7, if_neg (by omega), if_neg (by omega), if_neg (by omega), if_neg (by omega)]; exact b4
    · rw [c7, if_neg (by omega), if_neg (by omega), if_neg (by omega), if_pos rfl, eh]
    · rw [c7, if_neg (by omega), if_neg (by omega), if_pos rfl, b6, nI_1]
    · rw [c7, if_neg (by omega), if_pos rfl, hlen]
    · rw [c7, if_pos rfl]; exact hsl
