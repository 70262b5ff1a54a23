/-! a day as a value: places, glasses, who, ore, harm, seconds, what can be undone (newest first) -/
abbrev Dst : Type := (Nat → Int32) × (Nat → Int32) × Int32 × Int32 × Int32 × Nat × List (Nat × Int32)
def ds_lf (sl : Nat → Int32) (n : Nat) (p : Sp_d) (r : Nat) : Int32 := if r < n ∧ ¬ (p.2.2.2 >>> (nI r &&& 31)) &&& 1 = 0 then p.2.1 r + sl r else p.2.1 r
noncomputable def ds_by (h : Am_H) (m n : Nat) (sl : Nat → Int32) (y : Dst) : Dst :=
  if mv_harm h m n y.1 = 0 then ((mv_pass h m n y.1 y.2.1 y.2.2.1).1, ds_lf sl n (mv_pass h m n y.1 y.2.1 y.2.2.1), (mv_pass h m n y.1 y.2.1 y.2.2.1).2.2.1, y.2.2.2.1 + sp_loads (am_I h (m + 2)) (mv_arr h m n y.1) n, 0, y.2.2.2.2.2.1 + 1, ((sp_K y.1 y.2.1 y.2.2.1, y.2.2.2.1) :: y.2.2.2.2.2.2).take 300)
  else (mv_go h m n y.1, y.2.1, y.2.2.1, y.2.2.2.1, mv_harm h m n y.1, y.2.2.2.2.2.1 + 1, ((sp_K y.1 y.2.1 y.2.2.1, y.2.2.2.1) :: y.2.2.2.2.2.2).take 300)
/-- so many seconds, till harm: how many went, and what is then -/
noncomputable def ds_on (h : Am_H) (m n : Nat) (sl : Nat → Int32) : Nat → Nat → Dst → Nat × Dst
  | 0, g, y => (g, y)
  | k + 1, g, y => if y.2.2.2.2.1 = 0 then ds_on h m n sl k (g + 1) (ds_by h m n sl y) else (g, y)
def ds_back (y : Dst) : Dst := match y.2.2.2.2.2.2 with
  | [] => y
  | k :: r => (dk_at k.1, dk_lf k.1, dk_ls k.1, k.2, 0, y.2.2.2.2.2.1 - 1, r)
def ds_un : Nat → Dst → Dst
  | 0, y => y
  | k + 1, y => ds_un k (ds_back y)
/-- what a day's slips hold to -/
def sl_ok (sl : Nat → Int32) (n : Nat) : Prop := ∀ r, r < n → ∃ s, sl r = nI s ∧ s ≤ 3
theorem gd_slip {h : Am_H} {m n L : Nat} {f g : Nat → Int32} {x : Int32} {sl : Nat → Int32} (hm : is_Good h m n L) (hg : sp_gd f g x) (hs : sl_ok sl n) : sp_gd (mv_pass h m n f g x).1 (ds_lf sl n (mv_pass h m n f g x)) (mv_pass h m n f g x).2.2.1 := by
  obtain ⟨B, hB, eB, qB⟩ := sp_sd_bits (L := am_I h m 0) (needs := am_I h m 2) (pull := am_I h (m + 3)) (glass := am_I h (m + 4)) (rule := am_I h (m + 6)) (f := sp_at2 (am_I h m 0) n (mv_go h m n f)) (g := sp_lf n g) (x := x) hm.1.2.1 n (Nat.le_refl _)
  have eB : (mv_pass h m n f g x).2.2.2 = nI B := eB
  have qB : ∀ r, B.testBit r = true → r < n ∧ (mv_pass h m n f g x).2.1 r = am_I h (m + 4) r := qB
  obtain ⟨a, b, w, hr, hw, hw4⟩ := sp_gd_pass hm hg
  have hn := hm.1.2.1
  have key : ∀ r, r < 3 → ∃ c, ds_lf sl n (mv_pass h m n f g x) r = nI c ∧ c ≤ 33 := by
    intro r hr3
    unfold ds_lf
    by_cases z : r < n ∧ ¬ ((mv_pass h m n f g x).2.2.2 >>> (nI r &&& 31)) &&& 1 = 0
    · rw [if_pos z]
      have tb : B.testBit r = true := by
        have := z.2
        rw [eB, bt_at B hB r hr3] at this
        cases ht : B.testBit r
        · exact absurd ht this
        · rfl
      obtain ⟨s, es, hs3⟩ := hs r z.1
      obtain ⟨g', s', eg, g1, g30, -⟩ := hm.2.2.2 r z.1
      rw [(qB r tb).2, eg, es, nI_add]
      exact ⟨_, rfl, by omega⟩
    · rw [if_neg z]
      obtain ⟨-, -, c3, c4⟩ := hr r hr3
      exact ⟨_, c3, c4⟩
  refine ⟨a, fun r => if hr3 : r < 3 then (key r hr3).choose else 0, w, fun r hr3 => ?_, hw, hw4⟩
  obtain ⟨c1, c2, -, -⟩ := hr r hr3
  have ks := (key r hr3).choose_spec
  refine ⟨c1, c2, ?_, ?_⟩
  · simp only [hr3, dif_pos]; exact ks.1
  · simp only [hr3, dif_pos]; exact ks.2
/-- what a day's value holds to -/
def ds_ok (y : Dst) : Prop := (y.2.2.2.2.1 = 0 → sp_gd y.1 y.2.1 y.2.2.1) ∧ y.2.2.2.2.2.2.length ≤ 300 ∧ y.2.2.2.2.2.2.length ≤ y.2.2.2.2.2.1 ∧ (∀ k ∈ y.2.2.2.2.2.2, gk k.1) ∧ y.2.2.2.2.2.1 < 2 ^ 30
theorem ds_by_ok {h : Am_H} {m n L : Nat} {sl : Nat → Int32} {y : Dst} (hm : is_Good h m n L) (hs : sl_ok sl n) (a : ds_ok y) (h0 : y.2.2.2.2.1 = 0) (hb : y.2.2.2.2.2.1 + 1 < 2 ^ 30) : ds_ok (ds_by h m n sl y) := by
  obtain ⟨a1, a2, a3, a4, a5⟩ := a
  have hg := a1 h0
  have hk : gk (sp_K y.1 y.2.1 y.2.2.1) := (gk_K hg).1
  have hmem : ∀ k ∈ ((sp_K y.1 y.2.1 y.2.2.1, y.2.2.2.1) :: y.2.2.2.2.2.2).take 300, gk k.1 := by
    intro k hk2
    rcases List.mem_cons.mp (List.mem_of_mem_take hk2) with rfl | h1
    · exact hk
    · exact a4 k h1
  have hlen : (((sp_K y.1 y.2.1 y.2.2.1, y.2.2.2.1) :: y.2.2.2.2.2.2).take 300).length ≤ 300 ∧ (((sp_K y.1 y.2.1 y.2.2.1, y.2.2.2.1) :: y.2.2.2.2.2.2).take 300).length ≤ y.2.2.2.2.2.1 + 1 := by
    rw [List.length_take, List.length_cons]; omega
  unfold ds_by
  by_cases z : mv_harm h m n y.1 = 0
  · rw [if_pos z]
    exact ⟨fun _ => gd_slip hm hg hs, hlen.1, hlen.2, hmem, hb⟩
  · rw [if_neg z]
    exact ⟨fun w => absurd w z, hlen.1, hlen.2, hmem, hb⟩
theorem ds_back_ok {y : Dst} (a : ds_ok y) : ds_ok (ds_back y) := by
  obtain ⟨a1, a2, a3, a4, a5⟩ := a
  unfold ds_back
  split
  · exact ⟨a1, a2, a3, a4, a5⟩
  · rename_i k r hl
    rw [hl] at a2 a3 a4
    simp only [List.length_cons] at a2 a3
    exact ⟨fun _ => (a4 k List.mem_cons_self).2, by show r.length ≤ 300; omega, by show r.length ≤ y.2.2.2.2.2.1 - 1; omega, fun k2 hk2 => a4 k2 (List.mem_cons_of_mem _ hk2), by show y.2.2.2.2.2.1 - 1 < 2 ^ 30; omega⟩
/-- the day at D is this value -/
def dy_in (h : Am_H) (D : Nat) (y : Dst) : Prop := (e3 (am_I h (D + 2)) y.1 ∧ e3 (am_I h (D + 3)) y.2.1 ∧ am_I h (D + 1) 4 = y.2.2.1) ∧ am_I h D 2 = y.2.2.2.1 ∧ am_I h D 3 = y.2.2.2.2.1 ∧ am_I h D 1 = nI y.2.2.2.2.2.1 ∧ am_I h D 8 = nI y.2.2.2.2.2.2.length ∧ (∃ x, am_I h D 7 = nI x ∧ x ≤ 300 ∧ sp_slot x = y.2.2.2.2.2.1 % 300) ∧ ∀ i k, y.2.2.2.2.2.2[i]? = some k → am_L h (D + 7) ((y.2.2.2.2.2.1 - 1 - i) % 300) = lN k.1 ∧ am_I h (D + 8) ((y.2.2.2.2.2.1 - 1 - i) % 300) = k.2
