/-! SandCars.safe, most -/
def eq_at (h h1 : Am_H) (o : Nat) : Prop := am_S h1 o = am_S h o ∧ am_P h1 o = am_P h o
theorem is_Mine.at {h h1 : Am_H} {c : Nat} (a : is_Mine h c) (e : ∀ i, i ≤ 6 → eq_at h h1 (c + i)) : is_Mine h1 c := by
  unfold is_Mine
  have e0 := e 0 (by omega)
  rw [Nat.add_zero] at e0
  rw [e0.1, e0.2, (e 1 (by omega)).1, (e 2 (by omega)).1, (e 3 (by omega)).1, (e 4 (by omega)).1, (e 5 (by omega)).1, (e 6 (by omega)).1]
  exact a
theorem is_Cars.at {h h1 : Am_H} {c : Nat} (a : is_Cars h c) (e : ∀ i, i ≤ 4 → eq_at h h1 (c + i)) : is_Cars h1 c := by
  unfold is_Cars
  have e0 := e 0 (by omega)
  rw [Nat.add_zero] at e0
  rw [e0.1, e0.2, (e 1 (by omega)).1, (e 2 (by omega)).1, (e 3 (by omega)).1, (e 4 (by omega)).1]
  exact a
theorem is_Day.at {h h1 : Am_H} {c : Nat} (a : is_Day h c) (e : ∀ i, i ≤ 11 → eq_at h h1 (c + i)) : is_Day h1 c := by
  have e0 := e 0 (by omega)
  rw [Nat.add_zero] at e0
  refine ⟨by rw [e0.1]; exact a.1, by rw [e0.2]; exact a.2.1, ?_, a.2.2.2.at (fun i hi => by rw [Nat.add_assoc]; exact e (1 + i) (by omega))⟩
  rw [(e 6 (by omega)).1, (e 7 (by omega)).1, (e 8 (by omega)).1, (e 9 (by omega)).1, (e 10 (by omega)).1, (e 11 (by omega)).1]
  exact a.2.2.1
theorem is_Tape.at {h h1 : Am_H} {c : Nat} (a : is_Tape h c) (e : ∀ i, i ≤ 1 → eq_at h h1 (c + i)) : is_Tape h1 c := by
  unfold is_Tape
  have e0 := e 0 (by omega)
  rw [Nat.add_zero] at e0
  rw [e0.1, e0.2, (e 1 (by omega)).1]
  exact a
theorem is_Trial.at {h h1 : Am_H} {c : Nat} (a : is_Trial h c) (e : ∀ i, i ≤ 5 → eq_at h h1 (c + i)) : is_Trial h1 c := by
  have e0 := e 0 (by omega)
  rw [Nat.add_zero] at e0
  exact ⟨by rw [e0.1]; exact a.1, by rw [e0.2]; exact a.2.1, a.2.2.at (fun i hi => by rw [Nat.add_assoc]; exact e (1 + i) (by omega))⟩
theorem is_Fitter.at {h h1 : Am_H} {c : Nat} (a : is_Fitter h c) (e : ∀ i, i ≤ 6 → eq_at h h1 (c + i)) : is_Fitter h1 c := by
  have e0 := e 0 (by omega)
  rw [Nat.add_zero] at e0
  exact ⟨by rw [e0.1]; exact a.1, by rw [e0.2]; exact a.2.1, by rw [(e 6 (by omega)).1]; exact a.2.2.1, a.2.2.2.at (fun i hi => by rw [Nat.add_assoc]; exact e (1 + i) (by omega))⟩
theorem is_Safety.at {h h1 : Am_H} {c : Nat} (a : is_Safety h c) (e : ∀ i, i ≤ 5 → eq_at h h1 (c + i)) : is_Safety h1 c := by
  have e0 := e 0 (by omega)
  rw [Nat.add_zero] at e0
  exact ⟨by rw [e0.1]; exact a.1, by rw [e0.2]; exact a.2.1, a.2.2.at (fun i hi => by rw [Nat.add_assoc]; exact e (1 + i) (by omega))⟩
theorem is_Planner.at {h h1 : Am_H} {c : Nat} (a : is_Planner h c) (e : ∀ i, i ≤ 6 → eq_at h h1 (c + i)) : is_Planner h1 c := by
  have e0 := e 0 (by omega)
  rw [Nat.add_zero] at e0
  exact ⟨by rw [e0.1]; exact a.1, by rw [e0.2]; exact a.2.1, by rw [(e 6 (by omega)).1]; exact a.2.2.1, a.2.2.2.at (fun i hi => by rw [Nat.add_assoc]; exact e (1 + i) (by omega))⟩
theorem sd_in.at {h h1 : Am_H} {S m q : Nat} (a : sd_in h S m q) (e : ∀ i, 1 ≤ i → i ≤ 66 → eq_at h h1 (S + i)) (e0 : am_S h1 S = am_S h S) (eP : ∀ k, k ≠ 11 → am_P h1 S k = am_P h S k) : sd_in h1 S m q := by
  obtain ⟨s0, ⟨p0, p2, p3, p4, p5, p7, p8, p9, p10⟩, hT, ⟨hm, hq, hmq⟩, ⟨hD, hB⟩, hTr, hFi, hSa, hPl⟩ := a
  have ee : ∀ c i, 1 ≤ c → c + i ≤ 66 → eq_at h h1 (S + c + i) := fun c i h1 h2 => by rw [Nat.add_assoc]; exact e (c + i) (by omega) h2
  have em : ∀ c, c = S + 3 ∨ c = S + 10 → ∀ i, i ≤ 6 → eq_at h h1 (c + i) := fun c hc i hi => by
    rcases hc with rfl | rfl
    · exact ee 3 i (by omega) (by omega)
    · exact ee 10 i (by omega) (by omega)
  refine ⟨e0.trans s0, ⟨(eP 0 (by omega)).trans p0, (eP 2 (by omega)).trans p2, (eP 3 (by omega)).trans p3, (eP 4 (by omega)).trans p4, (eP 5 (by omega)).trans p5, (eP 7 (by omega)).trans p7, (eP 8 (by omega)).trans p8, (eP 9 (by omega)).trans p9, (eP 10 (by omega)).trans p10⟩, hT.at (fun i hi => ee 1 i (by omega) (by omega)), ⟨hm.at (em m (by omega)), hq.at (em q (by omega)), hmq⟩, ⟨hD.at (fun i hi => ee 17 i (by omega) (by omega)), hB.at (fun i hi => ee 29 i (by omega) (by omega))⟩, hTr.at (fun i hi => ee 41 i (by omega) (by omega)), hFi.at (fun i hi => ee 47 i (by omega) (by omega)), hSa.at (fun i hi => ee 54 i (by omega) (by omega)), hPl.at (fun i hi => ee 60 i (by omega) (by omega))⟩
/-- how a table came, if one came: all older cells as they were -/
def tb_f (h h1 : Am_H) (S F : Nat) : Prop := S + 66 < F ∧ F + 4 ≤ am_N h1 ∧ is_Found h1 F ∧ am_P h1 S 11 = some F ∧ (∀ k, k ≠ 11 → am_P h1 S k = am_P h S k) ∧ ((am_P h S 11 = some F ∧ h1 = h) ∨ (am_P h S 11 = none ∧ F = am_N h)) ∧ am_N h ≤ am_N h1 ∧ am_N h1 ≤ am_N h + 4 ∧ ∀ o, o < am_N h → am_S h1 o = am_S h o ∧ am_I h1 o = am_I h o ∧ am_L h1 o = am_L h o ∧ (o ≠ S → am_P h1 o = am_P h o)
/-- the table, if it is there, lies behind all -/
def tb_in (h : Am_H) (S : Nat) : Prop := S + 66 < am_N h ∧ ∀ F, am_P h S 11 = some F → S + 66 < F ∧ F + 4 ≤ am_N h ∧ is_Found h F
def saf_ans (V : Option (Int32 × Nat)) (x : Int32) : Int32 := match V with
  | none => -2
  | some v => if x = 0 then (if v.1 = -1 then 1 else 0) else if x = 1 then v.1 else nI v.2
theorem am_thr_95 : am_thr 95 9 = "java/util/NoSuchElementException" := by decide
theorem am_thr_97 : am_thr 97 10 = "java/lang/IllegalArgumentException" := by decide
section
variable {l : Am_L} {d : Nat} {h : Am_H} {S m q n L : Nat} {K : Am_R → Am_H → Prop}
theorem M_tbl (a : sd_in h S m q) (ht : tb_in h S) (hK : ∀ h1 F, tb_f h h1 S F → K (.inl (some (.ref F))) h1) : am_M l (d + 1) 4 16196 96 [.ref S] h K := by
  have hN := ht.1
  refine M_table a.1 (by omega) (fun F hF => ?_) (fun hn h1 e f1 n1 p1 i1 l1 => ?_)
  · obtain ⟨t1, t2, t3⟩ := ht.2 F hF
    exact hK h F ⟨t1, t2, t3, hF, fun _ _ => rfl, Or.inl ⟨hF, rfl⟩, Nat.le_refl _, by omega, fun o _ => ⟨rfl, rfl, rfl, fun _ => rfl⟩⟩
  · refine hK h1 (am_N h) ⟨hN, by omega, f1, by rw [p1, if_pos rfl], fun k hk => by rw [p1, if_neg hk], Or.inr ⟨hn, rfl⟩, by omega, by omega, fun o ho => ?_⟩
    by_cases z : o = S
    · subst z; exact ⟨e.2.1, i1, l1, fun y => absurd rfl y⟩
    · obtain ⟨c1, c2, c3, c4⟩ := e.2.2 o ho z
      exact ⟨c1, c2, c3, fun _ => c4⟩
theorem tb_f.sd {h1 : Am_H} {F : Nat} (e : tb_f h h1 S F) (a : sd_in h S m q) (ht : tb_in h S) : sd_in h1 S m q := by
  obtain ⟨e1, e2, e3, e4, e5, e6, e7, e8, e9⟩ := e
  have hN := ht.1
  exact a.at (fun i h1 h2 => ⟨(e9 (S + i) (by omega)).1, (e9 (S + i) (by omega)).2.2.2 (by omega)⟩) (e9 S (by omega)).1 e5
end
