/-! fields and arrays -/
def am_CK (C : String) (T : u_T) (N : Nat) : Prop := (∀ w ∈ u_ws C T N, w ∈ am_TB) ∧ (∃ ty : Nat → FieldType, ∀ k, k < N → parseFieldDescriptor (T k).2.2.1 = some (ty k)) ∧ ∀ a, a < N → ∀ b, b < N → a ≠ b → (T a).2.1 ≠ (T b).2.1
theorem am_CKof {C : String} {T : u_T} {N : Nat} (h1 : (u_ws C T N).all (fun w => decide (w ∈ lw_tbl) && goodWord w) = true) (ty : Nat → FieldType) (h2 : ∀ k, k < N → parseFieldDescriptor (T k).2.2.1 = some (ty k)) (h3 : ∀ a, a < N → ∀ b, b < N → a ≠ b → (T a).2.1 ≠ (T b).2.1) : am_CK C T N := by
  refine ⟨fun w hw => ?_, ⟨ty, h2⟩, h3⟩
  have h := List.all_eq_true.mp h1 w hw
  simp only [Bool.and_eq_true, decide_eq_true_eq] at h
  exact List.mem_filter.mpr h
theorem am_CK0 : am_CK RX0 TX0 7 := am_CKof (by decide +kernel) tyX0 tyX0_ok nmX0
theorem am_CK1 : am_CK RX1 TX1 13 := am_CKof (by decide +kernel) tyX1 tyX1_ok nmX1
theorem am_CK2 : am_CK RX2 TX2 4 := am_CKof (by decide +kernel) tyX2 tyX2_ok nmX2
theorem am_CK3 : am_CK RX3 TX3 4 := am_CKof (by decide +kernel) tyX3 tyX3_ok nmX3
theorem am_CK4 : am_CK RX4 TX4 11 := am_CKof (by decide +kernel) tyX4 tyX4_ok nmX4
theorem am_CK5 : am_CK RX5 TX5 3 := am_CKof (by decide +kernel) tyX5 tyX5_ok nmX5
theorem am_CK6 : am_CK RX6 TX6 5 := am_CKof (by decide +kernel) tyX6 tyX6_ok nmX6
theorem am_CK7 : am_CK RX7 TX7 11 := am_CKof (by decide +kernel) tyX7 tyX7_ok nmX7
theorem am_CK8 : am_CK RX8 TX8 1 := am_CKof (by decide +kernel) tyX8 tyX8_ok nmX8
theorem am_CK9 : am_CK RX9 TX9 12 := am_CKof (by decide +kernel) tyX9 tyX9_ok nmX9
theorem am_CK10 : am_CK RX10 TX10 68 := am_CKof (by decide +kernel) tyX10 tyX10_ok nmX10
theorem am_CKall {ci : Nat} {C : String} {T : u_T} {N : Nat} (h : vwCl[ci]? = some (C, T, N)) : am_CK C T N := by
  match ci, h with
  | 0, h => cases h; exact am_CK0
  | 1, h => cases h; exact am_CK1
  | 2, h => cases h; exact am_CK2
  | 3, h => cases h; exact am_CK3
  | 4, h => cases h; exact am_CK4
  | 5, h => cases h; exact am_CK5
  | 6, h => cases h; exact am_CK6
  | 7, h => cases h; exact am_CK7
  | 8, h => cases h; exact am_CK8
  | 9, h => cases h; exact am_CK9
  | 10, h => cases h; exact am_CK10
  | k + 11, h => simp [vwCl] at h
/-- an object of the world, as the kit has it -/
theorem am_objOB {G : Am_G} {h : Am_H} {H : Heap} {o ci N : Nat} {C : String} {T : u_T} (hw : am_W G h H) (hs : am_S h o = (1, ci)) (hcl : vwCl[ci]? = some (C, T, N)) : t_OB (G.1 + o) (G.2.1 ci) N (G.2.2.1 ci) H (am_fv G h T o) := by
  have hc := hw.2 o
  unfold am_cell at hc
  rw [hs] at hc
  obtain ⟨r, h1, h2⟩ := hc
  cases Option.some.inj (h1.symm.trans hcl)
  exact h2
theorem am_obj {G : Am_G} {h : Am_H} {H : Heap} {o ci N : Nat} {C : String} {T : u_T} (hw : am_W G h H) (hs : am_S h o = (1, ci)) (hcl : vwCl[ci]? = some (C, T, N)) : va_P (G.2.1, G.2.2.1) vwCl [(G.1 + o, .inr (ci, (List.range N).map (am_fv G h T o)))] H := by
  intro k q hq
  match k, hq with
  | 0, hq =>
    cases hq
    refine ⟨_, hcl, (am_objOB hw hs hcl).to fun j hj => ?_⟩
    have hj : j < N := hj
    simp [vp_V, List.getD_eq_getElem?_getD, hj]
  | k + 1, hq => simp at hq
section
variable {l : Am_L} {mi d rc rs pc : Nat} {ls : List (Option Value)} {st : List Value} {h : Am_H} {K : Am_R → Am_H → Prop} {o ci N index f : Nat} {C : String} {T : u_T}
theorem jr_get {v : Value} (hd : decode (am_b mi) pc = .ok (.getfield index, 3)) (hcl : vwCl[ci]? = some (C, T, N)) (hk : f < N) (hlink : Cond.fieldLink (am_y mi).cls index (T f).1 (T f).2.1 (T f).2.2.1 ∈ am_TB ∨ ∃ host, Cond.fieldLinkNest (am_y mi).cls index (T f).1 (T f).2.1 (T f).2.2.1 host ∈ am_NB) (hs : am_S h o = (1, ci)) (hv : ∀ G, am_fv G h T o f = am_c G v)
    (k : am_J l mi d rc rs (pc + 3) ls (v :: st) h K) : am_J l mi d rc rs pc ls (.ref o :: st) h K := by
  intro p e R s m args below meth c G H locs cells slots Q arr X hw hS hV hF
  have hP := am_obj hw hs hcl
  have hg : ((List.range N).map (am_fv G h T o))[f]? = some (am_c G v) := by simp [hk, hv G]
  have hts := X.1.2.2.2.2.2.1
  rcases hlink with hl | ⟨host, hl⟩
  · exact va_get X.1.1 X.1.2.1 hts (am_CKall hcl).1 X.1.2.2.2.2.1 X.2.2.2.1 hP 0 rfl hcl f hk (hts _ hl) (fun x q => q) hg hd (k p e R s m args below meth c G H locs cells slots Q arr X hw hS hV hF)
  · exact va_getN X.1.1 X.1.2.1 hts (am_CKall hcl).1 X.1.2.2.2.2.1 X.2.2.2.1 hP 0 rfl hcl f hk (va_Nw.use rfl (X.2.2.2.2.2.2.2 _ hl)) (fun x q => q) hg hd (k p e R s m args below meth c G H locs cells slots Q arr X hw hS hV hF)
end
