/-! Math.min and max, constants, new cells, texts, switches -/
theorem am_min1 : Cond.static Lib.Math.min.name ∈ am_TB := am_TBin 555 (by decide +kernel)
theorem am_min0 : Cond.initialized "java/lang/Math" ∈ am_TB := am_TBin 132 (by decide +kernel)
set_option maxRecDepth 20000 in
theorem am_min3 : lw_tbl[556]? = some (Cond.code Lib.Math.min.name Lib.Math.min.code 2 (some .int)) := rfl
theorem am_min2 : Cond.code Lib.Math.min.name Lib.Math.min.code 2 (some .int) ∈ am_TB := List.mem_filter.mpr ⟨List.mem_of_getElem? am_min3, rfl⟩
set_option maxRecDepth 20000 in
theorem am_max3 : lw_tbl[820]? = some (Cond.code Lib.Math.max.name Lib.Math.max.code 2 (some .int)) := rfl
theorem am_max2 : Cond.code Lib.Math.max.name Lib.Math.max.code 2 (some .int) ∈ am_TB := List.mem_filter.mpr ⟨List.mem_of_getElem? am_max3, rfl⟩
theorem am_max1 : Cond.static Lib.Math.max.name ∈ am_TB := am_TBin 819 (by decide +kernel)
section
variable {l : Am_L} {mi d rc rs pc index : Nat} {ls : List (Option Value)} {st : List Value} {h : Am_H} {K : Am_R → Am_H → Prop}
theorem am_cats (G : Am_G) (st : List Value) : ((st.map (am_c G)).map fun v => v.category).sum = (st.map fun v => v.category).sum := by
  have e1 : (st.map (am_c G)).map (fun v => v.category) = st.map fun v => v.category := by simp [am_c_cat]
  rw [e1]
theorem jr_min {x y : Int32} (hd : decode (am_b mi) pc = .ok (.invokestatic index, 3)) (hl : Cond.methodLink (am_y mi).cls index Lib.Math.min.name ∈ am_TB) (hst : (st.map fun v => v.category).sum ≤ 8) (k : am_J l mi d rc rs (pc + 3) ls (.int (if y < x then y else x) :: st) h K) : am_J l mi d rc rs pc ls (.int y :: .int x :: st) h K := by
  intro p e R s m args below meth c G H locs cells slots Q arr X hw hS hV hF
  have hts := X.1.2.2.2.2.2.1
  have hX := X.2
  exact va_mmin X.1.1 X.1.2.1 (X.1.2.2.2.1.trans hV.1.symm) X.1.2.2.2.2.1 (hts _ hl) (hts _ am_min1) (hts _ am_min0) (hts _ am_min2) (by omega) (by rw [am_cats]; omega) (by omega) (by omega) hd (k p e R s m args below meth c G H locs cells slots Q arr X hw hS hV hF)
theorem jr_max {x y : Int32} (hd : decode (am_b mi) pc = .ok (.invokestatic index, 3)) (hl : Cond.methodLink (am_y mi).cls index Lib.Math.max.name ∈ am_TB) (hst : (st.map fun v => v.category).sum ≤ 8) (k : am_J l mi d rc rs (pc + 3) ls (.int (if x < y then y else x) :: st) h K) : am_J l mi d rc rs pc ls (.int y :: .int x :: st) h K := by
  intro p e R s m args below meth c G H locs cells slots Q arr X hw hS hV hF
  have hts := X.1.2.2.2.2.2.1
  have hX := X.2
  exact va_mmax X.1.1 X.1.2.1 (X.1.2.2.2.1.trans hV.1.symm) X.1.2.2.2.2.1 (hts _ hl) (hts _ am_max1) (hts _ am_min0) (hts _ am_max2) (by omega) (by rw [am_cats]; omega) (by omega) (by omega) hd (k p e R s m args below meth c G H locs cells slots Q arr X hw hS hV hF)
theorem jr_ldc {v : Int32} (hd : decode (am_b mi) pc = .ok (.ldc index, 2)) (hl : Cond.constant (am_y mi).cls index v ∈ am_TB) (k : am_J l mi d rc rs (pc + 2) ls (.int v :: st) h K) : am_J l mi d rc rs pc ls st h K := by
  intro p e R s m args below meth c G H locs cells slots Q arr X hw hS hV hF
  have hts := X.1.2.2.2.2.2.1
  exact lv_ldc X.1.1 X.1.2.1 X.1.2.2.2.2.1 (hts _ hl) hd (k p e R s m args below meth c G H locs cells slots Q arr X hw hS hV hF)
theorem jr_ldcw {v : Int32} (hd : decode (am_b mi) pc = .ok (.ldc_w index, 3)) (hl : Cond.constant (am_y mi).cls index v ∈ am_TB) (k : am_J l mi d rc rs (pc + 3) ls (.int v :: st) h K) : am_J l mi d rc rs pc ls st h K := by
  intro p e R s m args below meth c G H locs cells slots Q arr X hw hS hV hF
  have hts := X.1.2.2.2.2.2.1
  exact lv_ldcw X.1.1 X.1.2.1 X.1.2.2.2.2.1 (hts _ hl) hd (k p e R s m args below meth c G H locs cells slots Q arr X hw hS hV hF)
theorem jr_ldc2 {v : Int64} (hd : decode (am_b mi) pc = .ok (.ldc2_w index, 3)) (hl : Cond.constantLong (am_y mi).cls index v ∈ am_TB) (k : am_J l mi d rc rs (pc + 3) ls (.long v :: st) h K) : am_J l mi d rc rs pc ls st h K := by
  intro p e R s m args below meth c G H locs cells slots Q arr X hw hS hV hF
  have hts := X.1.2.2.2.2.2.1
  exact lv_ldc2 X.1.1 X.1.2.1 X.1.2.2.2.2.1 (hts _ hl) hd (k p e R s m args below meth c G H locs cells slots Q arr X hw hS hV hF)
theorem jr_ldcS {i : Nat} {tx : String} (hd : decode (am_b mi) pc = .ok (.ldc index, 2)) (hl : am_strs[i]? = some ((am_y mi).cls, index, tx)) (hi : i < 1000) (k : am_J l mi d rc rs (pc + 2) ls (.float (UInt32.ofNat i) :: st) h K) : am_J l mi d rc rs pc ls st h K := by
  intro p e R s m args below meth c G H locs cells slots Q arr X hw hS hV hF
  have hk := k p e R s m args below meth c G H locs cells slots Q arr X hw hS hV hF
  have e1 : (UInt32.ofNat i).toNat = i := by simp; omega
  have e2 : am_c G (.float (UInt32.ofNat i)) = .ref (G.2.2.2.2 i) := by show Value.ref _ = _; rw [e1]
  rw [List.map_cons, e2] at hk
  exact va_ldcS X.1.1 X.1.2.1 X.1.2.2.2.2.1 (X.2.2.2.2.2.2.1 i _ hl) hd hk
theorem jr_objInit {o : Nat} (hd : decode (am_b mi) pc = .ok (.invokespecial index, 3)) (hl : Cond.methodLink (am_y mi).cls index Lib.objectInit ∈ am_TB) (h1 : Cond.instanceMethod Lib.objectInit ∈ am_TB) (h2 : Cond.code Lib.objectInit ⟨#[0xb1]⟩ 1 none ∈ am_TB) (hst : (st.map fun v => v.category).sum ≤ 8) (k : am_J l mi d rc rs (pc + 3) ls st h K) : am_J l mi d rc rs pc ls (.ref o :: st) h K := by
  intro p e R s m args below meth c G H locs cells slots Q arr X hw hS hV hF
  have hts := X.1.2.2.2.2.2.1
  have hX := X.2
  exact W.objInit X.1.1 X.1.2.1 X.1.2.2.2.2.1 (hts _ hl) (hts _ h1) (hts _ h2) rfl (hV.1.trans X.1.2.2.2.1.symm) rfl hd (by omega) (by show 2 * 0 + ((st.map (am_c G)).map fun v => v.category).sum + 12 ≤ R.locals; rw [am_cats]; omega) (k p e R s m args below meth c G H locs cells slots Q arr X hw hS hV hF)
end
/-- a new cell in the picture -/
theorem am_W_new {G : Am_G} {h : Am_H} {H H1 : Heap} {sh : Nat × Nat} (hw : am_W G h H) (z1 : H1.size = H.size + 1) (o1 : ∀ q, q < H.size → H1[q]? = H[q]?) (hc : am_cell G (am_nw h sh) H1 (am_N h)) : am_W G (am_nw h sh) H1 := by
  refine ⟨by rw [z1, hw.1]; rfl, fun q => ?_⟩
  by_cases hq : q = am_N h
  · subst hq; exact hc
  · have hS : am_S (am_nw h sh) q = am_S h q := by show (if q = am_N h then sh else h.1 q) = _; rw [if_neg hq]; rfl
    by_cases h0 : (am_S h q).1 = 0
    · unfold am_cell
      rw [hS]
      generalize am_S h q = w at h0
      obtain ⟨a, b⟩ := w
      subst h0
      trivial
    · refine am_cell_kept (hw.2 q) hS (fun j => ?_) (fun j => ?_) (fun j => ?_) (o1 _ (am_cell_lt (hw.2 q) h0))
      · show (if q = am_N h then 0 else h.2.1 q j) = _; rw [if_neg hq]; rfl
      · show (if q = am_N h then 0 else h.2.2.1 q j) = _; rw [if_neg hq]; rfl
      · show (if q = am_N h then none else h.2.2.2.1 q j) = _; rw [if_neg hq]; rfl
theorem am_nw_S (h : Am_H) (sh : Nat × Nat) : am_S (am_nw h sh) (am_N h) = sh := by show (if am_N h = am_N h then sh else _) = sh; rw [if_pos rfl]
theorem am_nw_I (h : Am_H) (sh : Nat × Nat) (j : Nat) : am_I (am_nw h sh) (am_N h) j = 0 := by show (if am_N h = am_N h then (0 : Int32) else _) = 0; rw [if_pos rfl]
theorem am_nw_L (h : Am_H) (sh : Nat × Nat) (j : Nat) : am_L (am_nw h sh) (am_N h) j = 0 := by show (if am_N h = am_N h then (0 : Int64) else _) = 0; rw [if_pos rfl]
theorem am_nw_P (h : Am_H) (sh : Nat × Nat) (j : Nat) : am_P (am_nw h sh) (am_N h) j = none := by show (if am_N h = am_N h then (none : Option Nat) else _) = none; rw [if_pos rfl]
/-- a type of a field, and whether the picture has it as a number -/
def am_tyok (d : String) (ty : FieldType) : Bool := match ty with
  | .int => am_int d
  | .boolean => am_int d
  | .object _ => !(am_int d)
  | .array _ => !(am_int d)
  | _ => false
section
variable {l : Am_L} {mi d rc rs pc index ci N : Nat} {ls : List (Option Value)} {st : List Value} {h : Am_H} {K : Am_R → Am_H → Prop} {C : String} {T : u_T}
theorem jr_new (hd : decode (am_b mi) pc = .ok (.new index, 3)) (hcl : vwCl[ci]? = some (C, T, N)) (hl : Cond.classLink (am_y mi).cls index C ∈ am_TB) (h1 : Cond.instantiable C N ∈ am_TB) (h2 : Cond.initialized C ∈ am_TB) (hty : ∀ k, k < N → ∃ ty, parseFieldDescriptor (T k).2.2.1 = some ty ∧ am_tyok (T k).2.2.1 ty = true)
    (k : am_J l mi d rc rs (pc + 3) ls (.ref (am_N h) :: st) (am_nw h (1, ci)) K) : am_J l mi d (rc + 1) (rs + N) pc ls st h K := by
  intro p e R s m args below meth c G H locs cells slots Q arr X hw hS hV hF
  have hts := X.1.2.2.2.2.2.1
  have hKn := X.2.2.2.1.1 ci _ hcl
  obtain ⟨hin, ⟨ty0, hty0⟩, -⟩ := am_CKall hcl
  have hX := X.2.2.1
  refine W.newcK X.1.1 X.1.2.1 X.1.2.2.2.2.1 (hts _ hl) (hts _ h1) (hts _ h2) rfl hd (by omega) (by omega) hKn.2.1 hw.1 fun H1 kC hkC e1 z1 o1 => ?_
  have hX2 : am_X l mi d rc rs p R s m args meth c G (cells + 1) (slots + N) := ⟨X.1, X.2.1, by omega, X.2.2.2⟩
  refine k p e R s m args below meth c G H1 locs _ _ Q arr hX2 (am_W_new hw (by rw [z1, hw.1]) (fun q hq => o1 q (by rw [← hw.1]; exact hq)) ?_) ⟨Nat.le_trans hS.1 (by rw [z1, hw.1]; omega), fun x q1 q2 => (o1 x (by rw [← hw.1]; exact Nat.lt_of_lt_of_le q1 hS.1)).trans (hS.2.1 x q1 q2), hS.2.2⟩ hV hF
  unfold am_cell
  rw [am_nw_S]
  refine ⟨_, hcl, (u_born ty0 hts hin hKn hkC e1 hty0).to fun j hj => ?_⟩
  obtain ⟨ty, t1, t2⟩ := hty j hj
  rw [Option.some.inj ((hty0 j hj).symm.trans t1)]
  simp only [am_fv, am_nw_I, am_nw_P]
  cases ty <;> simp_all [am_tyok, defaultValue, am_rf, am_c]
theorem jr_newa {n : Nat} {v : Int32} {t : Nat} {atype : ArrayType} {ty : FieldType} (hd : decode (am_b mi) pc = .ok (.newarray atype, 2)) (hty : newarray.typeOf atype = ty) (ht : (t = 2 ∧ ty = .int) ∨ (t = 3 ∧ ty = .byte) ∨ (t = 4 ∧ ty = .long)) (hl : Cond.arrayClass ty ∈ am_TB) (hv : ¬ v < 0) (hn : v.toNatClampNeg = n) (hb : n ≤ 1000000)
    (k : am_J l mi d rc rs (pc + 2) ls (.ref (am_N h) :: st) (am_nw h (t, n)) K) : am_J l mi d (rc + 1) (rs + n) pc ls (.int v :: st) h K := by
  intro p e R s m args below meth c G H locs cells slots Q arr X hw hS hV hF
  have hts := X.1.2.2.2.2.2.1
  have hX := X.2.2.1
  subst hty
  refine va_newaK X.1.1 X.1.2.1 (hts _ hl) rfl hd rfl hv hn (by rcases ht with ⟨-, e⟩ | ⟨-, e⟩ | ⟨-, e⟩ <;> rw [e] <;> simp [componentBytes] <;> omega) (by omega) (by omega) hw.1 fun H1 cA e1 z1 o1 hAr hNm => ?_
  have hX2 : am_X l mi d rc rs p R s m args meth c G (cells + 1) (slots + n) := ⟨X.1, X.2.1, by omega, X.2.2.2⟩
  refine k p e R s m args below meth c G H1 locs _ _ Q arr hX2 (am_W_new hw (by rw [z1, hw.1]) (fun q hq => o1 q (by rw [← hw.1]; exact hq)) ?_) ⟨Nat.le_trans hS.1 (by rw [z1, hw.1]; omega), fun x q1 q2 => (o1 x (by rw [← hw.1]; exact Nat.lt_of_lt_of_le q1 hS.1)).trans (hS.2.1 x q1 q2), hS.2.2⟩ hV hF
  unfold am_cell
  rw [am_nw_S]
  rcases ht with ⟨rfl, e⟩ | ⟨rfl, e⟩ | ⟨rfl, e⟩
  · have h3 : s.vm.findClass ("[" ++ FieldType.int.toString) = some (G.2.2.2.1 2) := (X.2.2.2.1.2 0 _ rfl).2
    rw [e] at hNm e1
    cases Option.some.inj (hNm.symm.trans h3)
    simp only [am_nw_I]
    exact e1
  · have h3 : s.vm.findClass ("[" ++ FieldType.byte.toString) = some (G.2.2.2.1 3) := (X.2.2.2.1.2 1 _ rfl).2
    rw [e] at hNm e1
    cases Option.some.inj (hNm.symm.trans h3)
    simp only [am_nw_I]
    exact ⟨e1, fun _ => rfl⟩
  · have h3 : s.vm.findClass ("[" ++ FieldType.long.toString) = some (G.2.2.2.1 4) := (X.2.2.2.1.2 2 _ rfl).2
    rw [e] at hNm e1
    cases Option.some.inj (hNm.symm.trans h3)
    simp only [am_nw_L]
    exact e1
end
/-- a switch as a row of comparisons -/
def am_sw (x : Int32) (v : Int32) (ts : List Nat) (dflt : Nat) (F : Nat → Prop) : Prop := match ts with
  | [] => F dflt
  | t :: ts => (x = v → F t) ∧ (¬ x = v → am_sw x (v + 1) ts dflt F)
theorem am_sw_n (x v : Int32) (dflt : Nat) (F : Nat → Prop) : am_sw x v [] dflt F = F dflt := rfl
theorem am_sw_c (x v : Int32) (t : Nat) (ts : List Nat) (dflt : Nat) (F : Nat → Prop) : am_sw x v (t :: ts) dflt F = ((x = v → F t) ∧ (¬ x = v → am_sw x (v + 1) ts dflt F)) := rfl
theorem am_sw_use {x : Int32} {dflt : Nat} {F : Nat → Prop} : ∀ (ts : List Nat) (v : Nat), v + ts.length < 2 ^ 31 → am_sw x (nI v) ts dflt F → (∃ i t, ts[i]? = some t ∧ x.toInt = ((v + i : Nat) : Int) ∧ F t) ∨ ((x.toInt < (v : Int) ∨ ((v + ts.length : Nat) : Int) - 1 < x.toInt) ∧ F dflt) := by
  intro ts
  induction ts with
  | nil =>
    intro v hv h
    refine Or.inr ⟨?_, h⟩
    simp only [List.length_nil, Nat.add_zero]
    omega
  | cons t ts ih =>
    intro v hv h
    rw [am_sw_c] at h
    by_cases hx : x = nI v
    · refine Or.inl ⟨0, t, rfl, ?_, h.1 hx⟩
      rw [hx, nI_toInt (by omega)]
      simp
    · have hne : x.toInt ≠ (v : Int) := fun q => hx (by
        have : x.toInt = (nI v).toInt := by rw [q, nI_toInt (by omega)]
        exact Int32.toInt_inj.mp this)
      have h2 := h.2 hx
      rw [nI_1] at h2
      have hlen : (t :: ts).length = ts.length + 1 := rfl
      rcases ih (v + 1) (by rw [hlen] at hv; omega) h2 with ⟨i, u, e1, e2, e3⟩ | ⟨e1, e2⟩
      · exact Or.inl ⟨i + 1, u, e1, by rw [e2]; congr 1; omega, e3⟩
      · refine Or.inr ⟨?_, e2⟩
        rw [hlen]
        omega
theorem jr_switch {l : Am_L} {mi d rc rs pc : Nat} {ls : List (Option Value)} {st : List Value} {h : Am_H} {K : Am_R → Am_H → Prop} {x : Int32} {df lo hi : Int} {offs : Array Int} {len v dflt : Nat} {ts : List Nat} (hd : decode (am_b mi) pc = .ok (.tableswitch df lo hi offs, len)) (hlo : lo = (v : Int)) (hhi : hi = ((v + ts.length : Nat) : Int) - 1) (hdf : (pc : Int) + df = (dflt : Int)) (hts : (List.range ts.length).all (fun i => decide (∃ o ∈ offs[i]?, (pc : Int) + o = ((ts.getD i 0 : Nat) : Int))) = true) (hv : v + ts.length < 2 ^ 31)
    (k : am_sw x (nI v) ts dflt (fun t => am_J l mi d rc rs t ls st h K)) : am_J l mi d rc rs pc ls (.int x :: st) h K := by
  intro p e R s m args below meth c G H locs cells slots Q arr X hw hS hV hF
  rcases am_sw_use ts v hv k with ⟨i, t, e1, e2, e3⟩ | ⟨e1, e2⟩
  · have hi : i < ts.length := (List.getElem?_eq_some_iff.mp e1).1
    have h1 := List.all_eq_true.mp hts i (List.mem_range.mpr hi)
    simp only [decide_eq_true_eq] at h1
    obtain ⟨o, ho, h2⟩ := h1
    have h3 : ts.getD i 0 = t := by rw [List.getD_eq_getElem?_getD, e1]; rfl
    rw [h3] at h2
    have h4 : (x.toInt - lo).toNat = i := by rw [e2, hlo]; omega
    exact lv_tableIn X.1.1 X.1.2.1 hd (by rw [e2, hlo]; omega) (by rw [e2, hhi]; omega) (off := o) (tgt := t) (by rw [h4]; exact ho) h2 (e3 p e R s m args below meth c G H locs cells slots Q arr X hw hS hV hF)
  · exact lv_tableOut X.1.1 X.1.2.1 hd (by rw [hlo, hhi]; exact e1) hdf (e2 p e R s m args below meth c G H locs cells slots Q arr X hw hS hV hF)
section
variable {l : Am_L} {mi d rc rs pc : Nat} {ls : List (Option Value)} {st : List Value} {h : Am_H} {K : Am_R → Am_H → Prop}
theorem am_c_scr (G : Am_G) : am_c G (.float 9999) = .ref (G.2.2.2.2 9999) := rfl
/-- the script's own row -/
theorem jr_sld {i : Int32} (hd : decode (am_b mi) pc = .ok (.iaload, 1)) (hin : vp_in i l.2.1) (k : am_J l mi d rc rs (pc + 1) ls (.int (l.2.2 i.toNatClampNeg) :: st) h K) : am_J l mi d rc rs pc ls (.int i :: .float 9999 :: st) h K := by
  intro p e R s m args below meth c G H locs cells slots Q arr X hw hS hV hF
  have hE := X.2.2.2.2.2.1.2.2.2.2.2.2.1
  have k1 := k p e R s m args below meth c G H locs cells slots Q arr X hw hS hV hF
  simp only [List.map_cons, am_c_scr, am_c_int] at k1 ⊢
  exact va_sld X.1.1 X.1.2.1 hE.1 (va_X_lt hE.1) hE.2 hS hin hd k1
theorem jr_slen (hd : decode (am_b mi) pc = .ok (.arraylength, 1)) (k : am_J l mi d rc rs (pc + 1) ls (.int (Int32.ofNat l.2.1) :: st) h K) : am_J l mi d rc rs pc ls (.float 9999 :: st) h K := by
  intro p e R s m args below meth c G H locs cells slots Q arr X hw hS hV hF
  have hE := X.2.2.2.2.2.1.2.2.2.2.2.2.1
  have k1 := k p e R s m args below meth c G H locs cells slots Q arr X hw hS hV hF
  simp only [List.map_cons, am_c_scr, am_c_int] at k1 ⊢
  exact va_slen X.1.1 X.1.2.1 hE.1 (va_X_lt hE.1) hE.2 hS hd k1
end
