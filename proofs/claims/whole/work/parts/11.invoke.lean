/-! calls of the claim's own methods -/
def am_ok (r : Am_R) (F : Option Value → Prop) : Prop := match r with
  | .inl v => F v
  | .inr _ => False
theorem am_ok_l (v : Option Value) (F : Option Value → Prop) : am_ok (.inl v) F = F v := rfl
def am_push (v : Option Value) (st : List Value) : List Value := match v with
  | none => st
  | some v => v :: st
theorem am_push_n (st : List Value) : am_push none st = st := rfl
theorem am_push_s (v : Value) (st : List Value) : am_push (some v) st = v :: st := rfl
theorem am_push_map (G : Am_G) (v : Option Value) (st : List Value) : (am_push v st).map (am_c G) = (v.map (am_c G)).toList ++ st.map (am_c G) := by cases v <;> rfl
theorem am_good (mi : Nat) (hm : mi < am_nM) : GoodIn am_TB (am_ws mi) := by
  intro w hw
  have hm2 : w ∈ am_TB := by
    rcases List.mem_cons.mp hw with rfl | h
    · exact am_code mi hm
    · exact h
  exact ⟨hm2, good_of_word (List.mem_filter.mp hm2).2⟩
theorem am_Met {l : Am_L} {d rc rs mi : Nat} {as : List Value} {h : Am_H} {F : Option Value → Am_H → Prop} (hM : am_M l d rc rs mi as h (fun r h' => am_ok r (fun v => F v h'))) (G : Am_G) : Met l.1 (am_y mi) (am_ws mi) (am_rm d rc rs) (va_Pc (as.map (am_c G)) (fun U => am_K l G U ∧ am_W G h U.heap)) (am_Qc G (fun r h' => am_ok r (fun v => F v h'))) rc rs (am_A G) := by
  intro p e ha hc hk s m args below hf happ hP hK
  obtain ⟨k, o, h1, h2, h3, hQ⟩ := hM G p e ha hc hk s m args below hf happ hP hK
  refine ⟨k, o, h1, h2, h3, ?_⟩
  rcases hQ with hQ | ⟨q, -, E, ce, L, ⟨⟨h9, hx, -⟩, -⟩, -⟩
  · exact hQ
  · exact hx.elim
theorem am_blind {l : Am_L} {G : Am_G} {as : List Value} {h : Am_H} : FrameBlind (va_Pc (as.map (am_c G)) (fun U => am_K l G U ∧ am_W G h U.heap)) := fun a U g mk q => ⟨q.1, q.2.1.blind, q.2.2⟩
section
variable {l : Launch} {p : Program} {e : Env} {R : Room} {s : State} {m : MethodId} {args : Array Value} {below : List Frame} {meth : Method} {c : Code} {H : Heap} {locs : List Loc} {cells slots : Nat} {Q : State → Prop} {G : Am_G} {pc mc ms : Nat} {arr : Array Slot} {st0 rest : List Value} {K : Am_R → Am_H → Prop} {a : Array Value}
theorem am_goes (hr : va_Run p l e R s m args below meth c H locs cells slots mc ms (F0 m pc arr st0) rest (am_Qc G K a) (am_A G)) (hS : va_S (am_A G) s.heap H locs)
    (kk : ∀ (r : Option Value) (h1 : Am_H) (H1 : Heap) (locs1 : List Loc), K (.inl r) h1 → am_W G h1 H1 → va_S (am_A G) s.heap H1 locs1 → W p l e R s m args below meth c H1 locs1 (cells + mc) (slots + ms) Q (F0 m (pc + 3) arr ((r.map (am_c G)).toList ++ rest))) : W p l e R s m args below meth c H locs cells slots Q (F0 m pc arr st0) := by
  intro T hT X
  obtain ⟨v, st₀, t, T', L, h0, X', hL, e1, e2, ⟨⟨r, h1, hv, hk, hw⟩, hF⟩, st⟩ := hr T hT X
  cases hv
  obtain ⟨k1, k2, k3⟩ := vx_keep h0 e1 hS (A1 := am_A G) (fun _ _ q => q) (fun _ q => q) hL hF
  obtain ⟨t2, a1, b1⟩ := kk r h1 T'.heap (locs ++ L) hk (by rw [e1]; exact hw) k3 T' rfl X'
  exact ⟨t2, st t2 a1, b1⟩
end
/-- what a call needs of the words -/
def am_lk (mi cal index n : Nat) : Prop := cal < am_nM ∧ (parseMethodDescriptor (am_y cal).desc).map (fun d => d.parameters.length) = some n ∧ Cond.initialized (am_y cal).cls ∈ am_TB ∧ (Cond.methodLink (am_y mi).cls index (am_y cal) ∈ am_TB ∨ ∃ host, Cond.methodLinkNest (am_y mi).cls index (am_y cal) host ∈ am_NB)
section
variable {l : Am_L} {mi d rc rs rc1 rs1 pc cal index n : Nat} {ls : List (Option Value)} {st as : List Value} {h : Am_H} {K : Am_R → Am_H → Prop}
theorem am_callB {R : Room} {s : State} {m : MethodId} {args : Array Value} {p : Program} {meth : Method} {c : Code} {G : Am_G} {cells slots : Nat} (X : am_X l mi (d + 1) (rc1 + rc) (rs1 + rs) p R s m args meth c G cells slots) (hl : am_lk mi cal index n) :
    (Cond.methodLink (am_y mi).cls index (am_y cal) ∈ am_TB → CallB R s args (am_y mi).cls index (am_y cal) (am_b cal) (am_l cal) (am_r cal) (am_ws cal) (am_rm d rc1 rs1) rc1 rs1 n) ∧
    (∀ host, Cond.methodLinkNest (am_y mi).cls index (am_y cal) host ∈ am_NB → va_CN R s args (am_y mi).cls index (am_y cal) host (am_b cal) (am_l cal) (am_r cal) (am_ws cal) (am_rm d rc1 rs1) rc1 rs1 n) := by
  obtain ⟨hc, hn, hi, -⟩ := hl
  have hts := X.1.2.2.2.2.2.1
  have hck := am_ckM_all cal hc
  simp only [am_ckM, Bool.and_eq_true, decide_eq_true_eq] at hck
  have hR : (am_rm d rc1 rs1).frames + 1 ≤ R.frames ∧ 8 + (am_l cal + 11) + (am_rm d rc1 rs1).locals ≤ R.locals := by
    have h1 := X.2.1
    have h2 := hck.2
    constructor
    · show d + 8 + 1 ≤ R.frames; omega
    · show 8 + (am_l cal + 11) + (40 * d + 200) ≤ R.locals; omega
  refine ⟨fun hm => callB_of n hts (am_good cal hc) rfl rfl rfl (hts _ hi) (hts _ hm) ⟨hck.1.1, hck.1.2, hn⟩ hR, fun host hm => ?_⟩
  have hnw : va_Nw (.methodLinkNest (am_y mi).cls index (am_y cal) host) s := X.2.2.2.2.2.2.2 _ hm
  exact va_cnB n hts (am_good cal hc) rfl rfl rfl hnw (hts _ hi) ⟨hck.1.1, hck.1.2, hn⟩ hR
theorem jr_invV {o ci N : Nat} {C : String} {T : u_T} (hd : decode (am_b mi) pc = .ok (.invokevirtual index, 3)) (hl : am_lk mi cal index n) (hw1 : Cond.instanceMethod (am_y cal) ∈ am_TB) (hw2 : Cond.selects C (am_y cal) (am_y cal) ∈ am_TB) (hcl : vwCl[ci]? = some (C, T, N)) (hs : am_S h o = (1, ci)) (hn : as.length = n) (hst : (st.map fun v => v.category).sum ≤ 8)
    (hM : am_M l d rc1 rs1 cal (.ref o :: as) h (fun r h' => am_ok r (fun v => am_J l mi (d + 1) rc rs (pc + 3) ls (am_push v st) h' K))) : am_J l mi (d + 1) (rc1 + rc) (rs1 + rs) pc ls (as.reverse ++ .ref o :: st) h K := by
  intro p e R s m args below meth c G H locs cells slots Q arr X hw hS hV hF
  have hts := X.1.2.2.2.2.2.1
  have hP := am_obj hw hs hcl
  have hfix : CallFix p m c (am_b mi) (am_l mi) s args am_TB (am_y mi).cls := ⟨X.1.1, X.1.2.1, X.1.2.2.2.1, X.1.2.2.2.2.1, hts⟩
  have hpre : PreV s H C (G.1 + o) (va_Pc ((Value.ref o :: as).map (am_c G)) (fun U => am_K l G U ∧ am_W G h U.heap)) (as.map (am_c G)) :=
    ⟨am_blind, va_recv X.2.2.2.1 hP hcl (q0 := 0) rfl, fun U hU hW => ⟨rfl, X.2.2.2.call hS hU hW, by rw [hU]; exact hw⟩⟩
  have hstk : (as.reverse ++ Value.ref o :: st).map (am_c G) = (as.map (am_c G)).reverse ++ .ref (G.1 + o) :: st.map (am_c G) := by simp [am_c_ref]
  have hcat : ((st.map (am_c G)).map fun v => v.category).sum ≤ 8 := by
    have e1 : (st.map (am_c G)).map (fun v => v.category) = st.map fun v => v.category := by simp [am_c_cat]
    rw [e1]; exact hst
  have hf : cells + rc1 ≤ R.cells ∧ slots + rs1 ≤ R.slots := by have := X.2.2.1; omega
  have hB := am_callB X hl
  have hX : am_X l mi (d + 1) rc rs p R s m args meth c G (cells + rc1) (slots + rs1) := ⟨X.1, X.2.1, by have := X.2.2.1; omega, X.2.2.2⟩
  rw [hstk]
  rcases hl.2.2.2 with hm | ⟨host, hm⟩
  · refine am_goes (va_runV (As := as.map (am_c G)) (rest := st.map (am_c G)) hfix (am_Met hM G) ⟨hB.1 hm, hts _ hw1, hts _ hw2⟩ hpre rfl (by simpa using hn) hV.1 rfl (lv_room hcat) hd hf) hS fun r h1 H1 locs1 hk hw1 hS1 => ?_
    rw [← am_push_map]
    exact hk p e R s m args below meth c G H1 locs1 _ _ Q arr hX hw1 hS1 hV hF
  · refine am_goes (va_runVN (As := as.map (am_c G)) (rest := st.map (am_c G)) hfix (am_Met hM G) ⟨hB.2 host hm, hts _ hw1, hts _ hw2⟩ hpre rfl (by simpa using hn) hV.1 rfl (lv_room hcat) hd hf) hS fun r h1 H1 locs1 hk hw1 hS1 => ?_
    rw [← am_push_map]
    exact hk p e R s m args below meth c G H1 locs1 _ _ Q arr hX hw1 hS1 hV hF
theorem jr_invS (hd : decode (am_b mi) pc = .ok (.invokestatic index, 3)) (hl : am_lk mi cal index n) (hw1 : Cond.static (am_y cal) ∈ am_TB) (hn : as.length = n) (hst : (st.map fun v => v.category).sum ≤ 8)
    (hM : am_M l d rc1 rs1 cal as h (fun r h' => am_ok r (fun v => am_J l mi (d + 1) rc rs (pc + 3) ls (am_push v st) h' K))) : am_J l mi (d + 1) (rc1 + rc) (rs1 + rs) pc ls (as.reverse ++ st) h K := by
  intro p e R s m args below meth c G H locs cells slots Q arr X hw hS hV hF
  have hts := X.1.2.2.2.2.2.1
  have hfix : CallFix p m c (am_b mi) (am_l mi) s args am_TB (am_y mi).cls := ⟨X.1.1, X.1.2.1, X.1.2.2.2.1, X.1.2.2.2.2.1, hts⟩
  have hpre : PreS s H (va_Pc (as.map (am_c G)) (fun U => am_K l G U ∧ am_W G h U.heap)) (as.map (am_c G)) :=
    ⟨am_blind, fun U hU hW => ⟨rfl, X.2.2.2.call hS hU hW, by rw [hU]; exact hw⟩⟩
  have hstk : (as.reverse ++ st).map (am_c G) = (as.map (am_c G)).reverse ++ st.map (am_c G) := by simp
  have hcat : ((st.map (am_c G)).map fun v => v.category).sum ≤ 8 := by
    have e1 : (st.map (am_c G)).map (fun v => v.category) = st.map fun v => v.category := by simp [am_c_cat]
    rw [e1]; exact hst
  have hf : cells + rc1 ≤ R.cells ∧ slots + rs1 ≤ R.slots := by have := X.2.2.1; omega
  have hB := am_callB X hl
  have hX : am_X l mi (d + 1) rc rs p R s m args meth c G (cells + rc1) (slots + rs1) := ⟨X.1, X.2.1, by have := X.2.2.1; omega, X.2.2.2⟩
  rw [hstk]
  rcases hl.2.2.2 with hm | ⟨host, hm⟩
  · refine am_goes (va_runS (As := as.map (am_c G)) (rest := st.map (am_c G)) hfix (am_Met hM G) ⟨hB.1 hm, hts _ hw1⟩ hpre rfl (by simpa using hn) hV.1 rfl (lv_room hcat) hd hf) hS fun r h1 H1 locs1 hk hw1 hS1 => ?_
    rw [← am_push_map]
    exact hk p e R s m args below meth c G H1 locs1 _ _ Q arr hX hw1 hS1 hV hF
  · refine am_goes (va_runSN (As := as.map (am_c G)) (rest := st.map (am_c G)) hfix (am_Met hM G) ⟨hB.2 host hm, hts _ hw1, trivial⟩ hpre rfl (by simpa using hn) hV.1 rfl (lv_room hcat) hd hf) hS fun r h1 H1 locs1 hk hw1 hS1 => ?_
    rw [← am_push_map]
    exact hk p e R s m args below meth c G H1 locs1 _ _ Q arr hX hw1 hS1 hV hF
theorem jr_invI {o : Nat} (hd : decode (am_b mi) pc = .ok (.invokespecial index, 3)) (hl : am_lk mi cal index n) (hw1 : Cond.instanceMethod (am_y cal) ∈ am_TB) (hnm : (am_y cal).name = "<init>") (hr : am_r cal = none) (hn : as.length = n) (hst : (st.map fun v => v.category).sum ≤ 8)
    (hM : am_M l d rc1 rs1 cal (.ref o :: as) h (fun r h' => am_ok r (fun v => am_J l mi (d + 1) rc rs (pc + 3) ls (am_push v st) h' K))) : am_J l mi (d + 1) (rc1 + rc) (rs1 + rs) pc ls (as.reverse ++ .ref o :: st) h K := by
  intro p e R s m args below meth c G H locs cells slots Q arr X hw hS hV hF
  have hts := X.1.2.2.2.2.2.1
  have hfix : CallFix p m c (am_b mi) (am_l mi) s args am_TB (am_y mi).cls := ⟨X.1.1, X.1.2.1, X.1.2.2.2.1, X.1.2.2.2.2.1, hts⟩
  have hpre : PreS s H (va_Pc ((Value.ref o :: as).map (am_c G)) (fun U => am_K l G U ∧ am_W G h U.heap)) (.ref (G.1 + o) :: as.map (am_c G)) :=
    ⟨am_blind, fun U hU hW => ⟨rfl, X.2.2.2.call hS hU hW, by rw [hU]; exact hw⟩⟩
  have hstk : (as.reverse ++ Value.ref o :: st).map (am_c G) = (as.map (am_c G)).reverse ++ .ref (G.1 + o) :: st.map (am_c G) := by simp [am_c_ref]
  have hcat : ((st.map (am_c G)).map fun v => v.category).sum ≤ 8 := by
    have e1 : (st.map (am_c G)).map (fun v => v.category) = st.map fun v => v.category := by simp [am_c_cat]
    rw [e1]; exact hst
  have hf : cells + rc1 ≤ R.cells ∧ slots + rs1 ≤ R.slots := by have := X.2.2.1; omega
  have hB := am_callB X hl
  rw [hr] at hB
  have hX : am_X l mi (d + 1) rc rs p R s m args meth c G (cells + rc1) (slots + rs1) := ⟨X.1, X.2.1, by have := X.2.2.1; omega, X.2.2.2⟩
  rw [hstk]
  rcases hl.2.2.2 with hm | ⟨host, hm⟩
  · refine am_goes (va_runI (As := as.map (am_c G)) (rest := st.map (am_c G)) hfix (am_Met hM G) ⟨hB.1 hm, hnm, hts _ hw1⟩ hpre rfl (by simpa using hn) hV.1 rfl (lv_room hcat) hd hf) hS fun r h1 H1 locs1 hk hw1 hS1 => ?_
    rw [← am_push_map]
    exact hk p e R s m args below meth c G H1 locs1 _ _ Q arr hX hw1 hS1 hV hF
  · refine am_goes (va_runIN (As := as.map (am_c G)) (rest := st.map (am_c G)) hfix (am_Met hM G) ⟨hB.2 host hm, hnm, hts _ hw1⟩ hpre rfl (by simpa using hn) hV.1 rfl (lv_room hcat) hd hf) hS fun r h1 H1 locs1 hk hw1 hS1 => ?_
    rw [← am_push_map]
    exact hk p e R s m args below meth c G H1 locs1 _ _ Q arr hX hw1 hS1 hV hF
end
