/-! calls of methods that may throw -/
section
variable {l : Launch} {p : Program} {e : Env} {R : Room} {s : State} {m : MethodId} {args : Array Value} {below : List Frame} {meth : Method} {c : Code} {H : Heap} {locs : List Loc} {cells slots : Nat} {Q : State → Prop} {G : Am_G} {pc mc ms : Nat} {arr : Array Slot} {st0 rest : List Value} {K : Am_R → Am_H → Prop} {a : Array Value}
theorem am_goesX (hr : vx_Run p l e R s m args below meth c H locs cells slots mc ms (F0 m pc arr st0) rest (am_Qc G K a) (am_XC G K) (am_A G)) (hS : va_S (am_A G) s.heap H locs)
    (kk : ∀ (r : Option Value) (h1 : Am_H) (H1 : Heap) (locs1 : List Loc), K (.inl r) h1 → am_W G h1 H1 → va_S (am_A G) s.heap H1 locs1 → W p l e R s m args below meth c H1 locs1 (cells + mc) (slots + ms) Q (F0 m (pc + 3) arr ((r.map (am_c G)).toList ++ rest)))
    (kx : ∀ (E : String) (h1 : Am_H) (H1 : Heap) (locs1 : List Loc) (q : Addr) (ce : Cell), K (.inr E) h1 → am_W G h1 H1 → va_S (am_A G) s.heap H1 locs1 → H1[q]? = some ce → ce.vm = .none → s.vm.findClass E = some ce.cls → vx_W p l e R s m args below meth c H1 locs1 (cells + mc) (slots + ms) Q (F0 m pc arr rest) q) : W p l e R s m args below meth c H locs cells slots Q (F0 m pc arr st0) := by
  intro T hT X
  rcases hr T hT X with ⟨v, st₀, t, T', L, h0, X', hL, e1, e2, ⟨⟨r, h1, hv, hk, hw⟩, hF⟩, st⟩ | ⟨q, st₀, t, T', L, E, ce, h0, X', hL, e1, e2, ⟨⟨h1, hk, hw⟩, hF⟩, hce, hcv, hcl, st⟩
  · cases hv
    obtain ⟨k1, k2, k3⟩ := vx_keep h0 e1 hS (A1 := am_A G) (fun _ _ q => q) (fun _ q => q) hL hF
    obtain ⟨t2, a1, b1⟩ := kk r h1 T'.heap (locs ++ L) hk (by rw [e1]; exact hw) k3 T' rfl X'
    exact ⟨t2, st t2 a1, b1⟩
  · obtain ⟨k1, k2, k3⟩ := vx_keep h0 e1 hS (A1 := am_A G) (fun _ _ q => q) (fun _ q => q) hL hF
    obtain ⟨t2, a1, b1⟩ := kx E h1 T'.heap (locs ++ L) q ce hk (by rw [e1]; exact hw) k3 (by rw [e1]; exact hce) hcv hcl T' rfl X'
    exact ⟨t2, st.trans a1, b1⟩
end
/-- what comes behind a call: it goes on, or throws out of here -/
def am_kx (K : Am_R → Am_H → Prop) (F : Option Value → Am_H → Prop) : Am_R → Am_H → Prop := fun r h' => match r with
  | .inl v => F v h'
  | .inr E => K (.inr E) h'
theorem am_kx_l (K : Am_R → Am_H → Prop) (F : Option Value → Am_H → Prop) (v : Option Value) (h : Am_H) : am_kx K F (.inl v) h = F v h := rfl
theorem am_kx_r (K : Am_R → Am_H → Prop) (F : Option Value → Am_H → Prop) (E : String) (h : Am_H) : am_kx K F (.inr E) h = K (.inr E) h := rfl
section
variable {l : Am_L} {mi d rc rs rc1 rs1 pc cal index n : Nat} {ls : List (Option Value)} {st as : List Value} {h : Am_H} {K : Am_R → Am_H → Prop}
theorem jr_invVx {o ci N : Nat} {C : String} {T : u_T} (hd : decode (am_b mi) pc = .ok (.invokevirtual index, 3)) (hl : am_lk mi cal index n) (hlm : Cond.methodLink (am_y mi).cls index (am_y cal) ∈ am_TB) (hw1 : Cond.instanceMethod (am_y cal) ∈ am_TB) (hw2 : Cond.selects C (am_y cal) (am_y cal) ∈ am_TB) (hcl : vwCl[ci]? = some (C, T, N)) (hs : am_S h o = (1, ci)) (hn : as.length = n) (hst : (st.map fun v => v.category).sum ≤ 8) (hhs : am_hs mi pc)
    (hM : am_M l d rc1 rs1 cal (.ref o :: as) h (am_kx K (fun v h' => am_J l mi (d + 1) rc rs (pc + 3) ls (am_push v st) h' K))) : am_J l mi (d + 1) (rc1 + rc) (rs1 + rs) pc ls (as.reverse ++ .ref o :: st) h K := by
  intro p e R s m args below meth c G H locs cells slots Q arr X hw hS hV hF
  have hts := X.1.2.2.2.2.2.1
  have hP := am_obj hw hs hcl
  have hfix : CallFix p m c (am_b mi) (am_l mi) s args am_TB (am_y mi).cls := ⟨X.1.1, X.1.2.1, X.1.2.2.2.1, X.1.2.2.2.2.1, hts⟩
  have hpre : PreV s H C (G.1 + o) (va_Pc ((Value.ref o :: as).map (am_c G)) (fun U => am_K l G U ∧ am_W G h U.heap)) (as.map (am_c G)) :=
    ⟨am_blind, va_recv X.2.2.2.1 hP hcl (q0 := 0) rfl, fun U hU hW => ⟨rfl, X.2.2.2.call hS hU hW, by rw [hU]; exact hw⟩⟩
  have hstk : (as.reverse ++ Value.ref o :: st).map (am_c G) = (as.map (am_c G)).reverse ++ .ref (G.1 + o) :: st.map (am_c G) := by simp [am_c_ref]
  have hcat : ((st.map (am_c G)).map fun v => v.category).sum ≤ 8 := by
    have e1 : (st.map (am_c G)).map (fun v => v.category) = st.map fun v => v.category := by simp [am_c_cat]
    rw [e1]; exact hst
  have hf : cells + rc1 ≤ R.cells ∧ slots + rs1 ≤ R.slots := by have := X.2.2.1; omega
  have hB := am_callB X hl
  have hX : am_X l mi (d + 1) rc rs p R s m args meth c G (cells + rc1) (slots + rs1) := ⟨X.1, X.2.1, by have := X.2.2.1; omega, X.2.2.2⟩
  rw [hstk]
  refine am_goesX (vx_runV (As := as.map (am_c G)) (rest := st.map (am_c G)) hfix (hM G) ⟨hB.1 hlm, hts _ hw1, hts _ hw2⟩ hpre rfl (by simpa using hn) hV.1 rfl (lv_room hcat) hd hf) hS (fun r h1 H1 locs1 hk hw1 hS1 => ?_) (fun E h1 H1 locs1 q ce hk hw1 hS1 hce hcv hcl => ?_)
  · rw [← am_push_map]
    exact hk p e R s m args below meth c G H1 locs1 _ _ Q arr hX hw1 hS1 hV hF
  · exact hF.2.1 E h1 H1 locs1 (cells + rc1) (slots + rs1) arr pc _ q ce hk hw1 hS1 (by have := X.2.2.1; omega) (by have := X.2.2.1; omega) hce hcv hcl ⟨hV.1, hV.2.1, fun q hq => absurd hq List.not_mem_nil⟩ hhs
end
