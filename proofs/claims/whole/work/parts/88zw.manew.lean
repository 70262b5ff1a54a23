/-! rows of texts are made -/
section
variable {l : Am_L} {mi d rc rs pc index : Nat} {ls : List (Option Value)} {st : List Value} {h : Am_H} {K : Am_R → Am_H → Prop}
theorem jr_anew {n : Nat} {v : Int32} (hd : decode (am_b mi) pc = .ok (.anewarray index, 3)) (hl : Cond.classLink (am_y mi).cls index "java/lang/String" ∈ am_TB) (hv : ¬ v < 0) (hn : v.toNatClampNeg = n) (hb : n ≤ 1000000)
    (k : am_J l mi d rc rs (pc + 3) ls (.ref (am_N h) :: st) (am_nw h (5, n)) K) : am_J l mi d (rc + 1) (rs + n) pc ls (.int v :: st) h K := by
  intro p e R s m args below meth c G H locs cells slots Q arr X hw hS hV hF
  have hts := X.1.2.2.2.2.2.1
  have hX := X.2.2.1
  refine W.anew X.1.1 X.1.2.1 X.1.2.2.2.2.1 (hts _ hl) (va_AO.use X.2.2.2.2.2.1.2.2.2.2.2.2.2.2) rfl hd rfl hv (by rw [hn]; omega) (by omega) (by rw [hn]; omega) fun cA kA comp h1 h2 h3 h4 => ?_
  rw [hn]
  obtain ⟨kA', comp', r1, r2, r3, r4⟩ := (X.2.2.2.1.2 3 _ rfl).2
  have hcA : cA = G.2.2.2.1 5 := Option.some.inj (h1.symm.trans r4)
  subst hcA
  have hX2 : am_X l mi d rc rs p R s m args meth c G (cells + 1) (slots + n) := ⟨X.1, X.2.1, by omega, X.2.2.2⟩
  have z1 : (H.push ({ cls := G.2.2.2.1 5, slots := Array.replicate n Value.null, vm := .none } : Cell)).size = H.size + 1 := Array.size_push _
  have o1 : ∀ q, q < H.size → (H.push ({ cls := G.2.2.2.1 5, slots := Array.replicate n Value.null, vm := .none } : Cell))[q]? = H[q]? := fun q hq => by rw [Array.getElem?_push, if_neg (by omega)]
  have hk := k p e R s m args below meth c G (H.push ({ cls := G.2.2.2.1 5, slots := Array.replicate n Value.null, vm := .none } : Cell)) locs _ _ Q arr hX2 (am_W_new hw z1 o1 (by
    unfold am_cell
    rw [am_nw_S]
    show (H.push _)[G.1 + am_N h]? = _
    rw [← hw.1, Array.getElem?_push, if_pos rfl, arrV_new]
    congr 2
    funext j
    rw [am_nw_P]
    rfl)) ⟨Nat.le_trans hS.1 (by rw [z1]; omega), fun x q1 q2 => (o1 x (Nat.lt_of_lt_of_le q1 hS.1)).trans (hS.2.1 x q1 q2), hS.2.2⟩ hV hF
  rw [List.map_cons, am_c_ref, ← hw.1] at hk
  exact hk
theorem jr_aast {o n i : Nat} {j : Int32} (hd : decode (am_b mi) pc = .ok (.aastore, 1)) (hs : am_S h o = (5, n)) (hin : vp_in j n) (hi : i < am_nT) (k : am_J l mi d rc rs (pc + 1) ls st (am_wP h o j.toNatClampNeg (some i)) K) : am_J l mi d rc rs pc ls (.float (UInt32.ofNat i) :: .int j :: .ref o :: st) h K := by
  intro p e R s m args below meth c G H locs cells slots Q arr X hw hS hV hF
  have hc := hw.2 o
  unfold am_cell at hc
  rw [hs] at hc
  have hlt : j.toNatClampNeg < n := Nat.not_le.mp fun q => hin (Or.inr q)
  have h0 : ¬ j < 0 := fun q => hin (Or.inl q)
  have hi4 : i < 1000 := by unfold am_nT at hi; omega
  obtain ⟨cv, g1, g2, g3⟩ := va_Orecv (X.2.2.2.2.2.1.2.2.2.1 i hi).1 hS
  obtain ⟨kA, comp, k1, k2, k3, -⟩ := (X.2.2.2.1.2 3 _ rfl).2
  obtain ⟨kc, hkc⟩ := Vm.classAt_of_findClass k3
  have hcv : cv.cls = comp := Option.some.inj (g3.symm.trans k3)
  rw [List.map_cons, am_c_txt G hi4]
  refine W.aast (v := G.2.2.2.2 i) X.1.1 X.1.2.1 hc (fun q h => by cases h) (fun h => by cases h) k1 k2 rfl hkc ⟨h0, by rw [arrV_size]; exact hlt⟩ g1 (fun q h => by rw [h] at g2; cases g2) (by rw [hcv]; exact hkc) (by rw [hcv, Vm.assignable, Vm.assignableAux, beq_self_eq_true, Bool.true_or]) rfl rfl hd fun H1 e1 z oq => ?_
  refine k p e R s m args below meth c G H1 _ cells slots Q arr X (am_W_arr hw rfl rfl am_othP ?_ z oq) (hS.put z oq (by show G.1 ≤ G.1 + o; omega)) hV hF
  unfold am_cell
  rw [am_S_wP, hs]
  show H1[G.1 + o]? = _
  rw [e1, arrV_store]
  congr 2
  funext q
  by_cases hq : q = j.toNatClampNeg
  · subst hq; simp [updV, am_P_wP, am_sv]
  · simp [updV, am_P_wP, hq]
end
