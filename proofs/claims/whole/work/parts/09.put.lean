/-! stores -/
theorem am_W_put {G : Am_G} {h h' : Am_H} {H H' : Heap} {o ci N f : Nat} {C : String} {T : u_T} {cv : Value} {cell : Cell} (hw : am_W G h H) (hs : am_S h o = (1, ci)) (hcl : vwCl[ci]? = some (C, T, N)) (hk : f < N) (hap : ∀ x y, x < N → y < N → x ≠ y → (G.2.2.1 ci) x ≠ (G.2.2.1 ci) y)
    (hN : am_N h' = am_N h) (hSs : am_S h' = am_S h) (hoth : ∀ q, q ≠ o → (∀ j, am_I h' q j = am_I h q j) ∧ (∀ j, am_L h' q j = am_L h q j) ∧ ∀ j, am_P h' q j = am_P h q j) (hfv : ∀ j, j < N → am_fv G h' T o j = if j = f then cv else am_fv G h T o j)
    (q2 : cell.cls = G.2.1 ci) (q3 : cell.vm = .none) (q4 : ∀ k, k < N → cell.slots[(G.2.2.1 ci) k]? = some (am_fv G h T o k)) (e1 : H'[G.1 + o]? = some (cell.setSlot ((G.2.2.1 ci) f) cv)) (e2 : H'.size = H.size) (e3 : ∀ q, q ≠ G.1 + o → H'[q]? = H[q]?) : am_W G h' H' := by
  refine ⟨by rw [e2, hN]; exact hw.1, fun q => ?_⟩
  by_cases hq : q = o
  · subst hq
    unfold am_cell
    rw [hSs, hs]
    refine ⟨_, hcl, t_OB.to (V := updV (am_fv G h T q) f cv) ⟨_, e1, q2, q3, t_set q4 hap hk cv⟩ (fun j hj => ?_)⟩
    rw [hfv j hj]
    rfl
  · obtain ⟨a, b, c⟩ := hoth q hq
    exact am_cell_kept (hw.2 q) (by rw [hSs]) a b c (e3 _ (by omega))
section
variable {l : Am_L} {mi d rc rs pc : Nat} {ls : List (Option Value)} {st : List Value} {h h' : Am_H} {K : Am_R → Am_H → Prop} {o ci N index f : Nat} {C : String} {T : u_T}
theorem jr_put {v : Value} {ty : FieldType} (hd : decode (am_b mi) pc = .ok (.putfield index, 3)) (hcl : vwCl[ci]? = some (C, T, N)) (hk : f < N)
    (hlink : (Cond.fieldLink (am_y mi).cls index (T f).1 (T f).2.1 (T f).2.2.1 ∈ am_TB ∧ ((T f).2.2.2 = false ∨ ((am_y mi).name = "<init>" ∧ (T f).1 = (am_y mi).cls))) ∨ (∃ host, Cond.fieldLinkNest (am_y mi).cls index (T f).1 (T f).2.1 (T f).2.2.1 host ∈ am_NB) ∧ (T f).2.2.2 = false)
    (hs : am_S h o = (1, ci)) (hty : parseFieldDescriptor (T f).2.2.1 = some ty) (hnar : ∀ G, narrow ty (am_c G v) = am_c G v) (hfit : ∀ G, fits ty (am_c G v) = true)
    (hN : am_N h' = am_N h) (hSs : am_S h' = am_S h) (hoth : ∀ q, q ≠ o → (∀ j, am_I h' q j = am_I h q j) ∧ (∀ j, am_L h' q j = am_L h q j) ∧ ∀ j, am_P h' q j = am_P h q j) (hfv : ∀ G j, j < N → am_fv G h' T o j = if j = f then am_c G v else am_fv G h T o j)
    (k : am_J l mi d rc rs (pc + 3) ls st h' K) : am_J l mi d rc rs pc ls (v :: .ref o :: st) h K := by
  intro p e R s m args below meth c G H locs cells slots Q arr X hw hS hV hF
  have hts := X.1.2.2.2.2.2.1
  have hown := X.1.2.2.2.2.1
  obtain ⟨hin, ⟨ty0, hty0⟩, hnm⟩ := am_CKall hcl
  have hK := X.2.2.2.1
  have hap := va_apart (own := (am_y mi).cls) hts hin ty0 hty0 hnm hK hcl
  obtain ⟨cell, q1, q2, q3, q4⟩ := am_objOB hw hs hcl
  obtain ⟨hSl, hfc, kC, hkC, hkind⟩ := hK.1 ci _ hcl
  obtain ⟨cf, kf, fi, fd, hi, hsl⟩ := hSl f hk
  have hlay := hts _ (hin _ (u_in_lay hk))
  unfold u_lay at hlay
  have hst := (u_facts hfc hkC (u_lays hts hin hk) hi).1
  have fin : ∀ (H' : Heap), H'[G.1 + o]? = some (cell.setSlot fd.slot (am_c G v)) → H'.size = H.size → (∀ q, q ≠ G.1 + o → H'[q]? = H[q]?) → W p l.1 e R s m args below meth c H' (locs ++ [⟨G.1 + o, fd.slot⟩]) cells slots Q (F0 m (pc + 3) arr (st.map (am_c G))) := by
    intro H' e1 e2 e3
    rw [hsl] at e1
    exact k p e R s m args below meth c G H' _ cells slots Q arr X (am_W_put hw hs hcl hk hap hN hSs hoth (hfv G) q2 q3 q4 e1 e2 e3) (hS.put e2 e3 (by show G.1 ≤ G.1 + o; omega)) hV hF
  rcases hlink with ⟨hl, hf | ⟨hin2, hdecl⟩⟩ | ⟨⟨host, hl⟩, hf⟩
  · rw [if_neg (by rw [hf]; decide)] at hlay
    have h6 := u_store hfc hkC hkind hlay hi hty (hnar G) (hfit G)
    exact W.putK X.1.1 X.1.2.1 (f := fd) ⟨hown, hts _ hl, ⟨_, _, _, hi⟩, hst⟩ (by rw [q2]; exact h6) q1 q3 (by rw [hsl]; exact k2_hasslot (q4 f hk)) rfl rfl hd fin
  · by_cases hf : (T f).2.2.2 = true
    · rw [if_pos hf] at hlay
      have hcf : m.cls = cf := by
        obtain ⟨_, _, c', _, _, _, -, -, hf', -, -, -, hown2, -⟩ := Cond.laysFinal_spec hlay
        have e1 : c' = cf := by have := hi.symm.trans hf'; simp at this; exact this.1.symm
        rw [hdecl] at hown2
        rw [← e1]; exact Option.some.inj (hown.symm.trans hown2)
      have h6 := u_fits hfc hkC hkind (Or.inr hlay) hi hty (hnar G) (hfit G)
      exact W.putFinK X.1.1 X.1.2.1 hown (hts _ hl) hi hst hcf (X.1.2.2.2.2.2.2.2.trans hin2) (by rw [q2]; exact h6) q1 q3 (by rw [hsl]; exact k2_hasslot (q4 f hk)) rfl rfl hd fin
    · rw [if_neg hf] at hlay
      have h6 := u_store hfc hkC hkind hlay hi hty (hnar G) (hfit G)
      exact W.putK X.1.1 X.1.2.1 (f := fd) ⟨hown, hts _ hl, ⟨_, _, _, hi⟩, hst⟩ (by rw [q2]; exact h6) q1 q3 (by rw [hsl]; exact k2_hasslot (q4 f hk)) rfl rfl hd fin
  · rw [if_neg (by rw [hf]; decide)] at hlay
    have h6 := u_store hfc hkC hkind hlay hi hty (hnar G) (hfit G)
    exact va_WputK X.1.1 X.1.2.1 (f := fd) hown (va_Nw.use rfl (X.2.2.2.2.2.2.2 _ hl)) hi hst (by rw [q2]; exact h6) q1 q3 (by rw [hsl]; exact k2_hasslot (q4 f hk)) rfl rfl hd fin
end
/-- another array's picture -/
theorem am_W_arr {G : Am_G} {h h' : Am_H} {H H' : Heap} {o : Nat} (hw : am_W G h H) (hN : am_N h' = am_N h) (hSs : am_S h' = am_S h) (hoth : ∀ q, q ≠ o → (∀ j, am_I h' q j = am_I h q j) ∧ (∀ j, am_L h' q j = am_L h q j) ∧ ∀ j, am_P h' q j = am_P h q j) (hc : am_cell G h' H' o) (e2 : H'.size = H.size) (e3 : ∀ q, q ≠ G.1 + o → H'[q]? = H[q]?) : am_W G h' H' := by
  refine ⟨by rw [e2, hN]; exact hw.1, fun q => ?_⟩
  by_cases hq : q = o
  · subst hq; exact hc
  · obtain ⟨a, b, c⟩ := hoth q hq
    exact am_cell_kept (hw.2 q) (by rw [hSs]) a b c (e3 _ (by omega))
theorem am_othI {h : Am_H} {o k : Nat} {x : Int32} : ∀ q, q ≠ o → (∀ j, am_I (am_wI h o k x) q j = am_I h q j) ∧ (∀ j, am_L (am_wI h o k x) q j = am_L h q j) ∧ ∀ j, am_P (am_wI h o k x) q j = am_P h q j := fun q hq => ⟨fun j => by rw [am_I_wI, if_neg (fun z => hq z.1)], fun j => rfl, fun j => rfl⟩
theorem am_othL {h : Am_H} {o k : Nat} {x : Int64} : ∀ q, q ≠ o → (∀ j, am_I (am_wL h o k x) q j = am_I h q j) ∧ (∀ j, am_L (am_wL h o k x) q j = am_L h q j) ∧ ∀ j, am_P (am_wL h o k x) q j = am_P h q j := fun q hq => ⟨fun j => rfl, fun j => by rw [am_L_wL, if_neg (fun z => hq z.1)], fun j => rfl⟩
theorem am_othP {h : Am_H} {o k : Nat} {x : Option Nat} : ∀ q, q ≠ o → (∀ j, am_I (am_wP h o k x) q j = am_I h q j) ∧ (∀ j, am_L (am_wP h o k x) q j = am_L h q j) ∧ ∀ j, am_P (am_wP h o k x) q j = am_P h q j := fun q hq => ⟨fun j => rfl, fun j => rfl, fun j => by rw [am_P_wP, if_neg (fun z => hq z.1)]⟩
section
variable {l : Am_L} {mi d rc rs pc : Nat} {ls : List (Option Value)} {st : List Value} {h : Am_H} {K : Am_R → Am_H → Prop} {o n : Nat} {i : Int32}
theorem jr_iald (hd : decode (am_b mi) pc = .ok (.iaload, 1)) (hs : am_S h o = (2, n)) (hin : vp_in i n) (k : am_J l mi d rc rs (pc + 1) ls (.int (am_I h o i.toNatClampNeg) :: st) h K) : am_J l mi d rc rs pc ls (.int i :: .ref o :: st) h K := by
  intro p e R s m args below meth c G H locs cells slots Q arr X hw hS hV hF
  have hc := hw.2 o
  unfold am_cell at hc
  rw [hs] at hc
  have hlt : i.toNatClampNeg < n := Nat.not_le.mp fun q => hin (Or.inr q)
  exact W.iald (v := .int (am_I h o i.toNatClampNeg)) X.1.1 X.1.2.1 hc ((X.2.2.2.1.2 0 _ rfl).1 n (fun j => .int (am_I h o j))) (fun q => by cases q) (by rw [arrV_size]; exact hin) (by rw [arrV_read _ _ hlt]) rfl rfl hd (k p e R s m args below meth c G H locs cells slots Q arr X hw hS hV hF)
theorem jr_bald (hd : decode (am_b mi) pc = .ok (.baload, 1)) (hs : am_S h o = (3, n)) (hin : vp_in i n) (k : am_J l mi d rc rs (pc + 1) ls (.int (am_I h o i.toNatClampNeg) :: st) h K) : am_J l mi d rc rs pc ls (.int i :: .ref o :: st) h K := by
  intro p e R s m args below meth c G H locs cells slots Q arr X hw hS hV hF
  have hc := hw.2 o
  unfold am_cell at hc
  rw [hs] at hc
  have hlt : i.toNatClampNeg < n := Nat.not_le.mp fun q => hin (Or.inr q)
  exact W.bald (v := .int (am_I h o i.toNatClampNeg)) X.1.1 X.1.2.1 hc.1 ((X.2.2.2.1.2 1 _ rfl).1 n (fun j => .int (am_I h o j))) (fun q => by cases q) (by rw [arrV_size]; exact hin) (by rw [arrV_read _ _ hlt]) rfl rfl hd (k p e R s m args below meth c G H locs cells slots Q arr X hw hS hV hF)
theorem jr_lald (hd : decode (am_b mi) pc = .ok (.laload, 1)) (hs : am_S h o = (4, n)) (hin : vp_in i n) (k : am_J l mi d rc rs (pc + 1) ls (.long (am_L h o i.toNatClampNeg) :: st) h K) : am_J l mi d rc rs pc ls (.int i :: .ref o :: st) h K := by
  intro p e R s m args below meth c G H locs cells slots Q arr X hw hS hV hF
  have hc := hw.2 o
  unfold am_cell at hc
  rw [hs] at hc
  have hlt : i.toNatClampNeg < n := Nat.not_le.mp fun q => hin (Or.inr q)
  exact W.lald (v := .long (am_L h o i.toNatClampNeg)) X.1.1 X.1.2.1 hc ((X.2.2.2.1.2 2 _ rfl).1 n (fun j => .long (am_L h o j))) (fun q => by cases q) (by rw [arrV_size]; exact hin) (by rw [arrV_read _ _ hlt]) rfl rfl hd (k p e R s m args below meth c G H locs cells slots Q arr X hw hS hV hF)
theorem jr_iast {x : Int32} (hd : decode (am_b mi) pc = .ok (.iastore, 1)) (hs : am_S h o = (2, n)) (hin : vp_in i n) (k : am_J l mi d rc rs (pc + 1) ls st (am_wI h o i.toNatClampNeg x) K) : am_J l mi d rc rs pc ls (.int x :: .int i :: .ref o :: st) h K := by
  intro p e R s m args below meth c G H locs cells slots Q arr X hw hS hV hF
  have hc := hw.2 o
  unfold am_cell at hc
  rw [hs] at hc
  refine W.iast X.1.1 X.1.2.1 hc ((X.2.2.2.1.2 0 _ rfl).1 n (fun j => .int (am_I h o j))) (fun q => by cases q) (by rw [arrV_size]; exact hin) rfl rfl hd fun H1 e1 z oq => ?_
  refine k p e R s m args below meth c G H1 _ cells slots Q arr X (am_W_arr hw rfl rfl am_othI ?_ z oq) (hS.put z oq (by show G.1 ≤ G.1 + o; omega)) hV hF
  unfold am_cell
  rw [am_S_wI, hs]
  show H1[G.1 + o]? = _
  rw [e1, arrV_store]
  congr 2
  funext q
  by_cases hq : q = i.toNatClampNeg
  · subst hq; simp [updV, am_I_wI]
  · simp [updV, am_I_wI, hq]
theorem jr_bast {x : Int32} (hd : decode (am_b mi) pc = .ok (.bastore, 1)) (hs : am_S h o = (3, n)) (hin : vp_in i n) (hx : narrow .byte (.int x) = .int x) (k : am_J l mi d rc rs (pc + 1) ls st (am_wI h o i.toNatClampNeg x) K) : am_J l mi d rc rs pc ls (.int x :: .int i :: .ref o :: st) h K := by
  intro p e R s m args below meth c G H locs cells slots Q arr X hw hS hV hF
  have hc := hw.2 o
  unfold am_cell at hc
  rw [hs] at hc
  refine W.bast X.1.1 X.1.2.1 hc.1 ((X.2.2.2.1.2 1 _ rfl).1 n (fun j => .int (am_I h o j))) (fun q => by cases q) (by rw [arrV_size]; exact hin) rfl rfl hd fun H1 e1 z oq => ?_
  refine k p e R s m args below meth c G H1 _ cells slots Q arr X (am_W_arr hw rfl rfl am_othI ?_ z oq) (hS.put z oq (by show G.1 ≤ G.1 + o; omega)) hV hF
  unfold am_cell
  rw [am_S_wI, hs]
  refine ⟨?_, fun j => ?_⟩
  · show H1[G.1 + o]? = _
    rw [e1, hx, arrV_store]
    congr 2
    funext q
    by_cases hq : q = i.toNatClampNeg
    · subst hq; simp [updV, am_I_wI]
    · simp [updV, am_I_wI, hq]
  · rw [am_I_wI]
    split
    · exact hx
    · exact hc.2 j
theorem jr_last {x : Int64} (hd : decode (am_b mi) pc = .ok (.lastore, 1)) (hs : am_S h o = (4, n)) (hin : vp_in i n) (k : am_J l mi d rc rs (pc + 1) ls st (am_wL h o i.toNatClampNeg x) K) : am_J l mi d rc rs pc ls (.long x :: .int i :: .ref o :: st) h K := by
  intro p e R s m args below meth c G H locs cells slots Q arr X hw hS hV hF
  have hc := hw.2 o
  unfold am_cell at hc
  rw [hs] at hc
  refine W.last X.1.1 X.1.2.1 hc ((X.2.2.2.1.2 2 _ rfl).1 n (fun j => .long (am_L h o j))) (fun q => by cases q) (by rw [arrV_size]; exact hin) rfl rfl hd fun H1 e1 z oq => ?_
  refine k p e R s m args below meth c G H1 _ cells slots Q arr X (am_W_arr hw rfl rfl am_othL ?_ z oq) (hS.put z oq (by show G.1 ≤ G.1 + o; omega)) hV hF
  unfold am_cell
  rw [am_S_wL, hs]
  show H1[G.1 + o]? = _
  rw [e1, arrV_store]
  congr 2
  funext q
  by_cases hq : q = i.toNatClampNeg
  · subst hq; simp [updV, am_L_wL]
  · simp [updV, am_L_wL, hq]
theorem jr_alen {t : Nat} (hd : decode (am_b mi) pc = .ok (.arraylength, 1)) (hs : am_S h o = (t, n)) (ht : t = 2 ∨ t = 3 ∨ t = 4 ∨ t = 5) (k : am_J l mi d rc rs (pc + 1) ls (.int (Int32.ofNat n) :: st) h K) : am_J l mi d rc rs pc ls (.ref o :: st) h K := by
  intro p e R s m args below meth c G H locs cells slots Q arr X hw hS hV hF
  have hc := hw.2 o
  unfold am_cell at hc
  rw [hs] at hc
  have kk := k p e R s m args below meth c G H locs cells slots Q arr X hw hS hV hF
  rcases ht with rfl | rfl | rfl | rfl
  · exact W.alen (n := Int32.ofNat n) X.1.1 X.1.2.1 hc ((X.2.2.2.1.2 0 _ rfl).1 n _) (by rw [arrV_size]) rfl rfl hd kk
  · exact W.alen (n := Int32.ofNat n) X.1.1 X.1.2.1 hc.1 ((X.2.2.2.1.2 1 _ rfl).1 n _) (by rw [arrV_size]) rfl rfl hd kk
  · exact W.alen (n := Int32.ofNat n) X.1.1 X.1.2.1 hc ((X.2.2.2.1.2 2 _ rfl).1 n _) (by rw [arrV_size]) rfl rfl hd kk
  · exact W.alen (n := Int32.ofNat n) X.1.1 X.1.2.1 hc ((X.2.2.2.1.2 3 _ rfl).1 n _) (by rw [arrV_size]) rfl rfl hd kk
end
