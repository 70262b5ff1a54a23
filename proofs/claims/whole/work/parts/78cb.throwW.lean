/-! a throw of the claim's own; the start of a method that throws -/
theorem am_throwW {l : Am_L} {mi d rc rs pc : Nat} {p : Program} {e : Env} {R : Room} {s : State} {m : MethodId} {args : Array Value} {below : List Frame} {meth : Method} {c : Code} {G : Am_G} {h : Am_H} {H : Heap} {locs : List Loc} {c0 s0 cells slots mc ms : Nat} {arr : Array Slot} {st : List Value} {E : String} {K : Am_R → Am_H → Prop} (X : am_X l mi d rc rs p R s m args meth c G c0 s0) (hw : am_W G h H) (hS : va_S (am_A G) s.heap H locs) (ht : am_thr mi pc = E) (hE : E ≠ "") (hk : ∀ n, am_N h ≤ n → K (.inr E) (am_skip h n)) (hsize : arr.size = am_l mi) (h1 : cells + 1 ≤ R.cells) (h2 : slots + 6 ≤ R.slots) (h3 : cells + 1 ≤ mc) (h4 : slots + 6 ≤ ms) (hcat : (st.map fun v => v.category).sum ≤ 8) (hout : ∀ x ∈ c.exceptionTable.toList, False) : W p l.1 e R s m args below meth c H locs cells slots (vx_MQ below (am_Qc G K) (am_XC G K) args s mc ms (am_A G)) (F0 m pc arr st) := by
  obtain ⟨ik, is, ic, si, ix, tx, hp, hc, hstr, d0, d3, d4, d6, d9⟩ := am_site ht hE
  have tb := am_tby (E, ik, ic, ix) hp
  dsimp only at tb
  have f1 := (am_tf hp).1
  have f0 := (am_tf hp).2.1
  have hn0 := (am_tf hp).2.2.1
  have k1 := (am_tf hp).2.2.2.1
  have k3 := (am_tf hp).2.2.2.2
  have hts := X.1.2.2.2.2.2.1
  have hown : s.vm.findClass "SandCars" = some m.cls := by rw [← hc]; exact X.1.2.2.2.2.1
  have tg := am_tg hp
  have tn := am_tn hp
  have hg0 := am_to hp
  have hat : am_tat (E, ik, ic, ix) = (xt_at "SandCars" ic E am_RE ix (am_bx ix) am_nms).filter vx_no := rfl
  have hw0 : ∀ w ∈ am_tat (E, ik, ic, ix), w.before args s = true := by
    generalize am_tat (E, ik, ic, ix) = L at tg tn ⊢
    exact vx_hat (B := L.filter (fun w => !goodWord w)) (fun w hw => hts _ (tg w hw)) (fun w hw => hw) (fun w hw => va_Nw.use (am_isN_tab (List.mem_filter.mp (tn w hw)).2) (X.2.2.2.2.2.2.2 w (tn w hw)))
  rw [hat] at hw0 hg0
  clear tg tn hat hp
  generalize am_bx ix = bx at *
  have hfr : am_nms.length + 4 < R.frames := by
    have := X.2.1
    show 1 + 4 < R.frames
    omega
  have hlo : (st.map fun v => v.category).sum + (13 * (am_nms.length + 2) + 43) ≤ R.locals := by
    have := X.2.1
    show _ + (13 * (1 + 2) + 43) ≤ R.locals
    omega
  have hx : ∀ t : State, s.vm.Alike t.vm → H.size ≤ t.heap.size → (∀ q : Nat, q < H.size → t.heap[q]? = H[q]?) → am_XC G K E s t := by
    intro t hal hsz hq
    obtain ⟨w1, w2⟩ := am_W_grow hw hsz hq
    exact ⟨⟨_, hk _ w2, w1⟩, Nat.le_trans hS.1 hsz, fun q hq0 hqA => (hq q (Nat.lt_of_lt_of_le hq0 hS.1)).trans (hS.2.1 q hq0 hqA)⟩
  generalize am_nms = nms at *
  generalize am_RE = re at *
  have hl0 : l.1.stackTraces = false := X.2.2.2.2.2.1.1
  have hs0 := X.2.2.2.2.2.2.1 si _ hstr
  exact xt_throw (text := tx) X.1.1 X.1.2.1 hl0 hown f1 f0 hn0 tb (hts _ k1) (hts _ k3) hs0 hw0 hg0 X.2.2.2.2.2.1.2.1 X.2.2.2.2.2.1.2.2.1 hS (by rw [hsize]; exact X.1.2.2.2.1.symm) d0 d3 d4 d6 d9 (fun x hx => (hout x hx).elim) hfr hlo h1 h2 X.1.2.2.2.2.2.2.1 hx hS.2.2 h3 h4
section
variable {l : Am_L} {mi d rc rs : Nat} {h : Am_H} {K : Am_R → Am_H → Prop}
/-- the start of a method that throws by itself -/
theorem am_enterT {as : List Value} (hp : plainName (am_y mi).cls = true) (hn : (lg_sl as).length ≤ am_l mi) (k : am_J l mi d rc rs 0 (am_ent (am_l mi) as) [] h K) : am_M l d rc rs mi as h K := by
  intro G
  refine vx_ofW (cc := am_b mi) (maxL := am_l mi) (ret := am_r mi) hp rfl ?_
  intro p e s m args below meth c s₁ B hml htab hv
  obtain ⟨rfl, hK, hw⟩ := hv
  have hts := atoms_spec (ws := am_ws mi) B.pre
  have hlocks := B.notSynchronized
  have hl := lv_entry (as.map (am_c G)) (n := am_l mi) (by
    rw [am_sl_len]; exact hn)
  rw [lg_entry_eq]
  generalize (lg_sl (as.map (am_c G)) ++ List.replicate (am_l mi - (lg_sl (as.map (am_c G))).length) Slot.unset).toArray = arr at hl ⊢
  have hV : am_V G arr (am_l mi) (am_ent (am_l mi) as) := am_V.of hl fun i v hi => by
    have := am_ent_args (G := G) as (am_l mi) i v 0 hi
    rwa [Nat.zero_add] at this
  have hX : am_X l mi d rc rs p (headSpec (am_ws mi) (am_rm d rc rs)).room s m (as.map (am_c G)).toArray meth c G 0 0 :=
    ⟨⟨B.exec, B.bytes, B.returns, hml, findClass_of_methodNamed B.named, fun w hw => hts w (List.mem_cons_of_mem _ hw), hlocks, (name_of_methodNamed B.named B.method).1⟩, ⟨Nat.le_refl _, Nat.le_refl _⟩, ⟨by show 0 + rc ≤ rc; omega, by show 0 + rs ≤ rs; omega⟩, hK⟩
  refine k p e _ s m _ below meth c G s.heap [] 0 0 _ arr hX hw va_S.rf hV ⟨?_, ?_, ?_⟩
  · intro r h1 H1 locs1 cells1 slots1 arr1 pc1 hk hw1 hS1 hc hs hd
    refine vx_ret (W.widen (k := rc) (n := rs) hc hs ?_)
    match r, hd with
    | none, hd => exact W.vret B.exec B.bytes (B.returns.trans hd.1) (fun t ht _ => ⟨⟨none, h1, rfl, hk, by rw [ht]; exact hw1⟩, hS1.F ht⟩) hS1.2.2 hd.2
    | some (.int x), hd =>
      obtain ⟨⟨ty, e1, e2⟩, hd⟩ := hd
      exact W.zret B.exec B.bytes (B.returns.trans e1) e2 (fun t ht _ => ⟨⟨some (.int x), h1, rfl, hk, by rw [ht]; exact hw1⟩, hS1.F ht⟩) hS1.2.2 hd
    | some (.long x), hd => exact W.lret B.exec B.bytes (B.returns.trans hd.1) (fun t ht _ => ⟨⟨some (.long x), h1, rfl, hk, by rw [ht]; exact hw1⟩, hS1.F ht⟩) hS1.2.2 hd.2
    | some (.ref x), hd =>
      obtain ⟨⟨ty, e1, e2⟩, -, hd⟩ := hd
      exact W.aret B.exec B.bytes (B.returns.trans e1) e2 (Or.inr ⟨_, rfl⟩) (fun t ht _ => ⟨⟨some (.ref x), h1, rfl, hk, by rw [ht]; exact hw1⟩, hS1.F ht⟩) hS1.2.2 hd
    | some .null, hd => obtain ⟨-, ⟨o, e⟩, -⟩ := hd; cases e
    | some (.float x), hd => obtain ⟨-, ⟨o, e⟩, -⟩ := hd; cases e
    | some (.double x), hd => obtain ⟨-, ⟨o, e⟩, -⟩ := hd; cases e
  · intro E h1 H1 locs1 cells1 slots1 arr1 pc1 st1 q ce hk hw1 hS1 hc hs hcell hvm hcl _ _
    exact vx_out (fun x hx => (htab x hx).elim) hlocks hcell hvm hcl (fun t ht _ => ⟨⟨h1, hk, by rw [ht]; exact hw1⟩, hS1.F ht⟩) hS1.2.2 hc hs
  · intro E h1 H1 locs1 cells1 slots1 arr1 pc1 st1 ht hE hk hw1 hS1 hc hs hsz hcat
    have hcat2 : ((st1.map (am_c G)).map fun v => v.category).sum ≤ 8 := by
      have e1 : (st1.map (am_c G)).map (fun v => v.category) = st1.map fun v => v.category := by simp [am_c_cat]
      rw [e1]; exact hcat
    exact am_throwW hX hw1 hS1 ht hE hk hsz hc hs hc hs hcat2 htab
end
