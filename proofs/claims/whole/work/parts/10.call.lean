/-! ends, starts, calls -/
def am_rm (d rc rs : Nat) : Room := { frames := d + 8, cells := rc, slots := rs, locals := 40 * d + 200 }
def am_ws (mi : Nat) : List Cond := Cond.code (am_y mi) (am_b mi) (am_l mi) (am_r mi) :: am_TB
def am_Qc (G : Am_G) (K : Am_R → Am_H → Prop) : Array Value → State → Outcome → State → Prop := fun _ st oc t => (∃ (r : Option Value) (h : Am_H), oc = .returned (r.map (am_c G)) ∧ K (.inl r) h ∧ am_W G h t.heap) ∧ va_F (am_A G) st t
def am_XC (G : Am_G) (K : Am_R → Am_H → Prop) : String → State → State → Prop := fun E st t => (∃ h : Am_H, K (.inr E) h ∧ am_W G h t.heap) ∧ va_F (am_A G) st t
/-- a method's contract -/
def am_M (l : Am_L) (d rc rs mi : Nat) (as : List Value) (h : Am_H) (K : Am_R → Am_H → Prop) : Prop :=
  ∀ G : Am_G, vx_Met l.1 (am_y mi) (am_ws mi) (am_rm d rc rs) (va_Pc (as.map (am_c G)) (fun U => am_K l G U ∧ am_W G h U.heap)) (am_Qc G K) (am_XC G K) rc rs (am_A G)
def am_ent : Nat → List Value → List (Option Value)
  | n, [] => List.replicate n none
  | n, v :: vs => if v.category = 2 then some v :: none :: am_ent (n - 2) vs else some v :: am_ent (n - 1) vs
theorem am_ent_nil (n : Nat) : am_ent n [] = List.replicate n none := rfl
theorem am_ent_i (n : Nat) (x : Int32) (vs : List Value) : am_ent n (.int x :: vs) = some (.int x) :: am_ent (n - 1) vs := rfl
theorem am_ent_r (n : Nat) (x : Nat) (vs : List Value) : am_ent n (.ref x :: vs) = some (.ref x) :: am_ent (n - 1) vs := rfl
theorem am_ent_f (n : Nat) (x : UInt32) (vs : List Value) : am_ent n (.float x :: vs) = some (.float x) :: am_ent (n - 1) vs := rfl
theorem am_ent_n (n : Nat) (vs : List Value) : am_ent n (.null :: vs) = some .null :: am_ent (n - 1) vs := rfl
theorem am_ent_l (n : Nat) (x : Int64) (vs : List Value) : am_ent n (.long x :: vs) = some (.long x) :: none :: am_ent (n - 2) vs := rfl
theorem am_get_rep (n i : Nat) : am_get (List.replicate n none) i = none := by
  induction n generalizing i with
  | zero => rfl
  | succ n ih => cases i with
    | zero => rfl
    | succ i => exact ih i
theorem am_ent_args {G : Am_G} (as : List Value) : ∀ (n i : Nat) (v : Value) (off : Nat), am_get (am_ent n as) i = some v → (off + i, am_c G v) ∈ lv_args off (as.map (am_c G)) := by
  induction as with
  | nil => intro n i v off h; rw [am_ent_nil, am_get_rep] at h; cases h
  | cons w ws ih =>
    intro n i v off h
    simp only [List.map_cons, lv_args, am_c_cat]
    unfold am_ent at h
    by_cases hc : w.category = 2
    · rw [if_pos hc] at h ⊢
      match i, h with
      | 0, h => cases h; exact List.mem_cons_self
      | 1, h => cases h
      | i + 2, h =>
        have h2 := ih (n - 2) i v (off + 2) h
        rw [show off + 2 + i = off + (i + 2) by omega] at h2
        exact List.mem_cons_of_mem _ h2
    · rw [if_neg hc] at h ⊢
      match i, h with
      | 0, h => cases h; exact List.mem_cons_self
      | i + 1, h =>
        have h2 := ih (n - 1) i v (off + 1) h
        rw [show off + 1 + i = off + (i + 1) by omega] at h2
        exact List.mem_cons_of_mem _ h2
theorem am_sl_len (G : Am_G) (as : List Value) : (lg_sl (as.map (am_c G))).length = (lg_sl as).length := by
  induction as with
  | nil => rfl
  | cons v vs ih =>
    simp only [lg_sl, List.map_cons, List.flatMap_cons, List.length_append] at ih ⊢
    rw [ih]
    congr 1
    cases v <;> rfl
theorem am_thr_no {mi : Nat} (h : mi ∉ am_tmi) (pc : Nat) : am_thr mi pc = "" := by
  unfold am_thr
  simp only [am_tmi, List.mem_cons, List.not_mem_nil, or_false, not_or] at h
  rw [if_neg (by simp only [List.mem_cons, Prod.mk.injEq, List.not_mem_nil, or_false]; omega), if_neg (by simp only [List.mem_cons, Prod.mk.injEq, List.not_mem_nil, or_false]; omega)]
section
variable {l : Am_L} {mi d rc rs pc : Nat} {ls : List (Option Value)} {st : List Value} {h : Am_H} {K : Am_R → Am_H → Prop}
theorem jr_ireturn {x : Int32} (hd : decode (am_b mi) pc = .ok (.ireturn, 1)) (hr : ∃ ty, am_r mi = some ty ∧ narrow ty (.int x) = .int x) (k : K (.inl (some (.int x))) h) : am_J l mi d rc rs pc ls [.int x] h K := by
  intro p e R s m args below meth c G H locs cells slots Q arr X hw hS hV hF
  exact hF.1 (some (.int x)) h H locs cells slots arr pc k hw hS (by have := X.2.2.1; omega) (by have := X.2.2.1; omega) ⟨hr, hd⟩
theorem jr_lreturn {x : Int64} (hd : decode (am_b mi) pc = .ok (.lreturn, 1)) (hr : am_r mi = some .long) (k : K (.inl (some (.long x))) h) : am_J l mi d rc rs pc ls [.long x] h K := by
  intro p e R s m args below meth c G H locs cells slots Q arr X hw hS hV hF
  exact hF.1 (some (.long x)) h H locs cells slots arr pc k hw hS (by have := X.2.2.1; omega) (by have := X.2.2.1; omega) ⟨hr, hd⟩
theorem jr_areturn {o : Nat} (hd : decode (am_b mi) pc = .ok (.areturn, 1)) (hr : ∃ ty, am_r mi = some ty ∧ ((∃ n, ty = .object n) ∨ ∃ t, ty = .array t)) (k : K (.inl (some (.ref o))) h) : am_J l mi d rc rs pc ls [.ref o] h K := by
  intro p e R s m args below meth c G H locs cells slots Q arr X hw hS hV hF
  exact hF.1 (some (.ref o)) h H locs cells slots arr pc k hw hS (by have := X.2.2.1; omega) (by have := X.2.2.1; omega) ⟨hr, ⟨o, rfl⟩, hd⟩
theorem jr_return (hd : decode (am_b mi) pc = .ok (.return_, 1)) (hr : am_r mi = none) (k : K (.inl none) h) : am_J l mi d rc rs pc ls [] h K := by
  intro p e R s m args below meth c G H locs cells slots Q arr X hw hS hV hF
  exact hF.1 none h H locs cells slots arr pc k hw hS (by have := X.2.2.1; omega) (by have := X.2.2.1; omega) ⟨hr, hd⟩
theorem jr_throw {E : String} (ht : am_thr mi pc = E) (hE : E ≠ "") (hst : (st.map fun v => v.category).sum ≤ 8) (k : ∀ n, am_N h ≤ n → K (.inr E) (am_skip h n)) : am_J l mi d (rc + 1) (rs + 6) pc ls st h K := by
  intro p e R s m args below meth c G H locs cells slots Q arr X hw hS hV hF
  exact hF.2.2 E h H locs cells slots arr pc st ht hE k hw hS (by have := X.2.2.1; omega) (by have := X.2.2.1; omega) hV.1 hst
theorem am_enter {as : List Value} (hp : plainName (am_y mi).cls = true) (hn : (lg_sl as).length ≤ am_l mi) (hno : mi ∉ am_tmi) (k : am_J l mi d rc rs 0 (am_ent (am_l mi) as) [] h K) : am_M l d rc rs mi as h K := by
  intro G
  refine vx_ofW (cc := am_b mi) (maxL := am_l mi) (ret := am_r mi) hp rfl ?_
  intro p e s m args below meth c s₁ B hml htab hv
  obtain ⟨rfl, hK, hw⟩ := hv
  have hts := atoms_spec (ws := am_ws mi) B.pre
  have hlocks := B.notSynchronized
  have hl := lv_entry (as.map (am_c G)) (n := am_l mi) (by
    rw [am_sl_len]; exact hn)
  rw [lg_entry_eq]
  generalize (lg_sl (as.map (am_c G)) ++ List.replicate (am_l mi - (lg_sl (as.map (am_c G))).length) Slot.unset).toArray = arr at hl ⊢
  have hV : am_V G arr (am_l mi) (am_ent (am_l mi) as) := am_V.of hl fun i v hi => by
    have := am_ent_args (G := G) as (am_l mi) i v 0 hi
    rwa [Nat.zero_add] at this
  have hX : am_X l mi d rc rs p (headSpec (am_ws mi) (am_rm d rc rs)).room s m (as.map (am_c G)).toArray meth c G 0 0 :=
    ⟨⟨B.exec, B.bytes, B.returns, hml, findClass_of_methodNamed B.named, fun w hw => hts w (List.mem_cons_of_mem _ hw), hlocks, (name_of_methodNamed B.named B.method).1⟩, ⟨Nat.le_refl _, Nat.le_refl _⟩, ⟨by show 0 + rc ≤ rc; omega, by show 0 + rs ≤ rs; omega⟩, hK⟩
  refine k p e _ s m _ below meth c G s.heap [] 0 0 _ arr hX hw va_S.rf hV ⟨?_, ?_, ?_⟩
  · intro r h1 H1 locs1 cells1 slots1 arr1 pc1 hk hw1 hS1 hc hs hd
    refine vx_ret (W.widen (k := rc) (n := rs) hc hs ?_)
    match r, hd with
    | none, hd => exact W.vret B.exec B.bytes (B.returns.trans hd.1) (fun t ht _ => ⟨⟨none, h1, rfl, hk, by rw [ht]; exact hw1⟩, hS1.F ht⟩) hS1.2.2 hd.2
    | some (.int x), hd =>
      obtain ⟨⟨ty, e1, e2⟩, hd⟩ := hd
      exact W.zret B.exec B.bytes (B.returns.trans e1) e2 (fun t ht _ => ⟨⟨some (.int x), h1, rfl, hk, by rw [ht]; exact hw1⟩, hS1.F ht⟩) hS1.2.2 hd
    | some (.long x), hd => exact W.lret B.exec B.bytes (B.returns.trans hd.1) (fun t ht _ => ⟨⟨some (.long x), h1, rfl, hk, by rw [ht]; exact hw1⟩, hS1.F ht⟩) hS1.2.2 hd.2
    | some (.ref x), hd =>
      obtain ⟨⟨ty, e1, e2⟩, -, hd⟩ := hd
      exact W.aret B.exec B.bytes (B.returns.trans e1) e2 (Or.inr ⟨_, rfl⟩) (fun t ht _ => ⟨⟨some (.ref x), h1, rfl, hk, by rw [ht]; exact hw1⟩, hS1.F ht⟩) hS1.2.2 hd
    | some .null, hd => obtain ⟨-, ⟨o, e⟩, -⟩ := hd; cases e
    | some (.float x), hd => obtain ⟨-, ⟨o, e⟩, -⟩ := hd; cases e
    | some (.double x), hd => obtain ⟨-, ⟨o, e⟩, -⟩ := hd; cases e
  · intro E h1 H1 locs1 cells1 slots1 arr1 pc1 st1 q ce hk hw1 hS1 hc hs hcell hvm hcl _ _
    exact vx_out (fun x hx => (htab x hx).elim) hlocks hcell hvm hcl (fun t ht _ => ⟨⟨h1, hk, by rw [ht]; exact hw1⟩, hS1.F ht⟩) hS1.2.2 hc hs
  · intro E h1 H1 locs1 cells1 slots1 arr1 pc1 st1 ht hE
    rw [am_thr_no hno] at ht
    exact absurd ht.symm hE
end
