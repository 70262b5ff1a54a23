/-! a throw is caught: methods with handlers -/
/-- the search through rows comes to the handler at hpc, and may only warm the tables -/
def az_F (e : Env) (s0 : State) (f : JFrame) (a : Addr) (cell : Cell) (rows : List ExceptionTableEntry) (hpc : Nat) : Prop :=
  ∀ S : State, s0.WarmedH S.vm → S.heap[a]? = some cell → ∃ vm' : Vm, s0.WarmedH vm' ∧ ∀ (Q : Handler → Pre) (E : CtlPost) (d : Bool) (acts : List Action), wp (findHandler.go f a rows) Q E e d acts S ↔ Q (.found hpc) d acts (S.setVm vm')
theorem az_row {e : Env} {s0 : State} {f : JFrame} {a : Addr} {cell : Cell} {x : ExceptionTableEntry} {t : List ExceptionTableEntry} {c : ClassId} {hpc : Nat} (hx : covers x f.pc = true) (h0 : x.catchType ≠ 0) (hl : s0.vm.ClassLinks e.platform f.method.cls x.catchType c) (hob : ∀ k, cell.vm ≠ .statics k) (hk : ∃ k, s0.vm.classes[cell.cls]? = some k) (h1 : s0.vm.assignable cell.cls c = true → x.handlerPc = hpc) (h2 : s0.vm.assignable cell.cls c = false → az_F e s0 f a cell t hpc) : az_F e s0 f a cell (x :: t) hpc := by
  intro S hW hc
  obtain ⟨k1, hk1⟩ := hk
  obtain ⟨dk, _, _, kt, hd, _, _, _, _, hkt, _, hopen⟩ := hl.here
  have hW' := hW.noted hd hopen (State.rightAt_cls hl)
  obtain ⟨k2, hk2, -⟩ := hW'.alike.2.2 _ _ hk1
  obtain ⟨k3, hk3, -⟩ := hW'.alike.2.2 _ _ hkt
  obtain ⟨ra, rt⟩ := (resolveClass_links e.toSetting (hW.classLinks hl)).op (op := VmOp.resolveClass f.method.cls x.catchType) rfl
  have ea : (S.vm.noted f.method.cls x.catchType (.cls c)).assignable cell.cls c = s0.vm.assignable cell.cls c := by rw [hW'.alike.assignable]
  have hx2 : (decide (x.startPc ≤ f.pc) && decide (f.pc < x.endPc)) = true := hx
  cases hf : s0.vm.assignable cell.cls c with
  | true =>
    refine ⟨_, hW', fun Q E d acts => ?_⟩
    rw [← h1 hf]
    simp [findHandler.go, hx2, h0, ra, rt, hc, hob, hk2, hk3, ea, hf, VmOp.dirties, VmOp.acts]
  | false =>
    obtain ⟨vm2, hW2, q2⟩ := h2 hf (S.setVm (S.vm.noted f.method.cls x.catchType (.cls c))) hW' hc
    refine ⟨vm2, hW2, fun Q E d acts => Iff.trans ?_ (q2 Q E d acts)⟩
    simp [findHandler.go, hx2, h0, ra, rt, hc, hob, hk2, hk3, ea, hf, VmOp.dirties, VmOp.acts]
section
variable {p : Program} {l : Launch} {e : Env} {R : Room} {s : State} {m : MethodId} {args : Array Value} {below : List Frame} {meth : Method} {c : Code} {T : State} {locs : List Loc} {cells slots : Nat}
theorem az_catch (X : Stand p l e R s m args below meth c T locs cells slots) {q : Addr} {cell : Cell} {g : JFrame} {hpc : Nat} (hg : g.method = m) (hcell : T.heap[q]? = some cell) (hF : az_F e s g q cell c.exceptionTable.toList hpc) : ∃ vm' : Vm, Stand p l e R s m args below meth c (T.setVm vm') locs cells slots ∧ ∀ target, Steps p.tables e below ((T.setVm vm').setTop { g with pc := hpc, stack := [.ref q] }) target → Steps p.tables e below ((T.setTop g).pushFrame (.throwing q)) target := by
  subst hg
  obtain ⟨vm', hW', hq⟩ := hF ((T.setTop g).pushFrame (.throwing q)) X.warmed hcell
  refine ⟨vm', X.noted hW', fun target hrest => ?_⟩
  have h : At T g.method c below := X.here
  obtain ⟨hgo, hw⟩ := h.throwing q
  refine Steps.head hgo hw ?_
  have st : (stepThrowing e ((T.setTop g).pushFrame (.throwing q)) q (.java g :: T.frames.tail)).Is ((((T.setTop g).pushFrame (.throwing q)).setVm vm').setFrames (.java { g with pc := hpc, stack := [.ref q] } :: T.frames.tail)) [] := by
    simp only [stepThrowing, searchFrame, vmDo]
    generalize hr : Sem.go _ e false [] _ = res
    obtain ⟨as, rfl, ha⟩ := Sem.eq_ok_of hr (a := Handler.found hpc) (s' := ((T.setTop g).pushFrame (.throwing q)).setVm vm') (acts' := []) (by simp [W.findHandler_eq (s := (T.setTop g).pushFrame (.throwing q)) (f := g) (a := q) X.method' X.code, hq])
    exact ⟨rfl, ha⟩
  rw [stepThread_throwing (frames_entered h.top _), st.1]
  obtain ⟨g0, hg0⟩ := Option.isSome_iff_exists.mp h.top
  obtain ⟨r, hr⟩ := State.topJava?_eq_some.mp hg0
  have hr2 : (T.setVm vm').frames = .java g0 :: r := hr
  rw [State.setTop_of_frames _ hr2] at hrest
  have e1 : (((T.setTop g).pushFrame (.throwing q)).setVm vm').setFrames (.java { g with pc := hpc, stack := [.ref q] } :: T.frames.tail) = (T.setVm vm').setFrames (.java { g with pc := hpc, stack := [.ref q] } :: r) := by
    rw [hr, List.tail_cons, State.pushFrame, State.setTop_of_frames _ hr, State.setFrames_setFrames]
    show ((T.setVm vm').setFrames _).setFrames _ = _
    rw [State.setFrames_setFrames]
  rw [e1]
  exact hrest
end
/-- the rows of a method's table take what is thrown at pc to the handler at hpc -/
def am_rows (E : String) (hpc pc : Nat) : List (Nat × Nat × Nat × Nat) → Prop
  | [] => False
  | r :: t => (r.1 ≤ pc ∧ pc < r.2.1) ∧ r.2.2.2 ≠ 0 ∧ ∃ nm, Cond.classLink "SandCarsLaw" r.2.2.2 nm ∈ am_TB ∧ ((nm = E ∧ r.2.2.1 = hpc) ∨ (E = "java/lang/IllegalArgumentException" ∧ nm = "java/util/NoSuchElementException" ∧ am_rows E hpc pc t))
theorem az_rows {e : Env} {s : State} {args : Array Value} {f : JFrame} {q : Addr} {cell : Cell} {E : String} {hpc : Nat} (hpl : e.platform.magicAccessors = ({} : Platform).magicAccessors) (hts : ∀ w ∈ am_TB, w.before args s = true) (hown : s.vm.findClass "SandCarsLaw" = some f.method.cls) (hcl : s.vm.findClass E = some cell.cls) (hv : cell.vm = .none) (hN : va_Nc "java/lang/IllegalArgumentException" "java/util/NoSuchElementException" s) : ∀ (rows : List ExceptionTableEntry) (hh : List (Nat × Nat × Nat × Nat)), rows.map (fun h => (h.startPc, h.endPc, h.handlerPc, h.catchType)) = hh → am_rows E hpc f.pc hh → az_F e s f q cell rows hpc := by
  intro rows
  induction rows with
  | nil => intro hh em hr; subst em; exact hr.elim
  | cons x t ih =>
    intro hh em hr
    subst em
    obtain ⟨⟨c1, c2⟩, h0, nm, hl, hd⟩ := hr
    have c1 : x.startPc ≤ f.pc := c1
    have c2 : f.pc < x.endPc := c2
    obtain ⟨c, hc, hcl5⟩ := Cond.classLink_spec hown (hts _ hl) e.platform hpl
    refine az_row (by simp [covers, c1, c2]) h0 hcl5 (fun k hk => by rw [hv] at hk; cases hk) (Vm.classAt_of_findClass hcl) (fun ha => ?_) (fun ha => ?_)
    · rcases hd with ⟨-, e2⟩ | ⟨e1, e2, -⟩
      · exact e2
      · exfalso
        subst e1 e2
        obtain ⟨a, b, n1, n2, n3⟩ := hN
        have ea : a = cell.cls := Option.some.inj (n1.symm.trans hcl)
        have eb : b = c := Option.some.inj (n2.symm.trans hc)
        rw [ea, eb, ha] at n3
        cases n3
    · rcases hd with ⟨e1, -⟩ | ⟨-, -, h3⟩
      · exfalso
        subst e1
        have ec : c = cell.cls := Option.some.inj (hc.symm.trans hcl)
        rw [ec, Vm.assignable, Vm.assignableAux, beq_self_eq_true, Bool.true_or] at ha
        cases ha
      · exact ih _ rfl h3
def am_wsH (mi : Nat) (hh : List (Nat × Nat × Nat × Nat)) : List Cond := Cond.codeWith (am_y mi) (am_b mi) (am_l mi) (am_r mi) hh :: am_TB
/-- the contract of a method with handlers -/
def am_MH (l : Am_L) (d rc rs mi : Nat) (hh : List (Nat × Nat × Nat × Nat)) (as : List Value) (h : Am_H) (K : Am_R → Am_H → Prop) : Prop :=
  ∀ G : Am_G, vx_Met l.1 (am_y mi) (am_wsH mi hh) (am_rm d rc rs) (va_Pc (as.map (am_c G)) (fun U => am_K l G U ∧ am_W G h U.heap)) (am_Qc G K) (am_XC G K) rc rs (am_A G)
/-- inside: what is returned, what is thrown -/
def am_kh (K : Am_R → Am_H → Prop) (KX : String → Am_H → Prop) : Am_R → Am_H → Prop := fun r h' => match r with
  | .inl v => K (.inl v) h'
  | .inr E => KX E h'
theorem am_kh_l (K : Am_R → Am_H → Prop) (KX : String → Am_H → Prop) (v : Option Value) (h : Am_H) : am_kh K KX (.inl v) h = K (.inl v) h := rfl
theorem am_kh_r (K : Am_R → Am_H → Prop) (KX : String → Am_H → Prop) (E : String) (h : Am_H) : am_kh K KX (.inr E) h = KX E h := rfl
/-- where a handler begins: it keeps what was thrown, and goes on behind -/
def am_hat (mi hpc nx : Nat) : Prop := ∃ i, i < am_l mi ∧ ((decode (am_b mi) hpc = .ok (.astore i, 2) ∧ nx = hpc + 2) ∨ ∃ q : Fin 4, decode (am_b mi) hpc = .ok (.astore_n q, 1) ∧ (q : Nat) = i ∧ nx = hpc + 1)
section
variable {l : Am_L} {mi d rc rs : Nat} {h : Am_H} {K : Am_R → Am_H → Prop}
theorem am_enterH {as : List Value} {hh : List (Nat × Nat × Nat × Nat)} {KX : String → Am_H → Prop} (hp : plainName (am_y mi).cls = true) (hcls : (am_y mi).cls = "SandCarsLaw") (hn : (lg_sl as).length ≤ am_l mi) (hno : mi ∉ am_tmi) (hmi : 182 ≤ mi) (hKx : ∀ E h', ¬ K (.inr E) h')
    (hX : ∀ E h', KX E h' → ∃ hpc nx, am_rows E hpc (am_hpc mi) hh ∧ am_hat mi hpc nx ∧ am_J l mi d 0 0 nx (List.replicate (am_l mi) none) [] h' K)
    (k : am_J l mi d rc rs 0 (am_ent (am_l mi) as) [] h (am_kh K KX)) : am_MH l d rc rs mi hh as h K := by
  intro G
  refine vx_ofWH (cc := am_b mi) (maxL := am_l mi) (ret := am_r mi) (hh := hh) hp rfl ?_
  intro p e s m args below meth c s₁ B hml hv
  obtain ⟨rfl, hK, hw⟩ := hv
  have hts := atoms_spec (ws := am_wsH mi hh) B.pre
  have htb : ∀ w ∈ am_TB, w.before ((as.map (am_c G)).toArray) s = true := fun w hw => hts w (List.mem_cons_of_mem _ hw)
  have hlocks := B.notSynchronized
  have hown : s.vm.findClass "SandCarsLaw" = some m.cls := by rw [← hcls]; exact findClass_of_methodNamed B.named
  obtain ⟨m9, meth9, c9, hn9, h91, h92, -, -, h95, -⟩ := Cond.codeWith_spec (hts _ List.mem_cons_self)
  cases Option.some.inj (hn9.symm.trans B.named)
  cases Option.some.inj (h91.symm.trans B.method)
  cases Option.some.inj (h92.symm.trans (Stand.of_body B).code)
  have hl := lv_entry (as.map (am_c G)) (n := am_l mi) (by
    rw [am_sl_len]; exact hn)
  rw [lg_entry_eq]
  generalize (lg_sl (as.map (am_c G)) ++ List.replicate (am_l mi - (lg_sl (as.map (am_c G))).length) Slot.unset).toArray = arr at hl ⊢
  have hV : am_V G arr (am_l mi) (am_ent (am_l mi) as) := am_V.of hl fun i v hi => by
    have := am_ent_args (G := G) as (am_l mi) i v 0 hi
    rwa [Nat.zero_add] at this
  have hX0 : ∀ rc' rs' cells slots, cells + rc' ≤ rc → slots + rs' ≤ rs → am_X l mi d rc' rs' p (headSpec (am_wsH mi hh) (am_rm d rc rs)).room s m (as.map (am_c G)).toArray meth c G cells slots := fun rc' rs' cells slots h1 h2 =>
    ⟨⟨B.exec, B.bytes, B.returns, hml, findClass_of_methodNamed B.named, htb, hlocks, (name_of_methodNamed B.named B.method).1⟩, ⟨Nat.le_refl _, Nat.le_refl _⟩, ⟨h1, h2⟩, hK⟩
  have hret : ∀ (r : Option Value) (h1 : Am_H) (H1 : Heap) (locs1 : List Loc) (cells1 slots1 : Nat) (arr1 : Array Slot) (pc1 : Nat), K (.inl r) h1 → am_W G h1 H1 → va_S (am_A G) s.heap H1 locs1 → cells1 ≤ (headSpec (am_wsH mi hh) (am_rm d rc rs)).room.cells → slots1 ≤ (headSpec (am_wsH mi hh) (am_rm d rc rs)).room.slots →
      (match r with
        | none => am_r mi = none ∧ decode (am_b mi) pc1 = .ok (.return_, 1)
        | some (.int x) => (∃ ty, am_r mi = some ty ∧ narrow ty (.int x) = .int x) ∧ decode (am_b mi) pc1 = .ok (.ireturn, 1)
        | some (.long _) => am_r mi = some .long ∧ decode (am_b mi) pc1 = .ok (.lreturn, 1)
        | some _ => (∃ ty, am_r mi = some ty ∧ ((∃ n, ty = .object n) ∨ ∃ t, ty = .array t)) ∧ (∃ o, r = some (.ref o)) ∧ decode (am_b mi) pc1 = .ok (.areturn, 1)) →
      W p l.1 e (headSpec (am_wsH mi hh) (am_rm d rc rs)).room s m (as.map (am_c G)).toArray below meth c H1 locs1 cells1 slots1 (vx_MQ below (am_Qc G K) (am_XC G K) (as.map (am_c G)).toArray s rc rs (am_A G)) (F0 m pc1 arr1 (r.toList.map (am_c G))) := by
    intro r h1 H1 locs1 cells1 slots1 arr1 pc1 hk hw1 hS1 hc hs hd
    refine vx_ret (W.widen (k := rc) (n := rs) hc hs ?_)
    match r, hd with
    | none, hd => exact W.vret B.exec B.bytes (B.returns.trans hd.1) (fun t ht _ => ⟨⟨none, h1, rfl, hk, by rw [ht]; exact hw1⟩, hS1.F ht⟩) hS1.2.2 hd.2
    | some (.int x), hd =>
      obtain ⟨⟨ty, e1, e2⟩, hd⟩ := hd
      exact W.zret B.exec B.bytes (B.returns.trans e1) e2 (fun t ht _ => ⟨⟨some (.int x), h1, rfl, hk, by rw [ht]; exact hw1⟩, hS1.F ht⟩) hS1.2.2 hd
    | some (.long x), hd => exact W.lret B.exec B.bytes (B.returns.trans hd.1) (fun t ht _ => ⟨⟨some (.long x), h1, rfl, hk, by rw [ht]; exact hw1⟩, hS1.F ht⟩) hS1.2.2 hd.2
    | some (.ref x), hd =>
      obtain ⟨⟨ty, e1, e2⟩, -, hd⟩ := hd
      exact W.aret B.exec B.bytes (B.returns.trans e1) e2 (Or.inr ⟨_, rfl⟩) (fun t ht _ => ⟨⟨some (.ref x), h1, rfl, hk, by rw [ht]; exact hw1⟩, hS1.F ht⟩) hS1.2.2 hd
    | some .null, hd => obtain ⟨-, ⟨o, e⟩, -⟩ := hd; cases e
    | some (.float x), hd => obtain ⟨-, ⟨o, e⟩, -⟩ := hd; cases e
    | some (.double x), hd => obtain ⟨-, ⟨o, e⟩, -⟩ := hd; cases e
  have hthr : ∀ pc1, am_thr mi pc1 = "" := fun pc1 => am_thr_no hno pc1
  have hFK : am_F l mi p e (headSpec (am_wsH mi hh) (am_rm d rc rs)).room s m (as.map (am_c G)).toArray below meth c G K (vx_MQ below (am_Qc G K) (am_XC G K) (as.map (am_c G)).toArray s rc rs (am_A G)) := by
    refine ⟨hret, fun E h1 H1 locs1 cells1 slots1 arr1 pc1 st1 q ce hk => absurd hk (hKx E h1), fun E h1 H1 locs1 cells1 slots1 arr1 pc1 st1 ht hE => ?_⟩
    rw [hthr] at ht
    exact absurd ht.symm hE
  refine k p e _ s m _ below meth c G s.heap [] 0 0 _ arr (hX0 rc rs 0 0 (by omega) (by omega)) hw va_S.rf hV ⟨fun r h1 H1 locs1 cells1 slots1 arr1 pc1 hk => hret r h1 H1 locs1 cells1 slots1 arr1 pc1 hk, ?_, fun E h1 H1 locs1 cells1 slots1 arr1 pc1 st1 ht hE => ?_⟩
  · intro E h1 H1 locs1 cells1 slots1 arr1 pc1 st1 q ce hk hw1 hS1 hc hs hcell hvm hcl hlv hhs
    obtain ⟨hpc, nx, hrows, ⟨i, hi, hat⟩, hJ⟩ := hX E h1 hk
    have hpc1 : pc1 = am_hpc mi := hhs.resolve_left (by omega)
    subst hpc1
    intro T hT XS
    have hpl : e.platform.magicAccessors = ({} : Platform).magicAccessors := by rw [XS.admits.platform]
    obtain ⟨vm', X', st⟩ := az_catch XS (q := q) (cell := ce) (g := F0 m (am_hpc mi) arr1 st1) (hpc := hpc) rfl (by rw [hT]; exact hcell) (az_rows (f := F0 m (am_hpc mi) arr1 st1) hpl htb hown hcl hvm hK.2.2.1.2.2.2.2.2.2.2.1 _ hh h95 hrows)
    have hX2 := hX0 0 0 cells1 slots1 hc hs
    have hWh : W p l.1 e (headSpec (am_wsH mi hh) (am_rm d rc rs)).room s m (as.map (am_c G)).toArray below meth c H1 locs1 cells1 slots1 (vx_MQ below (am_Qc G K) (am_XC G K) (as.map (am_c G)).toArray s rc rs (am_A G)) (F0 m hpc arr1 [.ref q]) := by
      rcases hat with ⟨hd, rfl⟩ | ⟨qq, hd, hqi, rfl⟩
      · exact lv_astore B.exec B.bytes hd hlv hi rfl (fun arr2 hl2 => hJ p e _ s m _ below meth c G H1 locs1 cells1 slots1 _ arr2 hX2 hw1 hS1 (am_V.of hl2 (fun i v hv => by rw [am_get_rep] at hv; cases hv)) hFK)
      · exact lv_astore_n B.exec B.bytes hd hqi hlv hi rfl (fun arr2 hl2 => hJ p e _ s m _ below meth c G H1 locs1 cells1 slots1 _ arr2 hX2 hw1 hS1 (am_V.of hl2 (fun i v hv => by rw [am_get_rep] at hv; cases hv)) hFK)
    obtain ⟨t, a1, b1⟩ := hWh (T.setVm vm') hT X'
    exact ⟨t, st t a1, b1⟩
  · rw [hthr] at ht
    exact absurd ht.symm hE
end
theorem am_MetH {l : Am_L} {d rc rs mi : Nat} {hh : List (Nat × Nat × Nat × Nat)} {as : List Value} {h : Am_H} {F : Option Value → Am_H → Prop} (hM : am_MH l d rc rs mi hh as h (fun r h' => am_ok r (fun v => F v h'))) (G : Am_G) : Met l.1 (am_y mi) (am_wsH mi hh) (am_rm d rc rs) (va_Pc (as.map (am_c G)) (fun U => am_K l G U ∧ am_W G h U.heap)) (am_Qc G (fun r h' => am_ok r (fun v => F v h'))) rc rs (am_A G) := by
  intro p e ha hc hk s m args below hf happ hP hK
  obtain ⟨k, o, h1, h2, h3, hQ⟩ := hM G p e ha hc hk s m args below hf happ hP hK
  refine ⟨k, o, h1, h2, h3, ?_⟩
  rcases hQ with hQ | ⟨q, -, E, ce, L, ⟨⟨h9, hx, -⟩, -⟩, -⟩
  · exact hQ
  · exact hx.elim
section
variable {l : Am_L} {mi d rc rs rc1 rs1 pc cal index n : Nat} {ls : List (Option Value)} {st as : List Value} {h : Am_H} {K : Am_R → Am_H → Prop}
theorem jr_invSH {hh : List (Nat × Nat × Nat × Nat)} (hd : decode (am_b mi) pc = .ok (.invokestatic index, 3)) (hcode : Cond.codeWith (am_y cal) (am_b cal) (am_l cal) (am_r cal) hh ∈ am_TB) (hini : Cond.initialized (am_y cal).cls ∈ am_TB) (hlm : Cond.methodLink (am_y mi).cls index (am_y cal) ∈ am_TB) (hw1 : Cond.static (am_y cal) ∈ am_TB) (hy : (am_y cal).cls ≠ "java/lang/invoke/MethodHandle" ∧ (am_y cal).cls ≠ "java/lang/invoke/VarHandle") (hdesc : (parseMethodDescriptor (am_y cal).desc).map (fun d => d.parameters.length) = some n) (hl20 : am_l cal ≤ 20) (hn : as.length = n) (hst : (st.map fun v => v.category).sum ≤ 8)
    (hM : am_MH l d rc1 rs1 cal hh as h (fun r h' => am_ok r (fun v => am_J l mi (d + 1) rc rs (pc + 3) ls (am_push v st) h' K))) : am_J l mi (d + 1) (rc1 + rc) (rs1 + rs) pc ls (as.reverse ++ st) h K := by
  intro p e R s m args below meth c G H locs cells slots Q arr X hw hS hV hF
  have hts := X.1.2.2.2.2.2.1
  have hfix : CallFix p m c (am_b mi) (am_l mi) s args am_TB (am_y mi).cls := ⟨X.1.1, X.1.2.1, X.1.2.2.2.1, X.1.2.2.2.2.1, hts⟩
  have hpre : PreS s H (va_Pc (as.map (am_c G)) (fun U => am_K l G U ∧ am_W G h U.heap)) (as.map (am_c G)) :=
    ⟨am_blind, fun U hU hW => ⟨rfl, X.2.2.2.call hS hU hW, by rw [hU]; exact hw⟩⟩
  have hstk : (as.reverse ++ st).map (am_c G) = (as.map (am_c G)).reverse ++ st.map (am_c G) := by simp
  have hcat : ((st.map (am_c G)).map fun v => v.category).sum ≤ 8 := by
    have e1 : (st.map (am_c G)).map (fun v => v.category) = st.map fun v => v.category := by simp [am_c_cat]
    rw [e1]; exact hst
  have hf : cells + rc1 ≤ R.cells ∧ slots + rs1 ≤ R.slots := by have := X.2.2.1; omega
  have hX : am_X l mi (d + 1) rc rs p R s m args meth c G (cells + rc1) (slots + rs1) := ⟨X.1, X.2.1, by have := X.2.2.1; omega, X.2.2.2⟩
  have hG : GoodIn am_TB (am_wsH cal hh) := by
    intro w hw
    have hm2 : w ∈ am_TB := by
      rcases List.mem_cons.mp hw with rfl | h
      · exact hcode
      · exact h
    exact ⟨hm2, good_of_word (List.mem_filter.mp hm2).2⟩
  have hR : (am_rm d rc1 rs1).frames + 1 ≤ R.frames ∧ 8 + (am_l cal + 11) + (am_rm d rc1 rs1).locals ≤ R.locals := by
    have h1 := X.2.1
    constructor
    · show d + 8 + 1 ≤ R.frames; omega
    · show 8 + (am_l cal + 11) + (40 * d + 200) ≤ R.locals; omega
  have cw : vx_CSW R s args (am_y mi).cls index (am_y cal) (am_b cal) (am_l cal) (am_r cal) hh (am_wsH cal hh) (am_rm d rc1 rs1) rc1 rs1 n := by
    refine ⟨⟨rfl, rfl, hR.1, hR.2, pay_in hts hG, List.mem_cons_self⟩, hts _ hcode, hts _ hini, hy, fun sig h => ?_, hts _ hlm, hts _ hw1⟩
    rw [h] at hdesc
    exact (Option.some.inj hdesc).symm
  rw [hstk]
  refine am_goes (vx_runSW (As := as.map (am_c G)) (rest := st.map (am_c G)) hfix (am_MetH hM G) cw hpre rfl (by simpa using hn) hV.1 rfl (lv_room hcat) hd hf) hS fun r h1 H1 locs1 hk hw1 hS1 => ?_
  rw [← am_push_map]
  exact hk p e R s m args below meth c G H1 locs1 _ _ Q arr hX hw1 hS1 hV hF
/-- less room is enough -/
theorem am_J.mono {rc' rs' : Nat} (k : am_J l mi d rc rs pc ls st h K) (h1 : rc ≤ rc') (h2 : rs ≤ rs') : am_J l mi d rc' rs' pc ls st h K := by
  intro p e R s m args below meth c G H locs cells slots Q arr X hw hS hV hF
  exact k p e R s m args below meth c G H locs cells slots Q arr ⟨X.1, X.2.1, ⟨by have := X.2.2.1; omega, by have := X.2.2.1; omega⟩, X.2.2.2⟩ hw hS hV hF
end
