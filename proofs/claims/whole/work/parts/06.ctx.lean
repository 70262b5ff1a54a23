/-! the context of a frame of the abstract machine, and its judgement am_J -/
abbrev Am_R : Type := Option Value ⊕ String
/-- what stays through the whole run: the launch, the script's length and its ints -/
abbrev Am_L : Type := Launch × Nat × (Nat → Int32)
/-- a text of the claim: its object and its bytes -/
def am_T (G : Am_G) (i : Nat) (U : State) (H : Heap) : Prop := va_O "java/lang/String" (G.2.2.2.2 i) (am_A G) U H ∧ va_OF "java/lang/String" "coder" "B" (.int 0) (G.2.2.2.2 i) (am_A G) U H ∧ va_OF "java/lang/String" "value" "[B" (.ref (G.2.2.2.2 (i + 1000))) (G.2.2.2.2 i) (am_A G) U H ∧ va_T .byte (G.2.2.2.2 (i + 1000)) (am_byt.getD i []).length (fun j => .int ((am_byt.getD i []).getD j 0)) (am_A G) U H
def am_E (l : Am_L) (G : Am_G) (U : State) (H : Heap) : Prop := l.1.stackTraces = false ∧ vx_Zq Bundle.tN "UNASSIGNED_STACK" Bundle.steD (am_A G) U H ∧ vx_Zq Bundle.tN "SUPPRESSED_SENTINEL" Bundle.listD (am_A G) U H ∧ (∀ i, i < am_nT → am_T G i U H) ∧ va_Z "java/lang/String" "COMPACT_STRINGS" "Z" (.int 1) (am_A G) U H ∧ (∃ fv : Value, (fv = .null ∨ fv = .ref (G.2.2.2.2 9998)) ∧ va_Z "jdk/internal/util/Preconditions" "SIOOBE_FORMATTER" "Ljava/util/function/BiFunction;" fv (am_A G) U H) ∧ (va_X (G.2.2.2.2 9999) l.2.1 l.2.2 U H ∧ ¬ am_A G (G.2.2.2.2 9999)) ∧ va_Nc "java/lang/IllegalArgumentException" "java/util/NoSuchElementException" U ∧ va_AO "java/lang/String" U
theorem va_X_lt {b L : Nat} {xs : Nat → Int32} {U : State} {H : Heap} (h : va_X b L xs U H) : b < H.size := by
  obtain ⟨scr, h1, -⟩ := h
  exact (Array.getElem?_eq_some_iff.mp h1).1
abbrev am_tys (G : Am_G) : List (ClassId × FieldType) := [(G.2.2.2.1 2, .int), (G.2.2.2.1 3, .byte), (G.2.2.2.1 4, .long), (G.2.2.2.1 5, .object "java/lang/String")]
def am_K (l : Am_L) (G : Am_G) (U : State) : Prop := va_K (G.2.1, G.2.2.1) vwCl (am_tys G) U ∧ G.1 ≤ U.heap.size ∧ am_E l G U U.heap ∧ (∀ (i : Nat) (q : String × Nat × String), am_strs[i]? = some q → vk_R q.1 q.2.1 q.2.2 (G.2.2.2.2 i) U) ∧ ∀ w ∈ am_NB, va_Nw w U
theorem am_E.moved {l : Am_L} {G : Am_G} {u U : State} {H : Heap} (hvm : u.vm.Alike U.vm) (h : am_E l G u H) : am_E l G U H :=
  ⟨h.1, h.2.1.moved hvm, h.2.2.1.moved hvm, fun i hi => ⟨(h.2.2.2.1 i hi).1.moved hvm, (h.2.2.2.1 i hi).2.1.moved hvm, (h.2.2.2.1 i hi).2.2.1.moved hvm, (h.2.2.2.1 i hi).2.2.2.moved hvm⟩, h.2.2.2.2.1.moved hvm, ⟨_, h.2.2.2.2.2.1.choose_spec.1, h.2.2.2.2.2.1.choose_spec.2.moved hvm⟩, ⟨h.2.2.2.2.2.2.1.1.moved hvm, h.2.2.2.2.2.2.1.2⟩, va_Nc.moved hvm h.2.2.2.2.2.2.2.1, h.2.2.2.2.2.2.2.2.moved hvm⟩
theorem am_E.kept {l : Am_L} {G : Am_G} {U : State} {H H1 : Heap} (h : am_E l G U H) (hq : ∀ a : Nat, a < H.size → ¬ am_A G a → H1[a]? = H[a]?) : am_E l G U H1 :=
  ⟨h.1, h.2.1.kept hq, h.2.2.1.kept hq, fun i hi => ⟨(h.2.2.2.1 i hi).1.kept hq, (h.2.2.2.1 i hi).2.1.kept hq, (h.2.2.2.1 i hi).2.2.1.kept hq, (h.2.2.2.1 i hi).2.2.2.kept hq⟩, h.2.2.2.2.1.kept hq, ⟨_, h.2.2.2.2.2.1.choose_spec.1, h.2.2.2.2.2.1.choose_spec.2.kept hq⟩, ⟨h.2.2.2.2.2.2.1.1.kept (hq _ (va_X_lt h.2.2.2.2.2.2.1.1) h.2.2.2.2.2.2.1.2), h.2.2.2.2.2.2.1.2⟩, h.2.2.2.2.2.2.2⟩
theorem am_Nw_warm {w : Cond} (hn : am_isN w = true) {s U : State} (hW : s.WarmedH U.vm) (h : va_Nw w s) : va_Nw w U := by
  cases w <;> first | exact va_Nw.warmF hW h | exact va_Nw.warmM hW h | exact va_Nw.warmC hW h | exact va_Nw.warmD hW h | (cases hn; done)
theorem am_isN_tab {w : Cond} (hn : am_isN w = true) : w.onTables = true := by
  cases w <;> first | (cases hn; done) | rfl
/-- a callee's start -/
theorem am_K.call {l : Am_L} {G : Am_G} {s U : State} {H : Heap} {locs : List Loc} (h : am_K l G s) (hS : va_S (am_A G) s.heap H locs) (hU : U.heap = H) (hW : s.WarmedH U.vm) : am_K l G U := by
  refine ⟨va_K.moved hW.alike h.1, by rw [hU]; exact Nat.le_trans h.2.1 hS.1, ?_, fun i q hi => (h.2.2.2.1 i q hi).warm hW, fun w hw => am_Nw_warm (List.mem_filter.mp hw).2 hW (h.2.2.2.2 w hw)⟩
  rw [hU]
  exact (h.2.2.1.moved hW.alike).kept hS.2.1
theorem am_K.blind {l : Am_L} {G : Am_G} {U : State} {g : JFrame} {mk : MethodId} {a : Array Value} (h : am_K l G U) : am_K l G (U.calling g mk a) :=
  ⟨va_K.moved (u := U) (U := U.calling g mk a) (Vm.Alike.refl U.vm) h.1, h.2.1, am_E.moved (u := U) (U := U.calling g mk a) (Vm.Alike.refl U.vm) h.2.2.1, fun i q hi => vk_R.same (u := U) (U := U.calling g mk a) rfl (h.2.2.2.1 i q hi), fun w hw => va_Nw.same (u := U) (U := U.calling g mk a) (am_isN_tab (List.mem_filter.mp hw).2) rfl (h.2.2.2.2 w hw)⟩
/-- the locals -/
def am_get (ls : List (Option Value)) (i : Nat) : Option Value := match ls, i with
  | [], _ => none
  | x :: _, 0 => x
  | _ :: t, i + 1 => am_get t i
theorem am_get_0 (x : Option Value) (t : List (Option Value)) : am_get (x :: t) 0 = x := rfl
theorem am_get_s (x : Option Value) (t : List (Option Value)) (i : Nat) : am_get (x :: t) (i + 1) = am_get t i := rfl
def am_set (ls : List (Option Value)) (i : Nat) (v : Option Value) : List (Option Value) := match ls, i with
  | [], _ => []
  | _ :: t, 0 => v :: t
  | x :: t, i + 1 => x :: am_set t i v
theorem am_set_0 (x v : Option Value) (t : List (Option Value)) : am_set (x :: t) 0 v = v :: t := rfl
theorem am_set_s (x v : Option Value) (t : List (Option Value)) (i : Nat) : am_set (x :: t) (i + 1) v = x :: am_set t i v := rfl
theorem am_set_len (ls : List (Option Value)) (i : Nat) (v : Option Value) : (am_set ls i v).length = ls.length := by
  induction ls generalizing i with
  | nil => rfl
  | cons x t ih => cases i with
    | zero => rfl
    | succ i => simp only [am_set_s, List.length_cons, ih]
theorem am_get_set {ls : List (Option Value)} {i j : Nat} {v : Option Value} {w : Value} (h : am_get (am_set ls i v) j = some w) : (j = i ∧ v = some w) ∨ (j ≠ i ∧ am_get ls j = some w) := by
  induction ls generalizing i j with
  | nil => simp [am_set, am_get] at h
  | cons x t ih =>
    cases i with
    | zero =>
      cases j with
      | zero => exact Or.inl ⟨rfl, h⟩
      | succ j => exact Or.inr ⟨by omega, h⟩
    | succ i =>
      cases j with
      | zero => exact Or.inr ⟨by omega, h⟩
      | succ j =>
        rcases ih (i := i) (j := j) h with ⟨a, b⟩ | ⟨a, b⟩
        · exact Or.inl ⟨by omega, b⟩
        · exact Or.inr ⟨by omega, b⟩
theorem am_get_lt {ls : List (Option Value)} {i : Nat} {w : Value} (h : am_get ls i = some w) : i < ls.length := by
  induction ls generalizing i with
  | nil => simp [am_get] at h
  | cons x t ih => cases i with
    | zero => simp
    | succ i => have := ih (i := i) h; simp; omega
def am_asc (G : Am_G) (ls : List (Option Value)) : List (Nat × Value) := (List.range ls.length).filterMap fun i => (am_get ls i).map fun v => (i, am_c G v)
theorem am_asc_mem {G : Am_G} {ls : List (Option Value)} {i : Nat} {v : Value} (h : am_get ls i = some v) : (i, am_c G v) ∈ am_asc G ls := List.mem_filterMap.mpr ⟨i, List.mem_range.mpr (am_get_lt h), by rw [h]; rfl⟩
def am_V (G : Am_G) (arr : Array Slot) (n : Nat) (ls : List (Option Value)) : Prop := lv_has arr n (am_asc G ls)
theorem am_V.at {G : Am_G} {arr : Array Slot} {n : Nat} {ls : List (Option Value)} (h : am_V G arr n ls) {i : Nat} {v : Value} (hv : am_get ls i = some v) : arr[i]? = some (.val (am_c G v)) := h.2.2 _ (am_asc_mem hv)
/-- a list of the locals is held whose values are among those that are held -/
theorem am_V.of {G : Am_G} {arr : Array Slot} {n : Nat} {lv : List (Nat × Value)} {ls : List (Option Value)} (h : lv_has arr n lv) (hs : ∀ i v, am_get ls i = some v → (i, am_c G v) ∈ lv) : am_V G arr n ls := by
  refine ⟨h.1, h.2.1, fun q hq => ?_⟩
  obtain ⟨i, -, hi⟩ := List.mem_filterMap.mp hq
  cases hg : am_get ls i with
  | none => rw [hg] at hi; cases hi
  | some v => rw [hg] at hi; cases hi; exact h.2.2 _ (hs i v hg)
/-- is no long -/
def am_nl (v : Option Value) : Prop := match v with
  | some (.long _) => False
  | some (.double _) => False
  | _ => True
theorem am_nl_cat {v : Value} (h : am_nl (some v)) : v.category = 1 := by cases v <;> first | rfl | exact h.elim
/-- what stays the same in a frame -/
def am_X (l : Am_L) (mi d rc rs : Nat) (p : Program) (R : Room) (s : State) (m : MethodId) (args : Array Value) (meth : Method) (c : Code) (G : Am_G) (cells slots : Nat) : Prop :=
  (p.tables.exec = Jvm.exec ∧ c.code = am_b mi ∧ meth.sig.returnType = am_r mi ∧ c.maxLocals = am_l mi ∧ s.vm.findClass (am_y mi).cls = some m.cls ∧ (∀ w ∈ am_TB, w.before args s = true) ∧ meth.locks = false ∧ meth.name = (am_y mi).name) ∧ (d + 8 ≤ R.frames ∧ 40 * d + 200 ≤ R.locals) ∧ (cells + rc ≤ R.cells ∧ slots + rs ≤ R.slots) ∧ am_K l G s
/-- where a method throws by itself, and what -/
def am_thr (mi pc : Nat) : String := if (mi, pc) ∈ [(88, 15), (93, 11), (94, 4), (97, 10), (101, 27)] then "java/lang/IllegalArgumentException" else if (mi, pc) ∈ [(89, 205), (90, 162), (91, 15), (95, 9), (98, 15)] then "java/util/NoSuchElementException" else ""
/-- the methods that throw by themselves -/
def am_tmi : List Nat := [88, 89, 90, 91, 93, 94, 95, 97, 98, 101]
/-- the place of the one call of a method with handlers -/
def am_hpc (mi : Nat) : Nat := if mi = 184 ∨ mi = 185 ∨ mi = 191 then 5 else if mi = 193 then 7 else 4
/-- where a throw may come out of -/
def am_hs (mi pc : Nat) : Prop := mi < 182 ∨ pc = am_hpc mi
/-- what a frame owes at its end: a return, a throw of its own, a throw out of a callee -/
def am_F (l : Am_L) (mi : Nat) (p : Program) (e : Env) (R : Room) (s : State) (m : MethodId) (args : Array Value) (below : List Frame) (meth : Method) (c : Code) (G : Am_G) (K : Am_R → Am_H → Prop) (Q : State → Prop) : Prop :=
  (∀ (r : Option Value) (h : Am_H) (H : Heap) (locs : List Loc) (cells slots : Nat) (arr : Array Slot) (pc : Nat), K (.inl r) h → am_W G h H → va_S (am_A G) s.heap H locs → cells ≤ R.cells → slots ≤ R.slots →
    (match r with
      | none => am_r mi = none ∧ decode (am_b mi) pc = .ok (.return_, 1)
      | some (.int x) => (∃ ty, am_r mi = some ty ∧ narrow ty (.int x) = .int x) ∧ decode (am_b mi) pc = .ok (.ireturn, 1)
      | some (.long _) => am_r mi = some .long ∧ decode (am_b mi) pc = .ok (.lreturn, 1)
      | some _ => (∃ ty, am_r mi = some ty ∧ ((∃ n, ty = .object n) ∨ ∃ t, ty = .array t)) ∧ (∃ o, r = some (.ref o)) ∧ decode (am_b mi) pc = .ok (.areturn, 1)) →
    W p l.1 e R s m args below meth c H locs cells slots Q (F0 m pc arr (r.toList.map (am_c G)))) ∧
  (∀ (E : String) (h : Am_H) (H : Heap) (locs : List Loc) (cells slots : Nat) (arr : Array Slot) (pc : Nat) (st : List Value) (q : Addr) (ce : Cell), K (.inr E) h → am_W G h H → va_S (am_A G) s.heap H locs → cells ≤ R.cells → slots ≤ R.slots → H[q]? = some ce → ce.vm = .none → s.vm.findClass E = some ce.cls → lv_has arr (am_l mi) [] → am_hs mi pc →
    vx_W p l.1 e R s m args below meth c H locs cells slots Q (F0 m pc arr st) q) ∧
  (∀ (E : String) (h : Am_H) (H : Heap) (locs : List Loc) (cells slots : Nat) (arr : Array Slot) (pc : Nat) (st : List Value), am_thr mi pc = E → E ≠ "" → (∀ n, am_N h ≤ n → K (.inr E) (am_skip h n)) → am_W G h H → va_S (am_A G) s.heap H locs → cells + 1 ≤ R.cells → slots + 6 ≤ R.slots → arr.size = am_l mi → (st.map fun v => v.category).sum ≤ 8 →
    W p l.1 e R s m args below meth c H locs cells slots Q (F0 m pc arr (st.map (am_c G))))
/-- from here on, in the frame of method mi with d levels and rc cells, rs slots left, the run comes to K -/
def am_J (l : Am_L) (mi d rc rs pc : Nat) (ls : List (Option Value)) (st : List Value) (h : Am_H) (K : Am_R → Am_H → Prop) : Prop :=
  ∀ (p : Program) (e : Env) (R : Room) (s : State) (m : MethodId) (args : Array Value) (below : List Frame) (meth : Method) (c : Code) (G : Am_G) (H : Heap) (locs : List Loc) (cells slots : Nat) (Q : State → Prop) (arr : Array Slot),
    am_X l mi d rc rs p R s m args meth c G cells slots → am_W G h H → va_S (am_A G) s.heap H locs → am_V G arr (am_l mi) ls → am_F l mi p e R s m args below meth c G K Q →
    W p l.1 e R s m args below meth c H locs cells slots Q (F0 m pc arr (st.map (am_c G)))
