/-! a row of the code's table, checked against the bytes and the tables' words; the step is sound (made by wip/tools/sound.py) -/
def am_dc (mi pc : Nat) (i : Instr) (len nx : Nat) : Bool := decide (decode (am_b mi) pc = .ok (i, len)) && decide (nx = pc + len)
theorem am_dc_use {mi pc len nx : Nat} {i : Instr} (h : am_dc mi pc i len nx = true) : decode (am_b mi) pc = .ok (i, len) ∧ nx = pc + len := by
  simp only [am_dc, Bool.and_eq_true, decide_eq_true_eq] at h
  exact h
/-- a branch -/
def am_db (mi pc : Nat) (i : Instr) (nx : Nat) : Bool := decide (decode (am_b mi) pc = .ok (i, 3)) && decide (nx = pc + 3)
def am_wd (pos : Nat) (w : Cond) : Bool := decide (lw_tbl[pos]? = some w) && goodWord w
theorem am_wd_use {pos : Nat} {w : Cond} (h : am_wd pos w = true) : w ∈ am_TB := am_TBin pos h
def am_wn (pos : Nat) (w : Cond) : Bool := decide (lw_tbl[pos]? = some w) && am_isN w
theorem am_wn_use {pos : Nat} {w : Cond} (h : am_wn pos w = true) : w ∈ am_NB := am_NBin pos h
def am_fl (mi idx pos b a : Nat) (F : u_T → Bool) : Bool := match vwCl[b]? with
  | some (_, T, N) => decide (a < N) && F T && (am_wd pos (.fieldLink (am_y mi).cls idx (T a).1 (T a).2.1 (T a).2.2.1) || am_wn pos (.fieldLinkNest (am_y mi).cls idx (T a).1 (T a).2.1 (T a).2.2.1 "SandCars"))
  | none => false
theorem am_fl_use {mi idx pos b a : Nat} {F : u_T → Bool} (h : am_fl mi idx pos b a F = true) : ∃ C T N, vwCl[b]? = some (C, T, N) ∧ a < N ∧ F T = true ∧ (Cond.fieldLink (am_y mi).cls idx (T a).1 (T a).2.1 (T a).2.2.1 ∈ am_TB ∨ Cond.fieldLinkNest (am_y mi).cls idx (T a).1 (T a).2.1 (T a).2.2.1 "SandCars" ∈ am_NB) := by
  unfold am_fl at h
  split at h
  · rename_i C T N heq
    simp only [Bool.and_eq_true, Bool.or_eq_true, decide_eq_true_eq] at h
    exact ⟨C, T, N, heq, h.1.1, h.1.2, h.2.imp am_wd_use am_wn_use⟩
  · cases h
def am_fin (mi a : Nat) (T : u_T) : Bool := !(T a).2.2.2 || (decide ((am_y mi).name = "<init>") && decide ((T a).1 = (am_y mi).cls))
def am_isRefD (d : String) : Bool := match parseFieldDescriptor d with
  | some (.object _) => true
  | some (.array _) => true
  | _ => false
def am_nwok (b a : Nat) (C : String) (T : u_T) : Bool := (List.range a).all fun k => match parseFieldDescriptor (T k).2.2.1 with
  | some ty => am_tyok (T k).2.2.1 ty
  | none => false
def am_call (mi cal idx pos b : Nat) (pN : Nat) : Bool := decide (cal < am_nM) && decide ((parseMethodDescriptor (am_y cal).desc).map (fun d => d.parameters.length) = some b) && am_wd pN (.initialized (am_y cal).cls) && (am_wd pos (.methodLink (am_y mi).cls idx (am_y cal)) || am_wn pos (.methodLinkNest (am_y mi).cls idx (am_y cal) "SandCars"))
theorem am_call_use {mi cal idx pos b pN : Nat} (h : am_call mi cal idx pos b pN = true) : am_lk mi cal idx b := by
  simp only [am_call, Bool.and_eq_true, Bool.or_eq_true, decide_eq_true_eq] at h
  exact ⟨h.1.1.1, h.1.1.2, am_wd_use h.1.2, h.2.imp am_wd_use fun q => ⟨_, am_wn_use q⟩⟩

def am_swk (mi pc a b e : Nat) (v : Int32) (ts : List Nat) : Bool := match decode (am_b mi) pc with
  | .ok (.tableswitch df lo hi offs, _) => decide (lo = (e : Int)) && decide (hi = ((e + ts.length : Nat) : Int) - 1) && decide ((pc : Int) + df = (b : Int)) && (List.range ts.length).all (fun i => decide (∃ o ∈ offs[i]?, (pc : Int) + o = ((ts.getD i 0 : Nat) : Int))) && decide (e + ts.length < 2 ^ 31) && decide (v = nI e)
  | _ => false
theorem am_sw_mono {x : Int32} {dflt : Nat} {F F2 : Nat → Prop} (h : ∀ t, F t → F2 t) : ∀ (ts : List Nat) (v : Int32), am_sw x v ts dflt F → am_sw x v ts dflt F2 := by
  intro ts
  induction ts with
  | nil => intro v q; exact h _ q
  | cons t ts ih => intro v q; exact ⟨fun e => h _ (q.1 e), fun e => ih _ (q.2 e)⟩
def am_pl (mi idx pos b a : Nat) (F : u_T → Bool) : Bool := am_fl mi idx pos b a (fun T => F T && (!(T a).2.2.2 || (decide ((am_y mi).name = "<init>") && decide ((T a).1 = (am_y mi).cls) && am_wd pos (.fieldLink (am_y mi).cls idx (T a).1 (T a).2.1 (T a).2.2.1))))
theorem am_pl_use {mi idx pos b a : Nat} {F : u_T → Bool} (h : am_pl mi idx pos b a F = true) : ∃ C T N, vwCl[b]? = some (C, T, N) ∧ a < N ∧ F T = true ∧ ((Cond.fieldLink (am_y mi).cls idx (T a).1 (T a).2.1 (T a).2.2.1 ∈ am_TB ∧ ((T a).2.2.2 = false ∨ ((am_y mi).name = "<init>" ∧ (T a).1 = (am_y mi).cls))) ∨ (∃ host, Cond.fieldLinkNest (am_y mi).cls idx (T a).1 (T a).2.1 (T a).2.2.1 host ∈ am_NB) ∧ (T a).2.2.2 = false) := by
  obtain ⟨C, T, N, h1, h2, h3, h4⟩ := am_fl_use h
  simp only [Bool.and_eq_true, Bool.or_eq_true, decide_eq_true_eq, Bool.not_eq_true'] at h3
  refine ⟨C, T, N, h1, h2, h3.1, ?_⟩
  rcases h3.2 with q | q
  · rcases h4 with r | r
    · exact Or.inl ⟨r, Or.inl q⟩
    · exact Or.inr ⟨⟨_, r⟩, q⟩
  · exact Or.inl ⟨am_wd_use q.2, Or.inr q.1⟩
theorem am_fvI {h : Am_H} {T : u_T} {o a : Nat} {x : Int32} (hF : am_int (T a).2.2.1 = true) (G : Am_G) (j : Nat) : am_fv G (am_wI h o a x) T o j = if j = a then am_c G (.int x) else am_fv G h T o j := by
  by_cases hj : j = a
  · subst hj
    rw [if_pos rfl]
    simp only [am_fv, hF, if_true, am_I_wI, and_self]
    rfl
  · rw [if_neg hj]
    simp only [am_fv, am_I_wI, am_P_wI, hj, and_false, if_false]
theorem am_fvP {h : Am_H} {T : u_T} {o a : Nat} {x : Option Nat} (hF : ¬ am_int (T a).2.2.1 = true) (G : Am_G) (j : Nat) : am_fv G (am_wP h o a x) T o j = if j = a then am_c G (am_rf x) else am_fv G h T o j := by
  by_cases hj : j = a
  · subst hj
    rw [if_pos rfl]
    simp only [am_fv, hF, if_false, am_P_wP, and_self, if_true]
    rfl
  · rw [if_neg hj]
    simp only [am_fv, am_P_wP, am_I_wP, hj, and_false, if_false]
theorem am_refD {d : String} (h : am_isRefD d = true) : ∃ ty, parseFieldDescriptor d = some ty ∧ ((∃ n, ty = .object n) ∨ ∃ t, ty = .array t) := by
  unfold am_isRefD at h
  split at h
  · rename_i n e; exact ⟨_, e, Or.inl ⟨_, rfl⟩⟩
  · rename_i n e; exact ⟨_, e, Or.inr ⟨_, rfl⟩⟩
  · cases h
theorem am_oi1 : Cond.instanceMethod Lib.objectInit ∈ am_TB := am_TBin 146 (by decide +kernel)
set_option maxRecDepth 20000 in
theorem am_oi3 : lw_tbl[147]? = some (Cond.code Lib.objectInit ⟨#[0xb1]⟩ 1 none) := rfl
theorem am_oi2 : Cond.code Lib.objectInit ⟨#[0xb1]⟩ 1 none ∈ am_TB := List.mem_filter.mpr ⟨List.mem_of_getElem? am_oi3, rfl⟩
def am_nk (mi idx pos a b : Nat) (p1 p2 : Nat) : Bool := match vwCl[b]? with
  | some (C, T, N) => decide (a = N) && am_wd pos (.classLink (am_y mi).cls idx C) && am_wd p1 (.instantiable C N) && am_wd p2 (.initialized C) && am_nwok b N C T
  | none => false
def am_ak (pos : Nat) (a : Nat) (ins : Instr → Bool) : Bool := (decide (a = 2) && ins (.newarray .int) && am_wd pos (.arrayClass .int)) || (decide (a = 3) && ins (.newarray .byte) && am_wd pos (.arrayClass .byte)) || (decide (a = 4) && ins (.newarray .long) && am_wd pos (.arrayClass .long))
def am_ik (e cal p1 p2 : Nat) : Bool := match vwCl[e]? with
  | some (C, _, _) => decide (C = (am_y cal).cls) && am_wd p1 (.instanceMethod (am_y cal)) && am_wd p2 (.selects (am_y cal).cls (am_y cal) (am_y cal))
  | none => false
def am_rtA (r : Option FieldType) : Bool := match r with
  | some (.object _) => true
  | some (.array _) => true
  | _ => false
theorem am_rtA_use {r : Option FieldType} (h : am_rtA r = true) : ∃ ty, r = some ty ∧ ((∃ n, ty = .object n) ∨ ∃ t, ty = .array t) := by
  unfold am_rtA at h
  split at h
  · exact ⟨_, rfl, Or.inl ⟨_, rfl⟩⟩
  · exact ⟨_, rfl, Or.inr ⟨_, rfl⟩⟩
  · cases h
def am_ops : List Nat := [1, 2, 3, 4, 5, 6, 7, 8, 9, 10, 11, 12, 13, 14, 15, 16, 17, 20, 21, 22, 23, 24, 25, 26, 27, 28, 29, 30, 31, 32, 33, 34, 35, 36, 37, 38, 39, 40, 41, 42, 43, 44, 45, 50, 51, 52, 53, 54, 55, 56, 57, 58, 59, 60, 61, 62, 63, 64, 70, 71, 72, 73, 74, 75, 76, 77, 78, 79, 80, 81, 85, 86, 87, 88, 89, 90, 91, 92, 93, 95, 96, 100, 101, 110, 111, 112, 113, 114, 200]
def am_cko (mi pc : Nat) (v : Int32) (a b e nx : Nat) (idx pos pos2 : Nat) (tsw : Nat → List Nat) (op : Nat) : Bool := match op with
    | 1 => am_dc mi pc (.iconst v.toInt) 1 nx
    | 2 => am_dc mi pc (.bipush v.toInt) 2 nx && decide ((Int8.ofInt v.toInt).toInt32 = v)
    | 3 => am_dc mi pc (.sipush v.toInt) 3 nx && decide ((Int16.ofInt v.toInt).toInt32 = v)
    | 4 => am_dc mi pc (.lconst (Fin.ofNat 2 a)) 1 nx && decide (a < 2)
    | 5 => am_dc mi pc (.iload_n (Fin.ofNat 4 a)) 1 nx && decide (a < 4)
    | 6 => am_dc mi pc (.iload a) 2 nx
    | 7 => am_dc mi pc (.lload_n (Fin.ofNat 4 a)) 1 nx && decide (a < 4)
    | 8 => am_dc mi pc (.lload a) 2 nx
    | 9 => am_dc mi pc (.aload_n (Fin.ofNat 4 a)) 1 nx && decide (a < 4)
    | 10 => am_dc mi pc (.aload a) 2 nx
    | 11 => am_dc mi pc (.istore_n (Fin.ofNat 4 a)) 1 nx && decide (a < 4) && decide (a < am_l mi)
    | 12 => am_dc mi pc (.istore a) 2 nx && decide (a < am_l mi)
    | 13 => am_dc mi pc (.lstore_n (Fin.ofNat 4 a)) 1 nx && decide (a < 4) && decide (a + 1 < am_l mi)
    | 14 => am_dc mi pc (.lstore a) 2 nx && decide (a + 1 < am_l mi)
    | 15 => am_dc mi pc (.astore_n (Fin.ofNat 4 a)) 1 nx && decide (a < 4) && decide (a < am_l mi)
    | 16 => am_dc mi pc (.astore a) 2 nx && decide (a < am_l mi)
    | 17 => am_dc mi pc (.iinc a v.toInt) 3 nx && decide (a < am_l mi)
    | 20 => am_dc mi pc (.iadd) 1 nx
    | 21 => am_dc mi pc (.isub) 1 nx
    | 22 => am_dc mi pc (.imul) 1 nx
    | 23 => am_dc mi pc .idiv 1 nx
    | 24 => am_dc mi pc .irem 1 nx
    | 25 => am_dc mi pc (.iand) 1 nx
    | 26 => am_dc mi pc (.ior) 1 nx
    | 27 => am_dc mi pc (.ixor) 1 nx
    | 28 => am_dc mi pc (.ishl) 1 nx
    | 29 => am_dc mi pc (.ishr) 1 nx
    | 30 => am_dc mi pc (.iushr) 1 nx
    | 31 => am_dc mi pc (.ladd) 1 nx
    | 32 => am_dc mi pc (.lmul) 1 nx
    | 33 => am_dc mi pc (.land) 1 nx
    | 34 => am_dc mi pc (.lor) 1 nx
    | 35 => am_dc mi pc (.lshl) 1 nx
    | 36 => am_dc mi pc (.lushr) 1 nx
    | 37 => am_dc mi pc (.lcmp) 1 nx
    | 38 => am_dc mi pc (.i2l) 1 nx
    | 39 => am_dc mi pc (.l2i) 1 nx
    | 40 => am_dc mi pc (.i2b) 1 nx
    | 41 => am_dc mi pc (.i2c) 1 nx
    | 42 => am_dc mi pc .dup 1 nx
    | 43 => am_dc mi pc .pop 1 nx
    | 44 => am_dc mi pc .dup2 1 nx
    | 45 => am_dc mi pc (.aconst_null) 1 nx
    | 50 => am_dc mi pc (.ifCond .eq ((a : Int) - (pc : Int))) 3 nx
    | 51 => am_dc mi pc (.ifCond .ne ((a : Int) - (pc : Int))) 3 nx
    | 52 => am_dc mi pc (.ifCond .lt ((a : Int) - (pc : Int))) 3 nx
    | 53 => am_dc mi pc (.ifCond .ge ((a : Int) - (pc : Int))) 3 nx
    | 54 => am_dc mi pc (.ifCond .gt ((a : Int) - (pc : Int))) 3 nx
    | 55 => am_dc mi pc (.ifCond .le ((a : Int) - (pc : Int))) 3 nx
    | 56 => am_dc mi pc (.if_icmp .eq ((a : Int) - (pc : Int))) 3 nx
    | 57 => am_dc mi pc (.if_icmp .ne ((a : Int) - (pc : Int))) 3 nx
    | 58 => am_dc mi pc (.if_icmp .lt ((a : Int) - (pc : Int))) 3 nx
    | 59 => am_dc mi pc (.if_icmp .ge ((a : Int) - (pc : Int))) 3 nx
    | 60 => am_dc mi pc (.if_icmp .gt ((a : Int) - (pc : Int))) 3 nx
    | 61 => am_dc mi pc (.if_icmp .le ((a : Int) - (pc : Int))) 3 nx
    | 62 => am_dc mi pc (.goto ((a : Int) - (pc : Int))) 3 nx
    | 63 => am_dc mi pc (.ifnonnull ((a : Int) - (pc : Int))) 3 nx
    | 64 => am_swk mi pc a b e v (tsw a)
    | 70 => am_dc mi pc (.getfield idx) 3 nx && am_fl mi idx pos b a (fun T => am_int (T a).2.2.1)
    | 71 => am_dc mi pc (.getfield idx) 3 nx && am_fl mi idx pos b a (fun T => !(am_int (T a).2.2.1))
    | 72 => am_dc mi pc (.putfield idx) 3 nx && am_pl mi idx pos b a (fun T => am_int (T a).2.2.1 && decide (parseFieldDescriptor (T a).2.2.1 = some .int))
    | 73 => am_dc mi pc (.putfield idx) 3 nx && am_pl mi idx pos b a (fun T => am_int (T a).2.2.1 && decide (parseFieldDescriptor (T a).2.2.1 = some .boolean))
    | 74 => am_dc mi pc (.putfield idx) 3 nx && am_pl mi idx pos b a (fun T => !(am_int (T a).2.2.1) && am_isRefD (T a).2.2.1)
    | 75 => am_dc mi pc .iaload 1 nx
    | 76 => am_dc mi pc .baload 1 nx
    | 77 => am_dc mi pc .laload 1 nx
    | 78 => am_dc mi pc .iastore 1 nx
    | 79 => am_dc mi pc .bastore 1 nx
    | 80 => am_dc mi pc .lastore 1 nx
    | 81 => am_dc mi pc .arraylength 1 nx
    | 85 => am_dc mi pc (.invokestatic idx) 3 nx && am_wd pos (.methodLink (am_y mi).cls idx Lib.Math.min.name)
    | 86 => am_dc mi pc (.invokestatic idx) 3 nx && am_wd pos (.methodLink (am_y mi).cls idx Lib.Math.max.name)
    | 87 => am_dc mi pc (.ldc idx) 2 nx && am_wd pos (.constant (am_y mi).cls idx v)
    | 88 => am_dc mi pc (.ldc_w idx) 3 nx && am_wd pos (.constant (am_y mi).cls idx v)
    | 89 => am_dc mi pc (.ldc2_w idx) 3 nx && am_wd pos (.constantLong (am_y mi).cls idx (am_lng.getD a 0))
    | 90 => am_dc mi pc (.ldc idx) 2 nx && decide ((am_strs[a]?).map (fun q => (q.1, q.2.1)) = some ((am_y mi).cls, idx)) && decide (a < 1000)
    | 91 => am_dc mi pc (.invokespecial idx) 3 nx && am_wd pos (.methodLink (am_y mi).cls idx Lib.objectInit)
    | 92 => am_dc mi pc (.new idx) 3 nx && am_nk mi idx pos a b (pos2 % 4096) (pos2 / 4096)
    | 93 => am_ak pos a (fun i => am_dc mi pc i 2 nx)
    | 95 => am_dc mi pc .iaload 1 nx
    | 96 => am_dc mi pc .arraylength 1 nx
    | 100 => am_dc mi pc (.invokevirtual idx) 3 nx && am_call mi a idx pos b (pos2 / 16777216) && am_ik e a (pos2 % 4096) (pos2 / 4096 % 4096)
    | 101 => am_dc mi pc (.invokestatic idx) 3 nx && am_call mi a idx pos b (pos2 / 16777216) && am_wd (pos2 % 4096) (.static (am_y a))
    | 110 => am_dc mi pc .ireturn 1 nx && decide (am_r mi = some .int)
    | 111 => am_dc mi pc .ireturn 1 nx && decide (am_r mi = some .boolean)
    | 112 => am_dc mi pc .lreturn 1 nx && decide (am_r mi = some .long)
    | 113 => am_dc mi pc .areturn 1 nx && am_rtA (am_r mi)
    | 114 => am_dc mi pc .return_ 1 nx && decide (am_r mi = none)
    | 200 => true
    | _ => false
def am_ck (mi pc : Nat) (t : Am_I) (idx pos pos2 : Nat) (tsw : Nat → List Nat) : Bool := match t with
  | (op, v, a, b, e, nx, _) => decide (op ∈ am_ops) && am_cko mi pc v a b e nx idx pos pos2 tsw op
section
variable {l : Am_L} {mi d rc rs pc a b e nx idx pos pos2 : Nat} {v : Int32} {ls : List (Option Value)} {st : List Value} {h : Am_H} {K : Am_R → Am_H → Prop} {tsw : Nat → List Nat} {V : Nat → Nat → Nat → List (Option Value) → List Value → Am_H → Prop}
theorem am_ok_1 (hck : (am_dc mi pc (.iconst v.toInt) 1 nx) = true) (hV : ∀ rc rs pc ls st h, V rc rs pc ls st h → am_J l mi d rc rs pc ls st h K) (hx : V rc rs nx ls (.int v :: st) h) : am_J l mi d rc rs pc ls st h K := by
  obtain ⟨hd, rfl⟩ := am_dc_use hck
  exact jr_iconst hd (Int32.ofInt_toInt v) (hV _ _ _ _ _ _ hx)
theorem am_ok_2 (hck : (am_dc mi pc (.bipush v.toInt) 2 nx && decide ((Int8.ofInt v.toInt).toInt32 = v)) = true) (hV : ∀ rc rs pc ls st h, V rc rs pc ls st h → am_J l mi d rc rs pc ls st h K) (hx : V rc rs nx ls (.int v :: st) h) : am_J l mi d rc rs pc ls st h K := by
  rw [Bool.and_eq_true, decide_eq_true_eq] at hck
  obtain ⟨hd, rfl⟩ := am_dc_use hck.1
  exact jr_bipush hd hck.2 (hV _ _ _ _ _ _ hx)
theorem am_ok_3 (hck : (am_dc mi pc (.sipush v.toInt) 3 nx && decide ((Int16.ofInt v.toInt).toInt32 = v)) = true) (hV : ∀ rc rs pc ls st h, V rc rs pc ls st h → am_J l mi d rc rs pc ls st h K) (hx : V rc rs nx ls (.int v :: st) h) : am_J l mi d rc rs pc ls st h K := by
  rw [Bool.and_eq_true, decide_eq_true_eq] at hck
  obtain ⟨hd, rfl⟩ := am_dc_use hck.1
  exact jr_sipush hd hck.2 (hV _ _ _ _ _ _ hx)
theorem am_ok_4 (hck : (am_dc mi pc (.lconst (Fin.ofNat 2 a)) 1 nx && decide (a < 2)) = true) (hV : ∀ rc rs pc ls st h, V rc rs pc ls st h → am_J l mi d rc rs pc ls st h K) (hx : V rc rs nx ls (.long (Int64.ofNat a) :: st) h) : am_J l mi d rc rs pc ls st h K := by
  rw [Bool.and_eq_true, decide_eq_true_eq] at hck
  obtain ⟨hd, rfl⟩ := am_dc_use hck.1
  exact jr_lconst hd (by show Int64.ofNat (a % 2) = _; rw [Nat.mod_eq_of_lt hck.2]) (hV _ _ _ _ _ _ hx)
theorem am_ok_5 (hck : (am_dc mi pc (.iload_n (Fin.ofNat 4 a)) 1 nx && decide (a < 4)) = true) (hV : ∀ rc rs pc ls st h, V rc rs pc ls st h → am_J l mi d rc rs pc ls st h K) (hx : am_li (am_get ls a) fun x => V rc rs nx ls (.int x :: st) h) : am_J l mi d rc rs pc ls st h K := by
  rw [Bool.and_eq_true, decide_eq_true_eq] at hck
  obtain ⟨hd, rfl⟩ := am_dc_use hck.1
  unfold am_li at hx
  split at hx
  · rename_i x hg; exact jr_iload_n hd (show a % 4 = a from Nat.mod_eq_of_lt hck.2) hg (hV _ _ _ _ _ _ hx)
  · exact hx.elim
theorem am_ok_6 (hck : (am_dc mi pc (.iload a) 2 nx) = true) (hV : ∀ rc rs pc ls st h, V rc rs pc ls st h → am_J l mi d rc rs pc ls st h K) (hx : am_li (am_get ls a) fun x => V rc rs nx ls (.int x :: st) h) : am_J l mi d rc rs pc ls st h K := by
  obtain ⟨hd, rfl⟩ := am_dc_use hck
  unfold am_li at hx
  split at hx
  · rename_i x hg; exact jr_iload hd hg (hV _ _ _ _ _ _ hx)
  · exact hx.elim
theorem am_ok_7 (hck : (am_dc mi pc (.lload_n (Fin.ofNat 4 a)) 1 nx && decide (a < 4)) = true) (hV : ∀ rc rs pc ls st h, V rc rs pc ls st h → am_J l mi d rc rs pc ls st h K) (hx : am_ll (am_get ls a) fun x => V rc rs nx ls (.long x :: st) h) : am_J l mi d rc rs pc ls st h K := by
  rw [Bool.and_eq_true, decide_eq_true_eq] at hck
  obtain ⟨hd, rfl⟩ := am_dc_use hck.1
  unfold am_ll at hx
  split at hx
  · rename_i x hg; exact jr_lload_n hd (show a % 4 = a from Nat.mod_eq_of_lt hck.2) hg (hV _ _ _ _ _ _ hx)
  · exact hx.elim
theorem am_ok_8 (hck : (am_dc mi pc (.lload a) 2 nx) = true) (hV : ∀ rc rs pc ls st h, V rc rs pc ls st h → am_J l mi d rc rs pc ls st h K) (hx : am_ll (am_get ls a) fun x => V rc rs nx ls (.long x :: st) h) : am_J l mi d rc rs pc ls st h K := by
  obtain ⟨hd, rfl⟩ := am_dc_use hck
  unfold am_ll at hx
  split at hx
  · rename_i x hg; exact jr_lload hd hg (hV _ _ _ _ _ _ hx)
  · exact hx.elim
theorem am_ok_9 (hck : (am_dc mi pc (.aload_n (Fin.ofNat 4 a)) 1 nx && decide (a < 4)) = true) (hV : ∀ rc rs pc ls st h, V rc rs pc ls st h → am_J l mi d rc rs pc ls st h K) (hx : am_la (am_get ls a) fun x => V rc rs nx ls (x :: st) h) : am_J l mi d rc rs pc ls st h K := by
  rw [Bool.and_eq_true, decide_eq_true_eq] at hck
  obtain ⟨hd, rfl⟩ := am_dc_use hck.1
  unfold am_la at hx
  split at hx
  · rename_i x hg; exact jr_aload_n hd (show a % 4 = a from Nat.mod_eq_of_lt hck.2) hg hx.1 (hV _ _ _ _ _ _ hx.2)
  · exact hx.elim
theorem am_ok_10 (hck : (am_dc mi pc (.aload a) 2 nx) = true) (hV : ∀ rc rs pc ls st h, V rc rs pc ls st h → am_J l mi d rc rs pc ls st h K) (hx : am_la (am_get ls a) fun x => V rc rs nx ls (x :: st) h) : am_J l mi d rc rs pc ls st h K := by
  obtain ⟨hd, rfl⟩ := am_dc_use hck
  unfold am_la at hx
  split at hx
  · rename_i x hg; exact jr_aload hd hg hx.1 (hV _ _ _ _ _ _ hx.2)
  · exact hx.elim
theorem am_ok_11 (hck : (am_dc mi pc (.istore_n (Fin.ofNat 4 a)) 1 nx && decide (a < 4) && decide (a < am_l mi)) = true) (hV : ∀ rc rs pc ls st h, V rc rs pc ls st h → am_J l mi d rc rs pc ls st h K) (hx : am_s1 st fun x st => am_nl (am_get ls (a - 1)) ∧ V rc rs nx (am_set ls a (some (.int x))) st h) : am_J l mi d rc rs pc ls st h K := by
  unfold am_s1 at hx
  split at hx
  · rw [Bool.and_eq_true, Bool.and_eq_true, decide_eq_true_eq, decide_eq_true_eq] at hck
    obtain ⟨hd, rfl⟩ := am_dc_use hck.1.1
    exact jr_istore_n hd (show a % 4 = a from Nat.mod_eq_of_lt hck.1.2) hck.2 hx.1 (hV _ _ _ _ _ _ hx.2)
  · exact hx.elim
theorem am_ok_12 (hck : (am_dc mi pc (.istore a) 2 nx && decide (a < am_l mi)) = true) (hV : ∀ rc rs pc ls st h, V rc rs pc ls st h → am_J l mi d rc rs pc ls st h K) (hx : am_s1 st fun x st => am_nl (am_get ls (a - 1)) ∧ V rc rs nx (am_set ls a (some (.int x))) st h) : am_J l mi d rc rs pc ls st h K := by
  unfold am_s1 at hx
  split at hx
  · rw [Bool.and_eq_true, decide_eq_true_eq] at hck
    obtain ⟨hd, rfl⟩ := am_dc_use hck.1
    exact jr_istore hd hck.2 hx.1 (hV _ _ _ _ _ _ hx.2)
  · exact hx.elim
theorem am_ok_13 (hck : (am_dc mi pc (.lstore_n (Fin.ofNat 4 a)) 1 nx && decide (a < 4) && decide (a + 1 < am_l mi)) = true) (hV : ∀ rc rs pc ls st h, V rc rs pc ls st h → am_J l mi d rc rs pc ls st h K) (hx : am_t1 st fun x st => (am_nl (am_get ls (a - 1)) ∨ a = 0) ∧ V rc rs nx (am_set (am_set ls a (some (.long x))) (a + 1) none) st h) : am_J l mi d rc rs pc ls st h K := by
  unfold am_t1 at hx
  split at hx
  · rw [Bool.and_eq_true, Bool.and_eq_true, decide_eq_true_eq, decide_eq_true_eq] at hck
    obtain ⟨hd, rfl⟩ := am_dc_use hck.1.1
    exact jr_lstore_n hd (show a % 4 = a from Nat.mod_eq_of_lt hck.1.2) hck.2 hx.1 (hV _ _ _ _ _ _ hx.2)
  · exact hx.elim
theorem am_ok_14 (hck : (am_dc mi pc (.lstore a) 2 nx && decide (a + 1 < am_l mi)) = true) (hV : ∀ rc rs pc ls st h, V rc rs pc ls st h → am_J l mi d rc rs pc ls st h K) (hx : am_t1 st fun x st => (am_nl (am_get ls (a - 1)) ∨ a = 0) ∧ V rc rs nx (am_set (am_set ls a (some (.long x))) (a + 1) none) st h) : am_J l mi d rc rs pc ls st h K := by
  unfold am_t1 at hx
  split at hx
  · rw [Bool.and_eq_true, decide_eq_true_eq] at hck
    obtain ⟨hd, rfl⟩ := am_dc_use hck.1
    exact jr_lstore hd hck.2 hx.1 (hV _ _ _ _ _ _ hx.2)
  · exact hx.elim
theorem am_ok_15 (hck : (am_dc mi pc (.astore_n (Fin.ofNat 4 a)) 1 nx && decide (a < 4) && decide (a < am_l mi)) = true) (hV : ∀ rc rs pc ls st h, V rc rs pc ls st h → am_J l mi d rc rs pc ls st h K) (hx : am_v1 st fun x st => am_nl (am_get ls (a - 1)) ∧ am_isA x ∧ V rc rs nx (am_set ls a (some x)) st h) : am_J l mi d rc rs pc ls st h K := by
  unfold am_v1 at hx
  split at hx
  · rw [Bool.and_eq_true, Bool.and_eq_true, decide_eq_true_eq, decide_eq_true_eq] at hck
    obtain ⟨hd, rfl⟩ := am_dc_use hck.1.1
    exact jr_astore_n hd (show a % 4 = a from Nat.mod_eq_of_lt hck.1.2) hck.2 hx.1 hx.2.1 (hV _ _ _ _ _ _ hx.2.2)
  · exact hx.elim
theorem am_ok_16 (hck : (am_dc mi pc (.astore a) 2 nx && decide (a < am_l mi)) = true) (hV : ∀ rc rs pc ls st h, V rc rs pc ls st h → am_J l mi d rc rs pc ls st h K) (hx : am_v1 st fun x st => am_nl (am_get ls (a - 1)) ∧ am_isA x ∧ V rc rs nx (am_set ls a (some x)) st h) : am_J l mi d rc rs pc ls st h K := by
  unfold am_v1 at hx
  split at hx
  · rw [Bool.and_eq_true, decide_eq_true_eq] at hck
    obtain ⟨hd, rfl⟩ := am_dc_use hck.1
    exact jr_astore hd hck.2 hx.1 hx.2.1 (hV _ _ _ _ _ _ hx.2.2)
  · exact hx.elim
theorem am_ok_17 (hck : (am_dc mi pc (.iinc a v.toInt) 3 nx && decide (a < am_l mi)) = true) (hV : ∀ rc rs pc ls st h, V rc rs pc ls st h → am_J l mi d rc rs pc ls st h K) (hx : am_li (am_get ls a) fun x => am_nl (am_get ls (a - 1)) ∧ V rc rs nx (am_set ls a (some (.int (x + v)))) st h) : am_J l mi d rc rs pc ls st h K := by
  rw [Bool.and_eq_true, decide_eq_true_eq] at hck
  obtain ⟨hd, rfl⟩ := am_dc_use hck.1
  unfold am_li at hx
  split at hx
  · rename_i x hg; exact jr_iinc hd hg (Int32.ofInt_toInt v) hck.2 hx.1 (hV _ _ _ _ _ _ hx.2)
  · exact hx.elim
theorem am_ok_20 (hck : (am_dc mi pc (.iadd) 1 nx) = true) (hV : ∀ rc rs pc ls st h, V rc rs pc ls st h → am_J l mi d rc rs pc ls st h K) (hx : am_s2 st fun x y st => V rc rs nx ls (.int (x + y) :: st) h) : am_J l mi d rc rs pc ls st h K := by
  unfold am_s2 at hx
  split at hx
  · obtain ⟨hd, rfl⟩ := am_dc_use hck
    exact jr_iadd hd  (hV _ _ _ _ _ _ hx)
  · exact hx.elim
theorem am_ok_21 (hck : (am_dc mi pc (.isub) 1 nx) = true) (hV : ∀ rc rs pc ls st h, V rc rs pc ls st h → am_J l mi d rc rs pc ls st h K) (hx : am_s2 st fun x y st => V rc rs nx ls (.int (x - y) :: st) h) : am_J l mi d rc rs pc ls st h K := by
  unfold am_s2 at hx
  split at hx
  · obtain ⟨hd, rfl⟩ := am_dc_use hck
    exact jr_isub hd  (hV _ _ _ _ _ _ hx)
  · exact hx.elim
theorem am_ok_22 (hck : (am_dc mi pc (.imul) 1 nx) = true) (hV : ∀ rc rs pc ls st h, V rc rs pc ls st h → am_J l mi d rc rs pc ls st h K) (hx : am_s2 st fun x y st => V rc rs nx ls (.int (x * y) :: st) h) : am_J l mi d rc rs pc ls st h K := by
  unfold am_s2 at hx
  split at hx
  · obtain ⟨hd, rfl⟩ := am_dc_use hck
    exact jr_imul hd  (hV _ _ _ _ _ _ hx)
  · exact hx.elim
theorem am_ok_23 (hck : (am_dc mi pc .idiv 1 nx) = true) (hV : ∀ rc rs pc ls st h, V rc rs pc ls st h → am_J l mi d rc rs pc ls st h K) (hx : am_s2 st fun x y st => ¬ y = 0 ∧ V rc rs nx ls (.int (x / y) :: st) h) : am_J l mi d rc rs pc ls st h K := by
  unfold am_s2 at hx
  split at hx
  · obtain ⟨hd, rfl⟩ := am_dc_use hck
    exact jr_idiv hd hx.1 (hV _ _ _ _ _ _ hx.2)
  · exact hx.elim
theorem am_ok_24 (hck : (am_dc mi pc .irem 1 nx) = true) (hV : ∀ rc rs pc ls st h, V rc rs pc ls st h → am_J l mi d rc rs pc ls st h K) (hx : am_s2 st fun x y st => ¬ y = 0 ∧ V rc rs nx ls (.int (x - x / y * y) :: st) h) : am_J l mi d rc rs pc ls st h K := by
  unfold am_s2 at hx
  split at hx
  · obtain ⟨hd, rfl⟩ := am_dc_use hck
    exact jr_irem hd hx.1 (hV _ _ _ _ _ _ hx.2)
  · exact hx.elim
theorem am_ok_25 (hck : (am_dc mi pc (.iand) 1 nx) = true) (hV : ∀ rc rs pc ls st h, V rc rs pc ls st h → am_J l mi d rc rs pc ls st h K) (hx : am_s2 st fun x y st => V rc rs nx ls (.int (x &&& y) :: st) h) : am_J l mi d rc rs pc ls st h K := by
  unfold am_s2 at hx
  split at hx
  · obtain ⟨hd, rfl⟩ := am_dc_use hck
    exact jr_iand hd  (hV _ _ _ _ _ _ hx)
  · exact hx.elim
theorem am_ok_26 (hck : (am_dc mi pc (.ior) 1 nx) = true) (hV : ∀ rc rs pc ls st h, V rc rs pc ls st h → am_J l mi d rc rs pc ls st h K) (hx : am_s2 st fun x y st => V rc rs nx ls (.int (x ||| y) :: st) h) : am_J l mi d rc rs pc ls st h K := by
  unfold am_s2 at hx
  split at hx
  · obtain ⟨hd, rfl⟩ := am_dc_use hck
    exact jr_ior hd  (hV _ _ _ _ _ _ hx)
  · exact hx.elim
theorem am_ok_27 (hck : (am_dc mi pc (.ixor) 1 nx) = true) (hV : ∀ rc rs pc ls st h, V rc rs pc ls st h → am_J l mi d rc rs pc ls st h K) (hx : am_s2 st fun x y st => V rc rs nx ls (.int (x ^^^ y) :: st) h) : am_J l mi d rc rs pc ls st h K := by
  unfold am_s2 at hx
  split at hx
  · obtain ⟨hd, rfl⟩ := am_dc_use hck
    exact jr_ixor hd  (hV _ _ _ _ _ _ hx)
  · exact hx.elim
theorem am_ok_28 (hck : (am_dc mi pc (.ishl) 1 nx) = true) (hV : ∀ rc rs pc ls st h, V rc rs pc ls st h → am_J l mi d rc rs pc ls st h K) (hx : am_s2 st fun x y st => V rc rs nx ls (.int (x <<< (y &&& 31)) :: st) h) : am_J l mi d rc rs pc ls st h K := by
  unfold am_s2 at hx
  split at hx
  · obtain ⟨hd, rfl⟩ := am_dc_use hck
    exact jr_ishl hd  (hV _ _ _ _ _ _ hx)
  · exact hx.elim
theorem am_ok_29 (hck : (am_dc mi pc (.ishr) 1 nx) = true) (hV : ∀ rc rs pc ls st h, V rc rs pc ls st h → am_J l mi d rc rs pc ls st h K) (hx : am_s2 st fun x y st => V rc rs nx ls (.int (x >>> (y &&& 31)) :: st) h) : am_J l mi d rc rs pc ls st h K := by
  unfold am_s2 at hx
  split at hx
  · obtain ⟨hd, rfl⟩ := am_dc_use hck
    exact jr_ishr hd  (hV _ _ _ _ _ _ hx)
  · exact hx.elim
theorem am_ok_30 (hck : (am_dc mi pc (.iushr) 1 nx) = true) (hV : ∀ rc rs pc ls st h, V rc rs pc ls st h → am_J l mi d rc rs pc ls st h K) (hx : am_s2 st fun x y st => V rc rs nx ls (.int ((x.toUInt32 >>> (y.toUInt32 &&& Int32.toUInt32 31)).toInt32) :: st) h) : am_J l mi d rc rs pc ls st h K := by
  unfold am_s2 at hx
  split at hx
  · obtain ⟨hd, rfl⟩ := am_dc_use hck
    exact jr_iushr hd  (hV _ _ _ _ _ _ hx)
  · exact hx.elim
theorem am_ok_31 (hck : (am_dc mi pc (.ladd) 1 nx) = true) (hV : ∀ rc rs pc ls st h, V rc rs pc ls st h → am_J l mi d rc rs pc ls st h K) (hx : am_t2 st fun x y st => V rc rs nx ls (.long (x + y) :: st) h) : am_J l mi d rc rs pc ls st h K := by
  unfold am_t2 at hx
  split at hx
  · obtain ⟨hd, rfl⟩ := am_dc_use hck
    exact jr_ladd hd  (hV _ _ _ _ _ _ hx)
  · exact hx.elim
theorem am_ok_32 (hck : (am_dc mi pc (.lmul) 1 nx) = true) (hV : ∀ rc rs pc ls st h, V rc rs pc ls st h → am_J l mi d rc rs pc ls st h K) (hx : am_t2 st fun x y st => V rc rs nx ls (.long (x * y) :: st) h) : am_J l mi d rc rs pc ls st h K := by
  unfold am_t2 at hx
  split at hx
  · obtain ⟨hd, rfl⟩ := am_dc_use hck
    exact jr_lmul hd  (hV _ _ _ _ _ _ hx)
  · exact hx.elim
theorem am_ok_33 (hck : (am_dc mi pc (.land) 1 nx) = true) (hV : ∀ rc rs pc ls st h, V rc rs pc ls st h → am_J l mi d rc rs pc ls st h K) (hx : am_t2 st fun x y st => V rc rs nx ls (.long (x &&& y) :: st) h) : am_J l mi d rc rs pc ls st h K := by
  unfold am_t2 at hx
  split at hx
  · obtain ⟨hd, rfl⟩ := am_dc_use hck
    exact jr_land hd  (hV _ _ _ _ _ _ hx)
  · exact hx.elim
theorem am_ok_34 (hck : (am_dc mi pc (.lor) 1 nx) = true) (hV : ∀ rc rs pc ls st h, V rc rs pc ls st h → am_J l mi d rc rs pc ls st h K) (hx : am_t2 st fun x y st => V rc rs nx ls (.long (x ||| y) :: st) h) : am_J l mi d rc rs pc ls st h K := by
  unfold am_t2 at hx
  split at hx
  · obtain ⟨hd, rfl⟩ := am_dc_use hck
    exact jr_lor hd  (hV _ _ _ _ _ _ hx)
  · exact hx.elim
theorem am_ok_35 (hck : (am_dc mi pc (.lshl) 1 nx) = true) (hV : ∀ rc rs pc ls st h, V rc rs pc ls st h → am_J l mi d rc rs pc ls st h K) (hx : am_st st fun x y st => V rc rs nx ls (.long (x <<< (y.toInt64 &&& 63)) :: st) h) : am_J l mi d rc rs pc ls st h K := by
  unfold am_st at hx
  split at hx
  · obtain ⟨hd, rfl⟩ := am_dc_use hck
    exact jr_lshl hd  (hV _ _ _ _ _ _ hx)
  · exact hx.elim
theorem am_ok_36 (hck : (am_dc mi pc (.lushr) 1 nx) = true) (hV : ∀ rc rs pc ls st h, V rc rs pc ls st h → am_J l mi d rc rs pc ls st h K) (hx : am_st st fun x y st => V rc rs nx ls (.long ((x.toUInt64 >>> (y.toInt64.toUInt64 &&& Int64.toUInt64 63)).toInt64) :: st) h) : am_J l mi d rc rs pc ls st h K := by
  unfold am_st at hx
  split at hx
  · obtain ⟨hd, rfl⟩ := am_dc_use hck
    exact jr_lushr hd  (hV _ _ _ _ _ _ hx)
  · exact hx.elim
theorem am_ok_37 (hck : (am_dc mi pc (.lcmp) 1 nx) = true) (hV : ∀ rc rs pc ls st h, V rc rs pc ls st h → am_J l mi d rc rs pc ls st h K) (hx : am_t2 st fun x y st => V rc rs nx ls (.int (lg_cmp x y) :: st) h) : am_J l mi d rc rs pc ls st h K := by
  unfold am_t2 at hx
  split at hx
  · obtain ⟨hd, rfl⟩ := am_dc_use hck
    exact jr_lcmp hd  (hV _ _ _ _ _ _ hx)
  · exact hx.elim
theorem am_ok_38 (hck : (am_dc mi pc (.i2l) 1 nx) = true) (hV : ∀ rc rs pc ls st h, V rc rs pc ls st h → am_J l mi d rc rs pc ls st h K) (hx : am_s1 st fun x st => V rc rs nx ls (.long x.toInt64 :: st) h) : am_J l mi d rc rs pc ls st h K := by
  unfold am_s1 at hx
  split at hx
  · obtain ⟨hd, rfl⟩ := am_dc_use hck
    exact jr_i2l hd  (hV _ _ _ _ _ _ hx)
  · exact hx.elim
theorem am_ok_39 (hck : (am_dc mi pc (.l2i) 1 nx) = true) (hV : ∀ rc rs pc ls st h, V rc rs pc ls st h → am_J l mi d rc rs pc ls st h K) (hx : am_t1 st fun x st => V rc rs nx ls (.int x.toInt32 :: st) h) : am_J l mi d rc rs pc ls st h K := by
  unfold am_t1 at hx
  split at hx
  · obtain ⟨hd, rfl⟩ := am_dc_use hck
    exact jr_l2i hd  (hV _ _ _ _ _ _ hx)
  · exact hx.elim
theorem am_ok_40 (hck : (am_dc mi pc (.i2b) 1 nx) = true) (hV : ∀ rc rs pc ls st h, V rc rs pc ls st h → am_J l mi d rc rs pc ls st h K) (hx : am_s1 st fun x st => V rc rs nx ls (.int x.toInt8.toInt32 :: st) h) : am_J l mi d rc rs pc ls st h K := by
  unfold am_s1 at hx
  split at hx
  · obtain ⟨hd, rfl⟩ := am_dc_use hck
    exact jr_i2b hd  (hV _ _ _ _ _ _ hx)
  · exact hx.elim
theorem am_ok_41 (hck : (am_dc mi pc (.i2c) 1 nx) = true) (hV : ∀ rc rs pc ls st h, V rc rs pc ls st h → am_J l mi d rc rs pc ls st h K) (hx : am_s1 st fun x st => V rc rs nx ls (.int (x.toUInt32 % 65536).toInt32 :: st) h) : am_J l mi d rc rs pc ls st h K := by
  unfold am_s1 at hx
  split at hx
  · obtain ⟨hd, rfl⟩ := am_dc_use hck
    exact jr_i2c hd  (hV _ _ _ _ _ _ hx)
  · exact hx.elim
theorem am_ok_42 (hck : (am_dc mi pc .dup 1 nx) = true) (hV : ∀ rc rs pc ls st h, V rc rs pc ls st h → am_J l mi d rc rs pc ls st h K) (hx : am_v1 st fun x st => am_nl (some x) ∧ V rc rs nx ls (x :: x :: st) h) : am_J l mi d rc rs pc ls st h K := by
  unfold am_v1 at hx
  split at hx
  · obtain ⟨hd, rfl⟩ := am_dc_use hck
    exact jr_dup hd hx.1 (hV _ _ _ _ _ _ hx.2)
  · exact hx.elim
theorem am_ok_43 (hck : (am_dc mi pc .pop 1 nx) = true) (hV : ∀ rc rs pc ls st h, V rc rs pc ls st h → am_J l mi d rc rs pc ls st h K) (hx : am_v1 st fun x st => am_nl (some x) ∧ V rc rs nx ls st h) : am_J l mi d rc rs pc ls st h K := by
  unfold am_v1 at hx
  split at hx
  · obtain ⟨hd, rfl⟩ := am_dc_use hck
    exact jr_pop hd hx.1 (hV _ _ _ _ _ _ hx.2)
  · exact hx.elim
theorem am_ok_44 (hck : (am_dc mi pc .dup2 1 nx) = true) (hV : ∀ rc rs pc ls st h, V rc rs pc ls st h → am_J l mi d rc rs pc ls st h K) (hx : am_v2 st fun x y st => am_nl (some x) ∧ am_nl (some y) ∧ V rc rs nx ls (x :: y :: x :: y :: st) h) : am_J l mi d rc rs pc ls st h K := by
  unfold am_v2 at hx
  split at hx
  · obtain ⟨hd, rfl⟩ := am_dc_use hck
    exact jr_dup2 hd hx.1 hx.2.1 (hV _ _ _ _ _ _ hx.2.2)
  · exact hx.elim
theorem am_ok_45 (hck : (am_dc mi pc (.aconst_null) 1 nx) = true) (hV : ∀ rc rs pc ls st h, V rc rs pc ls st h → am_J l mi d rc rs pc ls st h K) (hx : V rc rs nx ls (.null :: st) h) : am_J l mi d rc rs pc ls st h K := by
  obtain ⟨hd, rfl⟩ := am_dc_use hck
  exact jr_null hd  (hV _ _ _ _ _ _ hx)
theorem am_ok_50 (hck : (am_dc mi pc (.ifCond .eq ((a : Int) - (pc : Int))) 3 nx) = true) (hV : ∀ rc rs pc ls st h, V rc rs pc ls st h → am_J l mi d rc rs pc ls st h K) (hx : am_s1 st fun x st => (x = 0 → V rc rs a ls st h) ∧ (¬ x = 0 → V rc rs nx ls st h)) : am_J l mi d rc rs pc ls st h K := by
  unfold am_s1 at hx
  split at hx
  · obtain ⟨hd, rfl⟩ := am_dc_use hck
    exact jr_if_eq (tgt := a) hd (by omega) (fun hc => hV _ _ _ _ _ _ (hx.1 hc)) (fun hc => hV _ _ _ _ _ _ (hx.2 hc))
  · exact hx.elim
theorem am_ok_51 (hck : (am_dc mi pc (.ifCond .ne ((a : Int) - (pc : Int))) 3 nx) = true) (hV : ∀ rc rs pc ls st h, V rc rs pc ls st h → am_J l mi d rc rs pc ls st h K) (hx : am_s1 st fun x st => (¬ x = 0 → V rc rs a ls st h) ∧ (x = 0 → V rc rs nx ls st h)) : am_J l mi d rc rs pc ls st h K := by
  unfold am_s1 at hx
  split at hx
  · obtain ⟨hd, rfl⟩ := am_dc_use hck
    exact jr_if_ne (tgt := a) hd (by omega) (fun hc => hV _ _ _ _ _ _ (hx.1 hc)) (fun hc => hV _ _ _ _ _ _ (hx.2 hc))
  · exact hx.elim
theorem am_ok_52 (hck : (am_dc mi pc (.ifCond .lt ((a : Int) - (pc : Int))) 3 nx) = true) (hV : ∀ rc rs pc ls st h, V rc rs pc ls st h → am_J l mi d rc rs pc ls st h K) (hx : am_s1 st fun x st => (x < 0 → V rc rs a ls st h) ∧ (¬ x < 0 → V rc rs nx ls st h)) : am_J l mi d rc rs pc ls st h K := by
  unfold am_s1 at hx
  split at hx
  · obtain ⟨hd, rfl⟩ := am_dc_use hck
    exact jr_if_lt (tgt := a) hd (by omega) (fun hc => hV _ _ _ _ _ _ (hx.1 hc)) (fun hc => hV _ _ _ _ _ _ (hx.2 hc))
  · exact hx.elim
theorem am_ok_53 (hck : (am_dc mi pc (.ifCond .ge ((a : Int) - (pc : Int))) 3 nx) = true) (hV : ∀ rc rs pc ls st h, V rc rs pc ls st h → am_J l mi d rc rs pc ls st h K) (hx : am_s1 st fun x st => (0 ≤ x → V rc rs a ls st h) ∧ (¬ 0 ≤ x → V rc rs nx ls st h)) : am_J l mi d rc rs pc ls st h K := by
  unfold am_s1 at hx
  split at hx
  · obtain ⟨hd, rfl⟩ := am_dc_use hck
    exact jr_if_ge (tgt := a) hd (by omega) (fun hc => hV _ _ _ _ _ _ (hx.1 hc)) (fun hc => hV _ _ _ _ _ _ (hx.2 hc))
  · exact hx.elim
theorem am_ok_54 (hck : (am_dc mi pc (.ifCond .gt ((a : Int) - (pc : Int))) 3 nx) = true) (hV : ∀ rc rs pc ls st h, V rc rs pc ls st h → am_J l mi d rc rs pc ls st h K) (hx : am_s1 st fun x st => (0 < x → V rc rs a ls st h) ∧ (¬ 0 < x → V rc rs nx ls st h)) : am_J l mi d rc rs pc ls st h K := by
  unfold am_s1 at hx
  split at hx
  · obtain ⟨hd, rfl⟩ := am_dc_use hck
    exact jr_if_gt (tgt := a) hd (by omega) (fun hc => hV _ _ _ _ _ _ (hx.1 hc)) (fun hc => hV _ _ _ _ _ _ (hx.2 hc))
  · exact hx.elim
theorem am_ok_55 (hck : (am_dc mi pc (.ifCond .le ((a : Int) - (pc : Int))) 3 nx) = true) (hV : ∀ rc rs pc ls st h, V rc rs pc ls st h → am_J l mi d rc rs pc ls st h K) (hx : am_s1 st fun x st => (x ≤ 0 → V rc rs a ls st h) ∧ (¬ x ≤ 0 → V rc rs nx ls st h)) : am_J l mi d rc rs pc ls st h K := by
  unfold am_s1 at hx
  split at hx
  · obtain ⟨hd, rfl⟩ := am_dc_use hck
    exact jr_if_le (tgt := a) hd (by omega) (fun hc => hV _ _ _ _ _ _ (hx.1 hc)) (fun hc => hV _ _ _ _ _ _ (hx.2 hc))
  · exact hx.elim
theorem am_ok_56 (hck : (am_dc mi pc (.if_icmp .eq ((a : Int) - (pc : Int))) 3 nx) = true) (hV : ∀ rc rs pc ls st h, V rc rs pc ls st h → am_J l mi d rc rs pc ls st h K) (hx : am_s2 st fun x y st => (x = y → V rc rs a ls st h) ∧ (¬ x = y → V rc rs nx ls st h)) : am_J l mi d rc rs pc ls st h K := by
  unfold am_s2 at hx
  split at hx
  · obtain ⟨hd, rfl⟩ := am_dc_use hck
    exact jr_icmp_eq (tgt := a) hd (by omega) (fun hc => hV _ _ _ _ _ _ (hx.1 hc)) (fun hc => hV _ _ _ _ _ _ (hx.2 hc))
  · exact hx.elim
theorem am_ok_57 (hck : (am_dc mi pc (.if_icmp .ne ((a : Int) - (pc : Int))) 3 nx) = true) (hV : ∀ rc rs pc ls st h, V rc rs pc ls st h → am_J l mi d rc rs pc ls st h K) (hx : am_s2 st fun x y st => (¬ x = y → V rc rs a ls st h) ∧ (x = y → V rc rs nx ls st h)) : am_J l mi d rc rs pc ls st h K := by
  unfold am_s2 at hx
  split at hx
  · obtain ⟨hd, rfl⟩ := am_dc_use hck
    exact jr_icmp_ne (tgt := a) hd (by omega) (fun hc => hV _ _ _ _ _ _ (hx.1 hc)) (fun hc => hV _ _ _ _ _ _ (hx.2 hc))
  · exact hx.elim
theorem am_ok_58 (hck : (am_dc mi pc (.if_icmp .lt ((a : Int) - (pc : Int))) 3 nx) = true) (hV : ∀ rc rs pc ls st h, V rc rs pc ls st h → am_J l mi d rc rs pc ls st h K) (hx : am_s2 st fun x y st => (x < y → V rc rs a ls st h) ∧ (¬ x < y → V rc rs nx ls st h)) : am_J l mi d rc rs pc ls st h K := by
  unfold am_s2 at hx
  split at hx
  · obtain ⟨hd, rfl⟩ := am_dc_use hck
    exact jr_icmp_lt (tgt := a) hd (by omega) (fun hc => hV _ _ _ _ _ _ (hx.1 hc)) (fun hc => hV _ _ _ _ _ _ (hx.2 hc))
  · exact hx.elim
theorem am_ok_59 (hck : (am_dc mi pc (.if_icmp .ge ((a : Int) - (pc : Int))) 3 nx) = true) (hV : ∀ rc rs pc ls st h, V rc rs pc ls st h → am_J l mi d rc rs pc ls st h K) (hx : am_s2 st fun x y st => (y ≤ x → V rc rs a ls st h) ∧ (¬ y ≤ x → V rc rs nx ls st h)) : am_J l mi d rc rs pc ls st h K := by
  unfold am_s2 at hx
  split at hx
  · obtain ⟨hd, rfl⟩ := am_dc_use hck
    exact jr_icmp_ge (tgt := a) hd (by omega) (fun hc => hV _ _ _ _ _ _ (hx.1 hc)) (fun hc => hV _ _ _ _ _ _ (hx.2 hc))
  · exact hx.elim
theorem am_ok_60 (hck : (am_dc mi pc (.if_icmp .gt ((a : Int) - (pc : Int))) 3 nx) = true) (hV : ∀ rc rs pc ls st h, V rc rs pc ls st h → am_J l mi d rc rs pc ls st h K) (hx : am_s2 st fun x y st => (y < x → V rc rs a ls st h) ∧ (¬ y < x → V rc rs nx ls st h)) : am_J l mi d rc rs pc ls st h K := by
  unfold am_s2 at hx
  split at hx
  · obtain ⟨hd, rfl⟩ := am_dc_use hck
    exact jr_icmp_gt (tgt := a) hd (by omega) (fun hc => hV _ _ _ _ _ _ (hx.1 hc)) (fun hc => hV _ _ _ _ _ _ (hx.2 hc))
  · exact hx.elim
theorem am_ok_61 (hck : (am_dc mi pc (.if_icmp .le ((a : Int) - (pc : Int))) 3 nx) = true) (hV : ∀ rc rs pc ls st h, V rc rs pc ls st h → am_J l mi d rc rs pc ls st h K) (hx : am_s2 st fun x y st => (x ≤ y → V rc rs a ls st h) ∧ (¬ x ≤ y → V rc rs nx ls st h)) : am_J l mi d rc rs pc ls st h K := by
  unfold am_s2 at hx
  split at hx
  · obtain ⟨hd, rfl⟩ := am_dc_use hck
    exact jr_icmp_le (tgt := a) hd (by omega) (fun hc => hV _ _ _ _ _ _ (hx.1 hc)) (fun hc => hV _ _ _ _ _ _ (hx.2 hc))
  · exact hx.elim
theorem am_ok_62 (hck : (am_dc mi pc (.goto ((a : Int) - (pc : Int))) 3 nx) = true) (hV : ∀ rc rs pc ls st h, V rc rs pc ls st h → am_J l mi d rc rs pc ls st h K) (hx : V rc rs a ls st h) : am_J l mi d rc rs pc ls st h K := by
  obtain ⟨hd, rfl⟩ := am_dc_use hck
  exact jr_goto (tgt := a) hd (by omega) (hV _ _ _ _ _ _ hx)
theorem am_ok_63 (hck : (am_dc mi pc (.ifnonnull ((a : Int) - (pc : Int))) 3 nx) = true) (hV : ∀ rc rs pc ls st h, V rc rs pc ls st h → am_J l mi d rc rs pc ls st h K) (hx : am_v1 st fun x st => am_isA x ∧ (¬ x = .null → V rc rs a ls st h) ∧ (x = .null → V rc rs nx ls st h)) : am_J l mi d rc rs pc ls st h K := by
  unfold am_v1 at hx
  split at hx
  · obtain ⟨hd, rfl⟩ := am_dc_use hck
    exact jr_ifnonnull (tgt := a) hd (by omega) hx.1 (fun hc => hV _ _ _ _ _ _ (hx.2.1 hc)) (fun hc => hV _ _ _ _ _ _ (hx.2.2 hc))
  · exact hx.elim
theorem am_ok_64 (hck : (am_swk mi pc a b e v (tsw a)) = true) (hV : ∀ rc rs pc ls st h, V rc rs pc ls st h → am_J l mi d rc rs pc ls st h K) (hx : am_s1 st fun x st => am_sw x v (tsw a) b fun t => V rc rs t ls st h) : am_J l mi d rc rs pc ls st h K := by
  unfold am_s1 at hx
  split at hx
  · unfold am_swk at hck
    split at hck
    · rename_i df lo hi offs len hd
      simp only [Bool.and_eq_true, decide_eq_true_eq] at hck
      obtain ⟨⟨⟨⟨⟨h1, h2⟩, h3⟩, h4⟩, h5⟩, h6⟩ := hck
      rw [h6] at hx
      exact jr_switch hd h1 h2 h3 h4 h5 (am_sw_mono (fun t ht => hV _ _ _ _ _ _ ht) _ _ hx)
    · cases hck
  · exact hx.elim
theorem am_ok_70 (hck : (am_dc mi pc (.getfield idx) 3 nx && am_fl mi idx pos b a (fun T => am_int (T a).2.2.1)) = true) (hV : ∀ rc rs pc ls st h, V rc rs pc ls st h → am_J l mi d rc rs pc ls st h K) (hx : am_r1 st fun o st => am_S h o = (1, b) ∧ V rc rs nx ls (.int (am_I h o a) :: st) h) : am_J l mi d rc rs pc ls st h K := by
  unfold am_r1 at hx
  split at hx
  · rw [Bool.and_eq_true] at hck
    obtain ⟨hd, rfl⟩ := am_dc_use hck.1
    obtain ⟨C, T, N, hcl, hk, hF, hl⟩ := am_fl_use hck.2
    exact jr_get hd hcl hk (hl.imp id fun q => ⟨_, q⟩) hx.1 (fun G => by simp only [am_fv, hF, if_true]; rfl) (hV _ _ _ _ _ _ hx.2)
  · exact hx.elim
theorem am_ok_71 (hck : (am_dc mi pc (.getfield idx) 3 nx && am_fl mi idx pos b a (fun T => !(am_int (T a).2.2.1))) = true) (hV : ∀ rc rs pc ls st h, V rc rs pc ls st h → am_J l mi d rc rs pc ls st h K) (hx : am_r1 st fun o st => am_S h o = (1, b) ∧ V rc rs nx ls (am_rf (am_P h o a) :: st) h) : am_J l mi d rc rs pc ls st h K := by
  unfold am_r1 at hx
  split at hx
  · rw [Bool.and_eq_true] at hck
    obtain ⟨hd, rfl⟩ := am_dc_use hck.1
    obtain ⟨C, T, N, hcl, hk, hF, hl⟩ := am_fl_use hck.2
    exact jr_get hd hcl hk (hl.imp id fun q => ⟨_, q⟩) hx.1 (fun G => by simp only [am_fv]; rw [if_neg (by simpa using hF)]) (hV _ _ _ _ _ _ hx.2)
  · exact hx.elim
theorem am_ok_72 (hck : (am_dc mi pc (.putfield idx) 3 nx && am_pl mi idx pos b a (fun T => am_int (T a).2.2.1 && decide (parseFieldDescriptor (T a).2.2.1 = some .int))) = true) (hV : ∀ rc rs pc ls st h, V rc rs pc ls st h → am_J l mi d rc rs pc ls st h K) (hx : am_sr st fun o x st => am_S h o = (1, b) ∧ V rc rs nx ls st (am_wI h o a x)) : am_J l mi d rc rs pc ls st h K := by
  unfold am_sr at hx
  split at hx
  · rw [Bool.and_eq_true] at hck
    obtain ⟨hd, rfl⟩ := am_dc_use hck.1
    obtain ⟨C, T, N, hcl, hk, hF, hl⟩ := am_pl_use hck.2
    rw [Bool.and_eq_true, decide_eq_true_eq] at hF
    exact jr_put (h' := am_wI h _ _ _) hd hcl hk hl hx.1 hF.2 (fun G => rfl) (fun G => rfl) rfl rfl am_othI (fun G j _ => am_fvI hF.1 G j) (hV _ _ _ _ _ _ hx.2)
  · exact hx.elim
theorem am_ok_73 (hck : (am_dc mi pc (.putfield idx) 3 nx && am_pl mi idx pos b a (fun T => am_int (T a).2.2.1 && decide (parseFieldDescriptor (T a).2.2.1 = some .boolean))) = true) (hV : ∀ rc rs pc ls st h, V rc rs pc ls st h → am_J l mi d rc rs pc ls st h K) (hx : am_sr st fun o x st => am_S h o = (1, b) ∧ (x = 0 ∨ x = 1) ∧ V rc rs nx ls st (am_wI h o a x)) : am_J l mi d rc rs pc ls st h K := by
  unfold am_sr at hx
  split at hx
  · rw [Bool.and_eq_true] at hck
    obtain ⟨hd, rfl⟩ := am_dc_use hck.1
    obtain ⟨C, T, N, hcl, hk, hF, hl⟩ := am_pl_use hck.2
    rw [Bool.and_eq_true, decide_eq_true_eq] at hF
    exact jr_put (h' := am_wI h _ _ _) hd hcl hk hl hx.1 hF.2 (fun G => by rcases hx.2.1 with rfl | rfl <;> rfl) (fun G => by rcases hx.2.1 with rfl | rfl <;> rfl) rfl rfl am_othI (fun G j _ => am_fvI hF.1 G j) (hV _ _ _ _ _ _ hx.2.2)
  · exact hx.elim
theorem am_ok_74 (hck : (am_dc mi pc (.putfield idx) 3 nx && am_pl mi idx pos b a (fun T => !(am_int (T a).2.2.1) && am_isRefD (T a).2.2.1)) = true) (hV : ∀ rc rs pc ls st h, V rc rs pc ls st h → am_J l mi d rc rs pc ls st h K) (hx : am_rr st fun o q st => am_S h o = (1, b) ∧ V rc rs nx ls st (am_wP h o a q)) : am_J l mi d rc rs pc ls st h K := by
  unfold am_rr at hx
  split at hx
  · rw [Bool.and_eq_true] at hck
    obtain ⟨hd, rfl⟩ := am_dc_use hck.1
    obtain ⟨C, T, N, hcl, hk, hF, hl⟩ := am_pl_use hck.2
    rw [Bool.and_eq_true] at hF
    obtain ⟨ty, hty, hr⟩ := am_refD hF.2
    exact jr_put (h' := am_wP h _ _ _) hd hcl hk hl hx.1 hty (fun G => by rcases hr with ⟨n, rfl⟩ | ⟨t, rfl⟩ <;> rfl) (fun G => by rcases hr with ⟨n, rfl⟩ | ⟨t, rfl⟩ <;> rfl) rfl rfl am_othP (fun G j _ => am_fvP (by simpa using hF.1) G j) (hV _ _ _ _ _ _ hx.2)
  · rw [Bool.and_eq_true] at hck
    obtain ⟨hd, rfl⟩ := am_dc_use hck.1
    obtain ⟨C, T, N, hcl, hk, hF, hl⟩ := am_pl_use hck.2
    rw [Bool.and_eq_true] at hF
    obtain ⟨ty, hty, hr⟩ := am_refD hF.2
    exact jr_put (h' := am_wP h _ _ _) hd hcl hk hl hx.1 hty (fun G => by rcases hr with ⟨n, rfl⟩ | ⟨t, rfl⟩ <;> rfl) (fun G => by rcases hr with ⟨n, rfl⟩ | ⟨t, rfl⟩ <;> rfl) rfl rfl am_othP (fun G j _ => am_fvP (by simpa using hF.1) G j) (hV _ _ _ _ _ _ hx.2)
  · exact hx.elim
theorem am_ok_75 (hck : (am_dc mi pc .iaload 1 nx) = true) (hV : ∀ rc rs pc ls st h, V rc rs pc ls st h → am_J l mi d rc rs pc ls st h K) (hx : am_sr st fun o i st => am_arr 2 (am_S h o) fun n => vp_in i n ∧ V rc rs nx ls (.int (am_I h o i.toNatClampNeg) :: st) h) : am_J l mi d rc rs pc ls st h K := by
  unfold am_sr at hx
  split at hx
  · obtain ⟨hd, rfl⟩ := am_dc_use hck
    obtain ⟨h1, h2, h3⟩ := hx
    exact jr_iald hd (show am_S h _ = (_, (am_S h _).2) by rw [← h1]) h2 (hV _ _ _ _ _ _ h3)
  · exact hx.elim
theorem am_ok_76 (hck : (am_dc mi pc .baload 1 nx) = true) (hV : ∀ rc rs pc ls st h, V rc rs pc ls st h → am_J l mi d rc rs pc ls st h K) (hx : am_sr st fun o i st => am_arr 3 (am_S h o) fun n => vp_in i n ∧ V rc rs nx ls (.int (am_I h o i.toNatClampNeg) :: st) h) : am_J l mi d rc rs pc ls st h K := by
  unfold am_sr at hx
  split at hx
  · obtain ⟨hd, rfl⟩ := am_dc_use hck
    obtain ⟨h1, h2, h3⟩ := hx
    exact jr_bald hd (show am_S h _ = (_, (am_S h _).2) by rw [← h1]) h2 (hV _ _ _ _ _ _ h3)
  · exact hx.elim
theorem am_ok_77 (hck : (am_dc mi pc .laload 1 nx) = true) (hV : ∀ rc rs pc ls st h, V rc rs pc ls st h → am_J l mi d rc rs pc ls st h K) (hx : am_sr st fun o i st => am_arr 4 (am_S h o) fun n => vp_in i n ∧ V rc rs nx ls (.long (am_L h o i.toNatClampNeg) :: st) h) : am_J l mi d rc rs pc ls st h K := by
  unfold am_sr at hx
  split at hx
  · obtain ⟨hd, rfl⟩ := am_dc_use hck
    obtain ⟨h1, h2, h3⟩ := hx
    exact jr_lald hd (show am_S h _ = (_, (am_S h _).2) by rw [← h1]) h2 (hV _ _ _ _ _ _ h3)
  · exact hx.elim
theorem am_ok_78 (hck : (am_dc mi pc .iastore 1 nx) = true) (hV : ∀ rc rs pc ls st h, V rc rs pc ls st h → am_J l mi d rc rs pc ls st h K) (hx : am_ssr st fun o i x st => am_arr 2 (am_S h o) fun n => vp_in i n ∧ V rc rs nx ls st (am_wI h o i.toNatClampNeg x)) : am_J l mi d rc rs pc ls st h K := by
  unfold am_ssr at hx
  split at hx
  · obtain ⟨hd, rfl⟩ := am_dc_use hck
    obtain ⟨h1, h2, h3⟩ := hx
    exact jr_iast hd (show am_S h _ = (_, (am_S h _).2) by rw [← h1]) h2 (hV _ _ _ _ _ _ h3)
  · exact hx.elim
theorem am_ok_79 (hck : (am_dc mi pc .bastore 1 nx) = true) (hV : ∀ rc rs pc ls st h, V rc rs pc ls st h → am_J l mi d rc rs pc ls st h K) (hx : am_ssr st fun o i x st => am_arr 3 (am_S h o) fun n => vp_in i n ∧ narrow .byte (.int x) = .int x ∧ V rc rs nx ls st (am_wI h o i.toNatClampNeg x)) : am_J l mi d rc rs pc ls st h K := by
  unfold am_ssr at hx
  split at hx
  · obtain ⟨hd, rfl⟩ := am_dc_use hck
    obtain ⟨h1, h2, h4, h3⟩ := hx
    exact jr_bast hd (show am_S h _ = (_, (am_S h _).2) by rw [← h1]) h2 h4 (hV _ _ _ _ _ _ h3)
  · exact hx.elim
theorem am_ok_80 (hck : (am_dc mi pc .lastore 1 nx) = true) (hV : ∀ rc rs pc ls st h, V rc rs pc ls st h → am_J l mi d rc rs pc ls st h K) (hx : am_tsr st fun o i x st => am_arr 4 (am_S h o) fun n => vp_in i n ∧ V rc rs nx ls st (am_wL h o i.toNatClampNeg x)) : am_J l mi d rc rs pc ls st h K := by
  unfold am_tsr at hx
  split at hx
  · obtain ⟨hd, rfl⟩ := am_dc_use hck
    obtain ⟨h1, h2, h3⟩ := hx
    exact jr_last hd (show am_S h _ = (_, (am_S h _).2) by rw [← h1]) h2 (hV _ _ _ _ _ _ h3)
  · exact hx.elim
theorem am_ok_81 (hck : (am_dc mi pc .arraylength 1 nx) = true) (hV : ∀ rc rs pc ls st h, V rc rs pc ls st h → am_J l mi d rc rs pc ls st h K) (hx : am_r1 st fun o st => ((am_S h o).1 = 2 ∨ (am_S h o).1 = 3 ∨ (am_S h o).1 = 4 ∨ (am_S h o).1 = 5) ∧ V rc rs nx ls (.int (Int32.ofNat (am_S h o).2) :: st) h) : am_J l mi d rc rs pc ls st h K := by
  unfold am_r1 at hx
  split at hx
  · obtain ⟨hd, rfl⟩ := am_dc_use hck
    exact jr_alen hd (show am_S h _ = ((am_S h _).1, (am_S h _).2) from rfl) hx.1 (hV _ _ _ _ _ _ hx.2)
  · exact hx.elim
theorem am_ok_85 (hck : (am_dc mi pc (.invokestatic idx) 3 nx && am_wd pos (.methodLink (am_y mi).cls idx Lib.Math.min.name)) = true) (hV : ∀ rc rs pc ls st h, V rc rs pc ls st h → am_J l mi d rc rs pc ls st h K) (hx : am_s2 st fun x y st => am_d st ≤ 8 ∧ V rc rs nx ls (.int (if y < x then y else x) :: st) h) : am_J l mi d rc rs pc ls st h K := by
  unfold am_s2 at hx
  split at hx
  · rw [Bool.and_eq_true] at hck
    obtain ⟨hd, rfl⟩ := am_dc_use hck.1
    exact jr_min hd (am_wd_use hck.2) hx.1 (hV _ _ _ _ _ _ hx.2)
  · exact hx.elim
theorem am_ok_86 (hck : (am_dc mi pc (.invokestatic idx) 3 nx && am_wd pos (.methodLink (am_y mi).cls idx Lib.Math.max.name)) = true) (hV : ∀ rc rs pc ls st h, V rc rs pc ls st h → am_J l mi d rc rs pc ls st h K) (hx : am_s2 st fun x y st => am_d st ≤ 8 ∧ V rc rs nx ls (.int (if x < y then y else x) :: st) h) : am_J l mi d rc rs pc ls st h K := by
  unfold am_s2 at hx
  split at hx
  · rw [Bool.and_eq_true] at hck
    obtain ⟨hd, rfl⟩ := am_dc_use hck.1
    exact jr_max hd (am_wd_use hck.2) hx.1 (hV _ _ _ _ _ _ hx.2)
  · exact hx.elim
theorem am_ok_87 (hck : (am_dc mi pc (.ldc idx) 2 nx && am_wd pos (.constant (am_y mi).cls idx v)) = true) (hV : ∀ rc rs pc ls st h, V rc rs pc ls st h → am_J l mi d rc rs pc ls st h K) (hx : V rc rs nx ls (.int v :: st) h) : am_J l mi d rc rs pc ls st h K := by
  rw [Bool.and_eq_true] at hck
  obtain ⟨hd, rfl⟩ := am_dc_use hck.1
  exact jr_ldc hd (am_wd_use hck.2) (hV _ _ _ _ _ _ hx)
theorem am_ok_88 (hck : (am_dc mi pc (.ldc_w idx) 3 nx && am_wd pos (.constant (am_y mi).cls idx v)) = true) (hV : ∀ rc rs pc ls st h, V rc rs pc ls st h → am_J l mi d rc rs pc ls st h K) (hx : V rc rs nx ls (.int v :: st) h) : am_J l mi d rc rs pc ls st h K := by
  rw [Bool.and_eq_true] at hck
  obtain ⟨hd, rfl⟩ := am_dc_use hck.1
  exact jr_ldcw hd (am_wd_use hck.2) (hV _ _ _ _ _ _ hx)
theorem am_ok_89 (hck : (am_dc mi pc (.ldc2_w idx) 3 nx && am_wd pos (.constantLong (am_y mi).cls idx (am_lng.getD a 0))) = true) (hV : ∀ rc rs pc ls st h, V rc rs pc ls st h → am_J l mi d rc rs pc ls st h K) (hx : V rc rs nx ls (.long (am_lng.getD a 0) :: st) h) : am_J l mi d rc rs pc ls st h K := by
  rw [Bool.and_eq_true] at hck
  obtain ⟨hd, rfl⟩ := am_dc_use hck.1
  exact jr_ldc2 hd (am_wd_use hck.2) (hV _ _ _ _ _ _ hx)
theorem am_ok_90 (hck : (am_dc mi pc (.ldc idx) 2 nx && decide ((am_strs[a]?).map (fun q => (q.1, q.2.1)) = some ((am_y mi).cls, idx)) && decide (a < 1000)) = true) (hV : ∀ rc rs pc ls st h, V rc rs pc ls st h → am_J l mi d rc rs pc ls st h K) (hx : V rc rs nx ls (.float (UInt32.ofNat a) :: st) h) : am_J l mi d rc rs pc ls st h K := by
  rw [Bool.and_eq_true, Bool.and_eq_true, decide_eq_true_eq, decide_eq_true_eq] at hck
  obtain ⟨hd, rfl⟩ := am_dc_use hck.1.1
  have hs := hck.1.2
  cases hq : am_strs[a]? with
  | none => rw [hq] at hs; cases hs
  | some q =>
    rw [hq] at hs
    obtain ⟨q1, q2, q3⟩ := q
    simp only [Option.map_some, Option.some.injEq, Prod.mk.injEq] at hs
    obtain ⟨rfl, rfl⟩ := hs
    exact jr_ldcS hd hq hck.2 (hV _ _ _ _ _ _ hx)
theorem am_ok_91 (hck : (am_dc mi pc (.invokespecial idx) 3 nx && am_wd pos (.methodLink (am_y mi).cls idx Lib.objectInit)) = true) (hV : ∀ rc rs pc ls st h, V rc rs pc ls st h → am_J l mi d rc rs pc ls st h K) (hx : am_r1 st fun _ st => am_d st ≤ 8 ∧ V rc rs nx ls st h) : am_J l mi d rc rs pc ls st h K := by
  unfold am_r1 at hx
  split at hx
  · rw [Bool.and_eq_true] at hck
    obtain ⟨hd, rfl⟩ := am_dc_use hck.1
    exact jr_objInit hd (am_wd_use hck.2) am_oi1 am_oi2 hx.1 (hV _ _ _ _ _ _ hx.2)
  · exact hx.elim
theorem am_ok_92 (hck : (am_dc mi pc (.new idx) 3 nx && am_nk mi idx pos a b (pos2 % 4096) (pos2 / 4096)) = true) (hV : ∀ rc rs pc ls st h, V rc rs pc ls st h → am_J l mi d rc rs pc ls st h K) (hx : 1 ≤ rc ∧ a ≤ rs ∧ V (rc - 1) (rs - a) nx ls (.ref (am_N h) :: st) (am_nw h (1, b))) : am_J l mi d rc rs pc ls st h K := by
  rw [Bool.and_eq_true] at hck
  obtain ⟨hd, rfl⟩ := am_dc_use hck.1
  have hck := hck.2
  unfold am_nk at hck
  split at hck
  · rename_i C T N hcl
    simp only [Bool.and_eq_true, decide_eq_true_eq] at hck
    obtain ⟨⟨⟨⟨rfl, h1⟩, h2⟩, h3⟩, h4⟩ := hck
    obtain ⟨g1, g2, g3⟩ := hx
    have hJ := jr_new (l := l) (d := d) (rc := rc - 1) (rs := rs - a) (ls := ls) (h := h) (K := K) hd hcl (am_wd_use h1) (am_wd_use h2) (am_wd_use h3) (fun k hk => by
        have h5 := List.all_eq_true.mp h4 k (List.mem_range.mpr hk)
        split at h5
        · rename_i ty e1; exact ⟨ty, e1, h5⟩
        · cases h5) (hV _ _ _ _ _ _ g3)
    rwa [Nat.sub_add_cancel g1, Nat.sub_add_cancel g2] at hJ
  · cases hck
theorem am_ok_93 (hck : (am_ak pos a (fun i => am_dc mi pc i 2 nx)) = true) (hV : ∀ rc rs pc ls st h, V rc rs pc ls st h → am_J l mi d rc rs pc ls st h K) (hx : am_s1 st fun x st => ¬ x < 0 ∧ x.toNatClampNeg ≤ 1000000 ∧ 1 ≤ rc ∧ x.toNatClampNeg ≤ rs ∧ V (rc - 1) (rs - x.toNatClampNeg) nx ls (.ref (am_N h) :: st) (am_nw h (a, x.toNatClampNeg))) : am_J l mi d rc rs pc ls st h K := by
  unfold am_s1 at hx
  split at hx
  · simp only [am_ak, Bool.or_eq_true, Bool.and_eq_true, decide_eq_true_eq] at hck
    obtain ⟨g1, g2, g3, g4, g5⟩ := hx
    rcases hck with (⟨⟨rfl, h1⟩, h2⟩ | ⟨⟨rfl, h1⟩, h2⟩) | ⟨⟨rfl, h1⟩, h2⟩
    · obtain ⟨hd, rfl⟩ := am_dc_use h1
      have hJ := jr_newa (l := l) (d := d) (rc := rc - 1) (ls := ls) (h := h) (K := K) (t := 2) (ty := .int) hd rfl (Or.inl ⟨rfl, rfl⟩) (am_wd_use h2) g1 rfl g2 (hV _ _ _ _ _ _ g5)
      rwa [Nat.sub_add_cancel g3, Nat.sub_add_cancel g4] at hJ
    · obtain ⟨hd, rfl⟩ := am_dc_use h1
      have hJ := jr_newa (l := l) (d := d) (rc := rc - 1) (ls := ls) (h := h) (K := K) (t := 3) (ty := .byte) hd rfl (Or.inr (Or.inl ⟨rfl, rfl⟩)) (am_wd_use h2) g1 rfl g2 (hV _ _ _ _ _ _ g5)
      rwa [Nat.sub_add_cancel g3, Nat.sub_add_cancel g4] at hJ
    · obtain ⟨hd, rfl⟩ := am_dc_use h1
      have hJ := jr_newa (l := l) (d := d) (rc := rc - 1) (ls := ls) (h := h) (K := K) (t := 4) (ty := .long) hd rfl (Or.inr (Or.inr ⟨rfl, rfl⟩)) (am_wd_use h2) g1 rfl g2 (hV _ _ _ _ _ _ g5)
      rwa [Nat.sub_add_cancel g3, Nat.sub_add_cancel g4] at hJ
  · exact hx.elim
theorem am_ok_95 (hck : (am_dc mi pc .iaload 1 nx) = true) (hV : ∀ rc rs pc ls st h, V rc rs pc ls st h → am_J l mi d rc rs pc ls st h K) (hx : am_sf st fun i st => vp_in i l.2.1 ∧ V rc rs nx ls (.int (l.2.2 i.toNatClampNeg) :: st) h) : am_J l mi d rc rs pc ls st h K := by
  unfold am_sf at hx
  split at hx
  · obtain ⟨hd, rfl⟩ := am_dc_use hck
    obtain ⟨hx9, hx1, hx2⟩ := hx
    subst hx9
    exact jr_sld hd hx1 (hV _ _ _ _ _ _ hx2)
  · exact hx.elim
theorem am_ok_96 (hck : (am_dc mi pc .arraylength 1 nx) = true) (hV : ∀ rc rs pc ls st h, V rc rs pc ls st h → am_J l mi d rc rs pc ls st h K) (hx : am_f1 st fun st => V rc rs nx ls (.int (Int32.ofNat l.2.1) :: st) h) : am_J l mi d rc rs pc ls st h K := by
  unfold am_f1 at hx
  split at hx
  · obtain ⟨hd, rfl⟩ := am_dc_use hck
    obtain ⟨hx9, hx2⟩ := hx
    subst hx9
    exact jr_slen hd (hV _ _ _ _ _ _ hx2)
  · exact hx.elim
theorem am_ok_100 (hck : (am_dc mi pc (.invokevirtual idx) 3 nx && am_call mi a idx pos b (pos2 / 16777216) && am_ik e a (pos2 % 4096) (pos2 / 4096 % 4096)) = true) (hV : ∀ rc rs pc ls st h, V rc rs pc ls st h → am_J l mi d rc rs pc ls st h K) (hx : am_pop b st [] fun as st => am_r1 st fun o st => am_S h o = (1, e) ∧ am_d st ≤ 8 ∧ 1 ≤ d ∧ am_M l (d - 1) 0 0 a (.ref o :: as) h (fun r h' => am_ok r (fun v => am_J l mi d rc rs nx ls (am_push v st) h' K))) : am_J l mi d rc rs pc ls st h K := by
  rw [Bool.and_eq_true, Bool.and_eq_true] at hck
  obtain ⟨hd, rfl⟩ := am_dc_use hck.1.1
  have hl := am_call_use hck.1.2
  have hck := hck.2
  unfold am_ik at hck
  split at hck
  · rename_i C T N hcl
    simp only [Bool.and_eq_true, decide_eq_true_eq] at hck
    obtain ⟨⟨rfl, h1⟩, h2⟩ := hck
    obtain ⟨as, rest, e1, e2, e3⟩ := am_pop_use hx
    rw [List.append_nil] at e3
    unfold am_r1 at e3
    split at e3
    · obtain ⟨g1, g2, g3, g4⟩ := e3
      rw [e2]
      obtain ⟨d9, rfl⟩ : ∃ d9, d = d9 + 1 := ⟨d - 1, by omega⟩
      have hJ := jr_invV (rc1 := 0) (rs1 := 0) (rc := rc) (rs := rs) (ls := ls) (K := K) hd hl (am_wd_use h1) (am_wd_use h2) hcl g1 e1 g2 g4
      rwa [Nat.zero_add, Nat.zero_add] at hJ
    · exact e3.elim
  · cases hck
theorem am_ok_101 (hck : (am_dc mi pc (.invokestatic idx) 3 nx && am_call mi a idx pos b (pos2 / 16777216) && am_wd (pos2 % 4096) (.static (am_y a))) = true) (hV : ∀ rc rs pc ls st h, V rc rs pc ls st h → am_J l mi d rc rs pc ls st h K) (hx : am_pop b st [] fun as st => am_d st ≤ 8 ∧ 1 ≤ d ∧ am_M l (d - 1) 0 0 a as h (fun r h' => am_ok r (fun v => am_J l mi d rc rs nx ls (am_push v st) h' K))) : am_J l mi d rc rs pc ls st h K := by
  rw [Bool.and_eq_true, Bool.and_eq_true] at hck
  obtain ⟨hd, rfl⟩ := am_dc_use hck.1.1
  have hl := am_call_use hck.1.2
  obtain ⟨as, rest, e1, e2, e3⟩ := am_pop_use hx
  rw [List.append_nil] at e3
  obtain ⟨g2, g3, g4⟩ := e3
  rw [e2]
  obtain ⟨d9, rfl⟩ : ∃ d9, d = d9 + 1 := ⟨d - 1, by omega⟩
  have hJ := jr_invS (rc1 := 0) (rs1 := 0) (rc := rc) (rs := rs) (ls := ls) (K := K) hd hl (am_wd_use hck.2) e1 g2 g4
  rwa [Nat.zero_add, Nat.zero_add] at hJ
theorem am_ok_110 (hck : (am_dc mi pc .ireturn 1 nx && decide (am_r mi = some .int)) = true) (hV : ∀ rc rs pc ls st h, V rc rs pc ls st h → am_J l mi d rc rs pc ls st h K) (hx : am_s1 st fun x st => am_e st (K (.inl (some (.int x))) h)) : am_J l mi d rc rs pc ls st h K := by
  unfold am_s1 at hx
  split at hx
  · unfold am_e at hx
    split at hx
    · rw [Bool.and_eq_true, decide_eq_true_eq] at hck
      exact jr_ireturn (am_dc_use hck.1).1 ⟨.int, hck.2, rfl⟩ hx
    · exact hx.elim
  · exact hx.elim
theorem am_ok_111 (hck : (am_dc mi pc .ireturn 1 nx && decide (am_r mi = some .boolean)) = true) (hV : ∀ rc rs pc ls st h, V rc rs pc ls st h → am_J l mi d rc rs pc ls st h K) (hx : am_s1 st fun x st => am_e st ((x = 0 ∨ x = 1) ∧ K (.inl (some (.int x))) h)) : am_J l mi d rc rs pc ls st h K := by
  unfold am_s1 at hx
  split at hx
  · unfold am_e at hx
    split at hx
    · rw [Bool.and_eq_true, decide_eq_true_eq] at hck
      exact jr_ireturn (am_dc_use hck.1).1 ⟨.boolean, hck.2, by rcases hx.1 with rfl | rfl <;> rfl⟩ hx.2
    · exact hx.elim
  · exact hx.elim
theorem am_ok_112 (hck : (am_dc mi pc .lreturn 1 nx && decide (am_r mi = some .long)) = true) (hV : ∀ rc rs pc ls st h, V rc rs pc ls st h → am_J l mi d rc rs pc ls st h K) (hx : am_t1 st fun x st => am_e st (K (.inl (some (.long x))) h)) : am_J l mi d rc rs pc ls st h K := by
  unfold am_t1 at hx
  split at hx
  · unfold am_e at hx
    split at hx
    · rw [Bool.and_eq_true, decide_eq_true_eq] at hck
      exact jr_lreturn (am_dc_use hck.1).1 hck.2 hx
    · exact hx.elim
  · exact hx.elim
theorem am_ok_113 (hck : (am_dc mi pc .areturn 1 nx && am_rtA (am_r mi)) = true) (hV : ∀ rc rs pc ls st h, V rc rs pc ls st h → am_J l mi d rc rs pc ls st h K) (hx : am_r1 st fun o st => am_e st (K (.inl (some (.ref o))) h)) : am_J l mi d rc rs pc ls st h K := by
  unfold am_r1 at hx
  split at hx
  · unfold am_e at hx
    split at hx
    · rw [Bool.and_eq_true] at hck
      exact jr_areturn (am_dc_use hck.1).1 (am_rtA_use hck.2) hx
    · exact hx.elim
  · exact hx.elim
theorem am_ok_114 (hck : (am_dc mi pc .return_ 1 nx && decide (am_r mi = none)) = true) (hV : ∀ rc rs pc ls st h, V rc rs pc ls st h → am_J l mi d rc rs pc ls st h K) (hx : am_e st (K (.inl none) h)) : am_J l mi d rc rs pc ls st h K := by
  unfold am_e at hx
  split at hx
  · rw [Bool.and_eq_true, decide_eq_true_eq] at hck
    exact jr_return (am_dc_use hck.1).1 hck.2 hx
  · exact hx.elim
theorem am_ok_200 (hck : (true) = true) (hV : ∀ rc rs pc ls st h, V rc rs pc ls st h → am_J l mi d rc rs pc ls st h K) (hx : am_J l mi d rc rs pc ls st h K) : am_J l mi d rc rs pc ls st h K := by
  exact hx
theorem am_ex_ok {t : Am_I} (hck : am_ck mi pc t idx pos pos2 tsw = true) (hV : ∀ rc rs pc ls st h, V rc rs pc ls st h → am_J l mi d rc rs pc ls st h K) (hx : am_ex l mi d rc rs pc t ls st h K tsw V) : am_J l mi d rc rs pc ls st h K := by
  obtain ⟨op, v, a, b, e, nx, hd⟩ := t
  simp only [am_ck, Bool.and_eq_true, decide_eq_true_eq] at hck
  obtain ⟨hop, hck⟩ := hck
  match hd, hx with
  | hd + 1, hx => exact hx
  | 0, hx =>
    have hx : am_op l mi d rc rs pc v a b e nx ls st h K tsw V op := hx
    simp only [am_ops, List.mem_cons, List.not_mem_nil, or_false] at hop
    rcases hop with rfl | rfl | rfl | rfl | rfl | rfl | rfl | rfl | rfl | rfl | rfl | rfl | rfl | rfl | rfl | rfl | rfl | rfl | rfl | rfl | rfl | rfl | rfl | rfl | rfl | rfl | rfl | rfl | rfl | rfl | rfl | rfl | rfl | rfl | rfl | rfl | rfl | rfl | rfl | rfl | rfl | rfl | rfl | rfl | rfl | rfl | rfl | rfl | rfl | rfl | rfl | rfl | rfl | rfl | rfl | rfl | rfl | rfl | rfl | rfl | rfl | rfl | rfl | rfl | rfl | rfl | rfl | rfl | rfl | rfl | rfl | rfl | rfl | rfl | rfl | rfl | rfl | rfl | rfl | rfl | rfl | rfl | rfl | rfl | rfl | rfl | rfl | rfl | rfl
    · exact am_ok_1 hck hV hx
    · exact am_ok_2 hck hV hx
    · exact am_ok_3 hck hV hx
    · exact am_ok_4 hck hV hx
    · exact am_ok_5 hck hV hx
    · exact am_ok_6 hck hV hx
    · exact am_ok_7 hck hV hx
    · exact am_ok_8 hck hV hx
    · exact am_ok_9 hck hV hx
    · exact am_ok_10 hck hV hx
    · exact am_ok_11 hck hV hx
    · exact am_ok_12 hck hV hx
    · exact am_ok_13 hck hV hx
    · exact am_ok_14 hck hV hx
    · exact am_ok_15 hck hV hx
    · exact am_ok_16 hck hV hx
    · exact am_ok_17 hck hV hx
    · exact am_ok_20 hck hV hx
    · exact am_ok_21 hck hV hx
    · exact am_ok_22 hck hV hx
    · exact am_ok_23 hck hV hx
    · exact am_ok_24 hck hV hx
    · exact am_ok_25 hck hV hx
    · exact am_ok_26 hck hV hx
    · exact am_ok_27 hck hV hx
    · exact am_ok_28 hck hV hx
    · exact am_ok_29 hck hV hx
    · exact am_ok_30 hck hV hx
    · exact am_ok_31 hck hV hx
    · exact am_ok_32 hck hV hx
    · exact am_ok_33 hck hV hx
    · exact am_ok_34 hck hV hx
    · exact am_ok_35 hck hV hx
    · exact am_ok_36 hck hV hx
    · exact am_ok_37 hck hV hx
    · exact am_ok_38 hck hV hx
    · exact am_ok_39 hck hV hx
    · exact am_ok_40 hck hV hx
    · exact am_ok_41 hck hV hx
    · exact am_ok_42 hck hV hx
    · exact am_ok_43 hck hV hx
    · exact am_ok_44 hck hV hx
    · exact am_ok_45 hck hV hx
    · exact am_ok_50 hck hV hx
    · exact am_ok_51 hck hV hx
    · exact am_ok_52 hck hV hx
    · exact am_ok_53 hck hV hx
    · exact am_ok_54 hck hV hx
    · exact am_ok_55 hck hV hx
    · exact am_ok_56 hck hV hx
    · exact am_ok_57 hck hV hx
    · exact am_ok_58 hck hV hx
    · exact am_ok_59 hck hV hx
    · exact am_ok_60 hck hV hx
    · exact am_ok_61 hck hV hx
    · exact am_ok_62 hck hV hx
    · exact am_ok_63 hck hV hx
    · exact am_ok_64 hck hV hx
    · exact am_ok_70 hck hV hx
    · exact am_ok_71 hck hV hx
    · exact am_ok_72 hck hV hx
    · exact am_ok_73 hck hV hx
    · exact am_ok_74 hck hV hx
    · exact am_ok_75 hck hV hx
    · exact am_ok_76 hck hV hx
    · exact am_ok_77 hck hV hx
    · exact am_ok_78 hck hV hx
    · exact am_ok_79 hck hV hx
    · exact am_ok_80 hck hV hx
    · exact am_ok_81 hck hV hx
    · exact am_ok_85 hck hV hx
    · exact am_ok_86 hck hV hx
    · exact am_ok_87 hck hV hx
    · exact am_ok_88 hck hV hx
    · exact am_ok_89 hck hV hx
    · exact am_ok_90 hck hV hx
    · exact am_ok_91 hck hV hx
    · exact am_ok_92 hck hV hx
    · exact am_ok_93 hck hV hx
    · exact am_ok_95 hck hV hx
    · exact am_ok_96 hck hV hx
    · exact am_ok_100 hck hV hx
    · exact am_ok_101 hck hV hx
    · exact am_ok_110 hck hV hx
    · exact am_ok_111 hck hV hx
    · exact am_ok_112 hck hV hx
    · exact am_ok_113 hck hV hx
    · exact am_ok_114 hck hV hx
    · exact am_ok_200 hck hV hx
end
