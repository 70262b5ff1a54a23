/-! the rules of the abstract machine: an instruction each (made by wip/tools/rules.py) -/
theorem jr_iconst {l : Am_L} {mi d rc rs pc : Nat} {ls : List (Option Value)} {st : List Value} {h : Am_H} {K : Am_R → Am_H → Prop} {n : Int} {v : Int32} (hd : decode (am_b mi) pc = .ok (.iconst n, 1)) (hv : Int32.ofInt n = v) (k : am_J l mi d rc rs (pc + 1) ls (.int v :: st) h K) : am_J l mi d rc rs pc ls st h K := by
  intro p e R s m args below meth c G H locs cells slots Q arr X hw hS hV hF
  exact lv_iconst X.1.1 X.1.2.1 hd hv (k p e R s m args below meth c G H locs cells slots Q arr X hw hS hV hF)
theorem jr_bipush {l : Am_L} {mi d rc rs pc : Nat} {ls : List (Option Value)} {st : List Value} {h : Am_H} {K : Am_R → Am_H → Prop} {n : Int} {v : Int32} (hd : decode (am_b mi) pc = .ok (.bipush n, 2)) (hv : (Int8.ofInt n).toInt32 = v) (k : am_J l mi d rc rs (pc + 2) ls (.int v :: st) h K) : am_J l mi d rc rs pc ls st h K := by
  intro p e R s m args below meth c G H locs cells slots Q arr X hw hS hV hF
  exact lv_bipush X.1.1 X.1.2.1 hd hv (k p e R s m args below meth c G H locs cells slots Q arr X hw hS hV hF)
theorem jr_sipush {l : Am_L} {mi d rc rs pc : Nat} {ls : List (Option Value)} {st : List Value} {h : Am_H} {K : Am_R → Am_H → Prop} {n : Int} {v : Int32} (hd : decode (am_b mi) pc = .ok (.sipush n, 3)) (hv : (Int16.ofInt n).toInt32 = v) (k : am_J l mi d rc rs (pc + 3) ls (.int v :: st) h K) : am_J l mi d rc rs pc ls st h K := by
  intro p e R s m args below meth c G H locs cells slots Q arr X hw hS hV hF
  exact lv_sipush X.1.1 X.1.2.1 hd hv (k p e R s m args below meth c G H locs cells slots Q arr X hw hS hV hF)
theorem jr_lconst {l : Am_L} {mi d rc rs pc : Nat} {ls : List (Option Value)} {st : List Value} {h : Am_H} {K : Am_R → Am_H → Prop} {n : Fin 2} {v : Int64} (hd : decode (am_b mi) pc = .ok (.lconst n, 1)) (hv : Int64.ofNat (n : Nat) = v) (k : am_J l mi d rc rs (pc + 1) ls (.long v :: st) h K) : am_J l mi d rc rs pc ls st h K := by
  intro p e R s m args below meth c G H locs cells slots Q arr X hw hS hV hF
  exact lv_lconst X.1.1 X.1.2.1 hd hv (k p e R s m args below meth c G H locs cells slots Q arr X hw hS hV hF)
theorem jr_null {l : Am_L} {mi d rc rs pc : Nat} {ls : List (Option Value)} {st : List Value} {h : Am_H} {K : Am_R → Am_H → Prop}  (hd : decode (am_b mi) pc = .ok (.aconst_null, 1))  (k : am_J l mi d rc rs (pc + 1) ls (.null :: st) h K) : am_J l mi d rc rs pc ls st h K := by
  intro p e R s m args below meth c G H locs cells slots Q arr X hw hS hV hF
  exact lv_null X.1.1 X.1.2.1 hd (k p e R s m args below meth c G H locs cells slots Q arr X hw hS hV hF)
theorem jr_iadd {l : Am_L} {mi d rc rs pc : Nat} {ls : List (Option Value)} {st : List Value} {h : Am_H} {K : Am_R → Am_H → Prop} {x y : Int32} (hd : decode (am_b mi) pc = .ok (.iadd, 1))  (k : am_J l mi d rc rs (pc + 1) ls (.int (x + y) :: st) h K) : am_J l mi d rc rs pc ls (.int y :: .int x :: st) h K := by
  intro p e R s m args below meth c G H locs cells slots Q arr X hw hS hV hF
  exact lv_iadd X.1.1 X.1.2.1 hd (k p e R s m args below meth c G H locs cells slots Q arr X hw hS hV hF)
theorem jr_isub {l : Am_L} {mi d rc rs pc : Nat} {ls : List (Option Value)} {st : List Value} {h : Am_H} {K : Am_R → Am_H → Prop} {x y : Int32} (hd : decode (am_b mi) pc = .ok (.isub, 1))  (k : am_J l mi d rc rs (pc + 1) ls (.int (x - y) :: st) h K) : am_J l mi d rc rs pc ls (.int y :: .int x :: st) h K := by
  intro p e R s m args below meth c G H locs cells slots Q arr X hw hS hV hF
  exact lv_isub X.1.1 X.1.2.1 hd (k p e R s m args below meth c G H locs cells slots Q arr X hw hS hV hF)
theorem jr_imul {l : Am_L} {mi d rc rs pc : Nat} {ls : List (Option Value)} {st : List Value} {h : Am_H} {K : Am_R → Am_H → Prop} {x y : Int32} (hd : decode (am_b mi) pc = .ok (.imul, 1))  (k : am_J l mi d rc rs (pc + 1) ls (.int (x * y) :: st) h K) : am_J l mi d rc rs pc ls (.int y :: .int x :: st) h K := by
  intro p e R s m args below meth c G H locs cells slots Q arr X hw hS hV hF
  exact lv_imul X.1.1 X.1.2.1 hd (k p e R s m args below meth c G H locs cells slots Q arr X hw hS hV hF)
theorem jr_iand {l : Am_L} {mi d rc rs pc : Nat} {ls : List (Option Value)} {st : List Value} {h : Am_H} {K : Am_R → Am_H → Prop} {x y : Int32} (hd : decode (am_b mi) pc = .ok (.iand, 1))  (k : am_J l mi d rc rs (pc + 1) ls (.int (x &&& y) :: st) h K) : am_J l mi d rc rs pc ls (.int y :: .int x :: st) h K := by
  intro p e R s m args below meth c G H locs cells slots Q arr X hw hS hV hF
  exact lv_iand X.1.1 X.1.2.1 hd (k p e R s m args below meth c G H locs cells slots Q arr X hw hS hV hF)
theorem jr_ior {l : Am_L} {mi d rc rs pc : Nat} {ls : List (Option Value)} {st : List Value} {h : Am_H} {K : Am_R → Am_H → Prop} {x y : Int32} (hd : decode (am_b mi) pc = .ok (.ior, 1))  (k : am_J l mi d rc rs (pc + 1) ls (.int (x ||| y) :: st) h K) : am_J l mi d rc rs pc ls (.int y :: .int x :: st) h K := by
  intro p e R s m args below meth c G H locs cells slots Q arr X hw hS hV hF
  exact lv_ior X.1.1 X.1.2.1 hd (k p e R s m args below meth c G H locs cells slots Q arr X hw hS hV hF)
theorem jr_ixor {l : Am_L} {mi d rc rs pc : Nat} {ls : List (Option Value)} {st : List Value} {h : Am_H} {K : Am_R → Am_H → Prop} {x y : Int32} (hd : decode (am_b mi) pc = .ok (.ixor, 1))  (k : am_J l mi d rc rs (pc + 1) ls (.int (x ^^^ y) :: st) h K) : am_J l mi d rc rs pc ls (.int y :: .int x :: st) h K := by
  intro p e R s m args below meth c G H locs cells slots Q arr X hw hS hV hF
  exact lv_ixor X.1.1 X.1.2.1 hd (k p e R s m args below meth c G H locs cells slots Q arr X hw hS hV hF)
theorem jr_ishl {l : Am_L} {mi d rc rs pc : Nat} {ls : List (Option Value)} {st : List Value} {h : Am_H} {K : Am_R → Am_H → Prop} {x y : Int32} (hd : decode (am_b mi) pc = .ok (.ishl, 1))  (k : am_J l mi d rc rs (pc + 1) ls (.int (x <<< (y &&& 31)) :: st) h K) : am_J l mi d rc rs pc ls (.int y :: .int x :: st) h K := by
  intro p e R s m args below meth c G H locs cells slots Q arr X hw hS hV hF
  exact lv_ishl X.1.1 X.1.2.1 hd (k p e R s m args below meth c G H locs cells slots Q arr X hw hS hV hF)
theorem jr_ishr {l : Am_L} {mi d rc rs pc : Nat} {ls : List (Option Value)} {st : List Value} {h : Am_H} {K : Am_R → Am_H → Prop} {x y : Int32} (hd : decode (am_b mi) pc = .ok (.ishr, 1))  (k : am_J l mi d rc rs (pc + 1) ls (.int (x >>> (y &&& 31)) :: st) h K) : am_J l mi d rc rs pc ls (.int y :: .int x :: st) h K := by
  intro p e R s m args below meth c G H locs cells slots Q arr X hw hS hV hF
  exact lv_ishr X.1.1 X.1.2.1 hd (k p e R s m args below meth c G H locs cells slots Q arr X hw hS hV hF)
theorem jr_idiv {l : Am_L} {mi d rc rs pc : Nat} {ls : List (Option Value)} {st : List Value} {h : Am_H} {K : Am_R → Am_H → Prop} {x y : Int32} (hd : decode (am_b mi) pc = .ok (.idiv, 1)) (hne : ¬ y = 0) (k : am_J l mi d rc rs (pc + 1) ls (.int (x / y) :: st) h K) : am_J l mi d rc rs pc ls (.int y :: .int x :: st) h K := by
  intro p e R s m args below meth c G H locs cells slots Q arr X hw hS hV hF
  exact lv_idiv X.1.1 X.1.2.1 hd hne (k p e R s m args below meth c G H locs cells slots Q arr X hw hS hV hF)
theorem jr_irem {l : Am_L} {mi d rc rs pc : Nat} {ls : List (Option Value)} {st : List Value} {h : Am_H} {K : Am_R → Am_H → Prop} {x y : Int32} (hd : decode (am_b mi) pc = .ok (.irem, 1)) (hne : ¬ y = 0) (k : am_J l mi d rc rs (pc + 1) ls (.int (x - x / y * y) :: st) h K) : am_J l mi d rc rs pc ls (.int y :: .int x :: st) h K := by
  intro p e R s m args below meth c G H locs cells slots Q arr X hw hS hV hF
  exact lv_irem X.1.1 X.1.2.1 hd hne (k p e R s m args below meth c G H locs cells slots Q arr X hw hS hV hF)
theorem jr_iushr {l : Am_L} {mi d rc rs pc : Nat} {ls : List (Option Value)} {st : List Value} {h : Am_H} {K : Am_R → Am_H → Prop} {x y : Int32} (hd : decode (am_b mi) pc = .ok (.iushr, 1))  (k : am_J l mi d rc rs (pc + 1) ls (.int ((x.toUInt32 >>> (y.toUInt32 &&& Int32.toUInt32 31)).toInt32) :: st) h K) : am_J l mi d rc rs pc ls (.int y :: .int x :: st) h K := by
  intro p e R s m args below meth c G H locs cells slots Q arr X hw hS hV hF
  exact lv_iushr X.1.1 X.1.2.1 hd rfl (k p e R s m args below meth c G H locs cells slots Q arr X hw hS hV hF)
theorem jr_ladd {l : Am_L} {mi d rc rs pc : Nat} {ls : List (Option Value)} {st : List Value} {h : Am_H} {K : Am_R → Am_H → Prop} {x y : Int64} (hd : decode (am_b mi) pc = .ok (.ladd, 1))  (k : am_J l mi d rc rs (pc + 1) ls (.long (x + y) :: st) h K) : am_J l mi d rc rs pc ls (.long y :: .long x :: st) h K := by
  intro p e R s m args below meth c G H locs cells slots Q arr X hw hS hV hF
  exact lv_ladd X.1.1 X.1.2.1 hd (k p e R s m args below meth c G H locs cells slots Q arr X hw hS hV hF)
theorem jr_lmul {l : Am_L} {mi d rc rs pc : Nat} {ls : List (Option Value)} {st : List Value} {h : Am_H} {K : Am_R → Am_H → Prop} {x y : Int64} (hd : decode (am_b mi) pc = .ok (.lmul, 1))  (k : am_J l mi d rc rs (pc + 1) ls (.long (x * y) :: st) h K) : am_J l mi d rc rs pc ls (.long y :: .long x :: st) h K := by
  intro p e R s m args below meth c G H locs cells slots Q arr X hw hS hV hF
  exact lv_lmul X.1.1 X.1.2.1 hd (k p e R s m args below meth c G H locs cells slots Q arr X hw hS hV hF)
theorem jr_land {l : Am_L} {mi d rc rs pc : Nat} {ls : List (Option Value)} {st : List Value} {h : Am_H} {K : Am_R → Am_H → Prop} {x y : Int64} (hd : decode (am_b mi) pc = .ok (.land, 1))  (k : am_J l mi d rc rs (pc + 1) ls (.long (x &&& y) :: st) h K) : am_J l mi d rc rs pc ls (.long y :: .long x :: st) h K := by
  intro p e R s m args below meth c G H locs cells slots Q arr X hw hS hV hF
  exact lv_land X.1.1 X.1.2.1 hd (k p e R s m args below meth c G H locs cells slots Q arr X hw hS hV hF)
theorem jr_lor {l : Am_L} {mi d rc rs pc : Nat} {ls : List (Option Value)} {st : List Value} {h : Am_H} {K : Am_R → Am_H → Prop} {x y : Int64} (hd : decode (am_b mi) pc = .ok (.lor, 1))  (k : am_J l mi d rc rs (pc + 1) ls (.long (x ||| y) :: st) h K) : am_J l mi d rc rs pc ls (.long y :: .long x :: st) h K := by
  intro p e R s m args below meth c G H locs cells slots Q arr X hw hS hV hF
  exact lv_lor X.1.1 X.1.2.1 hd (k p e R s m args below meth c G H locs cells slots Q arr X hw hS hV hF)
theorem jr_lshl {l : Am_L} {mi d rc rs pc : Nat} {ls : List (Option Value)} {st : List Value} {h : Am_H} {K : Am_R → Am_H → Prop} {x : Int64} {y : Int32} (hd : decode (am_b mi) pc = .ok (.lshl, 1))  (k : am_J l mi d rc rs (pc + 1) ls (.long (x <<< (y.toInt64 &&& 63)) :: st) h K) : am_J l mi d rc rs pc ls (.int y :: .long x :: st) h K := by
  intro p e R s m args below meth c G H locs cells slots Q arr X hw hS hV hF
  exact lv_lshl X.1.1 X.1.2.1 hd rfl (k p e R s m args below meth c G H locs cells slots Q arr X hw hS hV hF)
theorem jr_lushr {l : Am_L} {mi d rc rs pc : Nat} {ls : List (Option Value)} {st : List Value} {h : Am_H} {K : Am_R → Am_H → Prop} {x : Int64} {y : Int32} (hd : decode (am_b mi) pc = .ok (.lushr, 1))  (k : am_J l mi d rc rs (pc + 1) ls (.long ((x.toUInt64 >>> (y.toInt64.toUInt64 &&& Int64.toUInt64 63)).toInt64) :: st) h K) : am_J l mi d rc rs pc ls (.int y :: .long x :: st) h K := by
  intro p e R s m args below meth c G H locs cells slots Q arr X hw hS hV hF
  exact lv_lushr X.1.1 X.1.2.1 hd rfl (k p e R s m args below meth c G H locs cells slots Q arr X hw hS hV hF)
theorem jr_lcmp {l : Am_L} {mi d rc rs pc : Nat} {ls : List (Option Value)} {st : List Value} {h : Am_H} {K : Am_R → Am_H → Prop} {x y : Int64} (hd : decode (am_b mi) pc = .ok (.lcmp, 1))  (k : am_J l mi d rc rs (pc + 1) ls (.int (lg_cmp x y) :: st) h K) : am_J l mi d rc rs pc ls (.long y :: .long x :: st) h K := by
  intro p e R s m args below meth c G H locs cells slots Q arr X hw hS hV hF
  exact W.lcmp X.1.1 X.1.2.1 hd (k p e R s m args below meth c G H locs cells slots Q arr X hw hS hV hF)
theorem jr_i2l {l : Am_L} {mi d rc rs pc : Nat} {ls : List (Option Value)} {st : List Value} {h : Am_H} {K : Am_R → Am_H → Prop} {x : Int32} (hd : decode (am_b mi) pc = .ok (.i2l, 1))  (k : am_J l mi d rc rs (pc + 1) ls (.long x.toInt64 :: st) h K) : am_J l mi d rc rs pc ls (.int x :: st) h K := by
  intro p e R s m args below meth c G H locs cells slots Q arr X hw hS hV hF
  exact lv_i2l X.1.1 X.1.2.1 hd rfl (k p e R s m args below meth c G H locs cells slots Q arr X hw hS hV hF)
theorem jr_l2i {l : Am_L} {mi d rc rs pc : Nat} {ls : List (Option Value)} {st : List Value} {h : Am_H} {K : Am_R → Am_H → Prop} {x : Int64} (hd : decode (am_b mi) pc = .ok (.l2i, 1))  (k : am_J l mi d rc rs (pc + 1) ls (.int x.toInt32 :: st) h K) : am_J l mi d rc rs pc ls (.long x :: st) h K := by
  intro p e R s m args below meth c G H locs cells slots Q arr X hw hS hV hF
  exact lv_l2i X.1.1 X.1.2.1 hd rfl (k p e R s m args below meth c G H locs cells slots Q arr X hw hS hV hF)
theorem jr_i2b {l : Am_L} {mi d rc rs pc : Nat} {ls : List (Option Value)} {st : List Value} {h : Am_H} {K : Am_R → Am_H → Prop} {x : Int32} (hd : decode (am_b mi) pc = .ok (.i2b, 1))  (k : am_J l mi d rc rs (pc + 1) ls (.int x.toInt8.toInt32 :: st) h K) : am_J l mi d rc rs pc ls (.int x :: st) h K := by
  intro p e R s m args below meth c G H locs cells slots Q arr X hw hS hV hF
  exact lv_i2b X.1.1 X.1.2.1 hd rfl (k p e R s m args below meth c G H locs cells slots Q arr X hw hS hV hF)
theorem jr_i2c {l : Am_L} {mi d rc rs pc : Nat} {ls : List (Option Value)} {st : List Value} {h : Am_H} {K : Am_R → Am_H → Prop} {x : Int32} (hd : decode (am_b mi) pc = .ok (.i2c, 1))  (k : am_J l mi d rc rs (pc + 1) ls (.int (x.toUInt32 % 65536).toInt32 :: st) h K) : am_J l mi d rc rs pc ls (.int x :: st) h K := by
  intro p e R s m args below meth c G H locs cells slots Q arr X hw hS hV hF
  exact lv_i2c X.1.1 X.1.2.1 hd rfl (k p e R s m args below meth c G H locs cells slots Q arr X hw hS hV hF)
theorem jr_dup {l : Am_L} {mi d rc rs pc : Nat} {ls : List (Option Value)} {st : List Value} {h : Am_H} {K : Am_R → Am_H → Prop} {v : Value} (hd : decode (am_b mi) pc = .ok (.dup, 1)) (hv : am_nl (some v)) (k : am_J l mi d rc rs (pc + 1) ls (v :: v :: st) h K) : am_J l mi d rc rs pc ls (v :: st) h K := by
  intro p e R s m args below meth c G H locs cells slots Q arr X hw hS hV hF
  exact lv_dup X.1.1 X.1.2.1 hd ((am_c_cat G v).trans (am_nl_cat hv)) (k p e R s m args below meth c G H locs cells slots Q arr X hw hS hV hF)
theorem jr_pop {l : Am_L} {mi d rc rs pc : Nat} {ls : List (Option Value)} {st : List Value} {h : Am_H} {K : Am_R → Am_H → Prop} {v : Value} (hd : decode (am_b mi) pc = .ok (.pop, 1)) (hv : am_nl (some v)) (k : am_J l mi d rc rs (pc + 1) ls st h K) : am_J l mi d rc rs pc ls (v :: st) h K := by
  intro p e R s m args below meth c G H locs cells slots Q arr X hw hS hV hF
  exact lv_pop X.1.1 X.1.2.1 hd ((am_c_cat G v).trans (am_nl_cat hv)) (k p e R s m args below meth c G H locs cells slots Q arr X hw hS hV hF)
theorem jr_dup2 {l : Am_L} {mi d rc rs pc : Nat} {ls : List (Option Value)} {st : List Value} {h : Am_H} {K : Am_R → Am_H → Prop} {v w : Value} (hd : decode (am_b mi) pc = .ok (.dup2, 1)) (hv : am_nl (some v)) (hw2 : am_nl (some w)) (k : am_J l mi d rc rs (pc + 1) ls (v :: w :: v :: w :: st) h K) : am_J l mi d rc rs pc ls (v :: w :: st) h K := by
  intro p e R s m args below meth c G H locs cells slots Q arr X hw hS hV hF
  exact lv_dup2_11 X.1.1 X.1.2.1 hd ((am_c_cat G v).trans (am_nl_cat hv)) ((am_c_cat G w).trans (am_nl_cat hw2)) (k p e R s m args below meth c G H locs cells slots Q arr X hw hS hV hF)
theorem jr_iload_n {l : Am_L} {mi d rc rs pc : Nat} {ls : List (Option Value)} {st : List Value} {h : Am_H} {K : Am_R → Am_H → Prop} {i : Nat} {x : Int32} {q : Fin 4} (hd : decode (am_b mi) pc = .ok (.iload_n q, 1)) (hi : (q : Nat) = i) (hx : am_get ls i = some (.int x)) (k : am_J l mi d rc rs (pc + 1) ls (.int x :: st) h K) : am_J l mi d rc rs pc ls st h K := by
  intro p e R s m args below meth c G H locs cells slots Q arr X hw hS hV hF
  exact lv_iload_n X.1.1 X.1.2.1 hd hi (hV.at hx) (k p e R s m args below meth c G H locs cells slots Q arr X hw hS hV hF)
theorem jr_iload {l : Am_L} {mi d rc rs pc : Nat} {ls : List (Option Value)} {st : List Value} {h : Am_H} {K : Am_R → Am_H → Prop} {i : Nat} {x : Int32} (hd : decode (am_b mi) pc = .ok (.iload i, 2)) (hx : am_get ls i = some (.int x)) (k : am_J l mi d rc rs (pc + 2) ls (.int x :: st) h K) : am_J l mi d rc rs pc ls st h K := by
  intro p e R s m args below meth c G H locs cells slots Q arr X hw hS hV hF
  exact lv_iload X.1.1 X.1.2.1 hd (hV.at hx) (k p e R s m args below meth c G H locs cells slots Q arr X hw hS hV hF)
theorem jr_lload_n {l : Am_L} {mi d rc rs pc : Nat} {ls : List (Option Value)} {st : List Value} {h : Am_H} {K : Am_R → Am_H → Prop} {i : Nat} {x : Int64} {q : Fin 4} (hd : decode (am_b mi) pc = .ok (.lload_n q, 1)) (hi : (q : Nat) = i) (hx : am_get ls i = some (.long x)) (k : am_J l mi d rc rs (pc + 1) ls (.long x :: st) h K) : am_J l mi d rc rs pc ls st h K := by
  intro p e R s m args below meth c G H locs cells slots Q arr X hw hS hV hF
  exact lv_lload_n X.1.1 X.1.2.1 hd hi (hV.at hx) (k p e R s m args below meth c G H locs cells slots Q arr X hw hS hV hF)
theorem jr_lload {l : Am_L} {mi d rc rs pc : Nat} {ls : List (Option Value)} {st : List Value} {h : Am_H} {K : Am_R → Am_H → Prop} {i : Nat} {x : Int64} (hd : decode (am_b mi) pc = .ok (.lload i, 2)) (hx : am_get ls i = some (.long x)) (k : am_J l mi d rc rs (pc + 2) ls (.long x :: st) h K) : am_J l mi d rc rs pc ls st h K := by
  intro p e R s m args below meth c G H locs cells slots Q arr X hw hS hV hF
  exact lv_lload X.1.1 X.1.2.1 hd (hV.at hx) (k p e R s m args below meth c G H locs cells slots Q arr X hw hS hV hF)
def am_isA (v : Value) : Prop := match v with
  | .ref _ => True
  | .float _ => True
  | .null => True
  | _ => False
theorem jr_aload_n {l : Am_L} {mi d rc rs pc : Nat} {ls : List (Option Value)} {st : List Value} {h : Am_H} {K : Am_R → Am_H → Prop} {i : Nat} {v : Value} {q : Fin 4} (hd : decode (am_b mi) pc = .ok (.aload_n q, 1)) (hi : (q : Nat) = i) (hx : am_get ls i = some v) (hv : am_isA v) (k : am_J l mi d rc rs (pc + 1) ls (v :: st) h K) : am_J l mi d rc rs pc ls st h K := by
  intro p e R s m args below meth c G H locs cells slots Q arr X hw hS hV hF
  have hat := hV.at hx
  cases v with
  | ref o => exact lv_aload_n X.1.1 X.1.2.1 hd hi hat (k p e R s m args below meth c G H locs cells slots Q arr X hw hS hV hF)
  | float o => exact lv_aload_n X.1.1 X.1.2.1 hd hi hat (k p e R s m args below meth c G H locs cells slots Q arr X hw hS hV hF)
  | null => exact lv_aload_nN X.1.1 X.1.2.1 hd hi hat (k p e R s m args below meth c G H locs cells slots Q arr X hw hS hV hF)
  | _ => exact hv.elim
theorem jr_aload {l : Am_L} {mi d rc rs pc : Nat} {ls : List (Option Value)} {st : List Value} {h : Am_H} {K : Am_R → Am_H → Prop} {i : Nat} {v : Value}  (hd : decode (am_b mi) pc = .ok (.aload i, 2))  (hx : am_get ls i = some v) (hv : am_isA v) (k : am_J l mi d rc rs (pc + 2) ls (v :: st) h K) : am_J l mi d rc rs pc ls st h K := by
  intro p e R s m args below meth c G H locs cells slots Q arr X hw hS hV hF
  have hat := hV.at hx
  cases v with
  | ref o => exact lv_aload X.1.1 X.1.2.1 hd  hat (k p e R s m args below meth c G H locs cells slots Q arr X hw hS hV hF)
  | float o => exact lv_aload X.1.1 X.1.2.1 hd  hat (k p e R s m args below meth c G H locs cells slots Q arr X hw hS hV hF)
  | null => exact lv_aloadN X.1.1 X.1.2.1 hd  hat (k p e R s m args below meth c G H locs cells slots Q arr X hw hS hV hF)
  | _ => exact hv.elim
theorem am_V.store1 {G : Am_G} {arr : Array Slot} {n i : Nat} {ls : List (Option Value)} {v : Value} (hn : am_nl (am_get ls (i - 1))) (h : lv_has arr n ((i, am_c G v) :: (am_asc G ls).filter (fun q => !(q.1 == i) && !(q.1 + 1 == i && q.2.category == 2)))) : am_V G arr n (am_set ls i (some v)) := by
  refine am_V.of h fun j w hj => ?_
  rcases am_get_set hj with ⟨rfl, e⟩ | ⟨hne, hg⟩
  · cases e; exact List.mem_cons_self
  · refine List.mem_cons_of_mem _ (List.mem_filter.mpr ⟨am_asc_mem hg, ?_⟩)
    have h1 : (j == i) = false := by simpa using hne
    by_cases h2 : j + 1 = i
    · have h3 : i - 1 = j := by omega
      rw [h3, hg] at hn
      have h4 : (am_c G w).category = 1 := (am_c_cat G w).trans (am_nl_cat hn)
      simp [h1, h4]
    · have h5 : (j + 1 == i) = false := by simpa using h2
      simp [h1, h5]
theorem am_V.store2 {G : Am_G} {arr : Array Slot} {n i : Nat} {ls : List (Option Value)} {v : Value} (hn : am_nl (am_get ls (i - 1)) ∨ i = 0) (h : lv_has arr n ((i, am_c G v) :: (am_asc G ls).filter (fun q => !(q.1 == i) && (!(q.1 == i + 1) && !(q.1 + 1 == i && q.2.category == 2))))) : am_V G arr n (am_set (am_set ls i (some v)) (i + 1) none) := by
  refine am_V.of h fun j w hj => ?_
  rcases am_get_set hj with ⟨-, e⟩ | ⟨hne2, hj⟩
  · cases e
  rcases am_get_set hj with ⟨rfl, e⟩ | ⟨hne, hg⟩
  · cases e; exact List.mem_cons_self
  · refine List.mem_cons_of_mem _ (List.mem_filter.mpr ⟨am_asc_mem hg, ?_⟩)
    have h1 : (j == i) = false := by simpa using hne
    have h0 : (j == i + 1) = false := by simpa using hne2
    by_cases h2 : j + 1 = i
    · have h3 : i - 1 = j := by omega
      rcases hn with hn | hn
      · rw [h3, hg] at hn
        have h4 : (am_c G w).category = 1 := (am_c_cat G w).trans (am_nl_cat hn)
        simp [h1, h0, h4]
      · omega
    · have h5 : (j + 1 == i) = false := by simpa using h2
      simp [h1, h0, h5]
theorem jr_istore_n {l : Am_L} {mi d rc rs pc : Nat} {ls : List (Option Value)} {st : List Value} {h : Am_H} {K : Am_R → Am_H → Prop} {i : Nat} {x : Int32} {q : Fin 4} (hd : decode (am_b mi) pc = .ok (.istore_n q, 1)) (hi : (q : Nat) = i) (hb : i < am_l mi) (hn : am_nl (am_get ls (i - 1))) (k : am_J l mi d rc rs (pc + 1) (am_set ls i (some (.int x))) st h K) : am_J l mi d rc rs pc ls (.int x :: st) h K := by
  intro p e R s m args below meth c G H locs cells slots Q arr X hw hS hV hF
  exact lv_istore_n X.1.1 X.1.2.1 hd hi hV hb rfl (fun arr2 hl => k p e R s m args below meth c G H locs cells slots Q arr2 X hw hS (am_V.store1 hn hl) hF)
theorem jr_lstore_n {l : Am_L} {mi d rc rs pc : Nat} {ls : List (Option Value)} {st : List Value} {h : Am_H} {K : Am_R → Am_H → Prop} {i : Nat} {x : Int64} {q : Fin 4} (hd : decode (am_b mi) pc = .ok (.lstore_n q, 1)) (hi : (q : Nat) = i) (hb : i + 1 < am_l mi) (hn : am_nl (am_get ls (i - 1)) ∨ i = 0) (k : am_J l mi d rc rs (pc + 1) (am_set (am_set ls i (some (.long x))) (i + 1) none) st h K) : am_J l mi d rc rs pc ls (.long x :: st) h K := by
  intro p e R s m args below meth c G H locs cells slots Q arr X hw hS hV hF
  exact lv_lstore_n X.1.1 X.1.2.1 hd hi hV hb rfl (fun arr2 hl => k p e R s m args below meth c G H locs cells slots Q arr2 X hw hS (am_V.store2 hn hl) hF)
theorem jr_astore_n {l : Am_L} {mi d rc rs pc : Nat} {ls : List (Option Value)} {st : List Value} {h : Am_H} {K : Am_R → Am_H → Prop} {i : Nat} {v : Value} {q : Fin 4} (hd : decode (am_b mi) pc = .ok (.astore_n q, 1)) (hi : (q : Nat) = i) (hb : i < am_l mi) (hn : am_nl (am_get ls (i - 1))) (hv : am_isA v) (k : am_J l mi d rc rs (pc + 1) (am_set ls i (some v)) st h K) : am_J l mi d rc rs pc ls (v :: st) h K := by
  intro p e R s m args below meth c G H locs cells slots Q arr X hw hS hV hF
  cases v with
  | ref o => exact lv_astore_n X.1.1 X.1.2.1 hd hi hV hb rfl (fun arr2 hl => k p e R s m args below meth c G H locs cells slots Q arr2 X hw hS (am_V.store1 hn hl) hF)
  | float o => exact lv_astore_n X.1.1 X.1.2.1 hd hi hV hb rfl (fun arr2 hl => k p e R s m args below meth c G H locs cells slots Q arr2 X hw hS (am_V.store1 hn hl) hF)
  | null => exact lv_astore_nN X.1.1 X.1.2.1 hd hi hV hb rfl (fun arr2 hl => k p e R s m args below meth c G H locs cells slots Q arr2 X hw hS (am_V.store1 hn hl) hF)
  | _ => exact hv.elim
theorem jr_istore {l : Am_L} {mi d rc rs pc : Nat} {ls : List (Option Value)} {st : List Value} {h : Am_H} {K : Am_R → Am_H → Prop} {i : Nat} {x : Int32}  (hd : decode (am_b mi) pc = .ok (.istore i, 2))  (hb : i < am_l mi) (hn : am_nl (am_get ls (i - 1))) (k : am_J l mi d rc rs (pc + 2) (am_set ls i (some (.int x))) st h K) : am_J l mi d rc rs pc ls (.int x :: st) h K := by
  intro p e R s m args below meth c G H locs cells slots Q arr X hw hS hV hF
  exact lv_istore X.1.1 X.1.2.1 hd  hV hb rfl (fun arr2 hl => k p e R s m args below meth c G H locs cells slots Q arr2 X hw hS (am_V.store1 hn hl) hF)
theorem jr_lstore {l : Am_L} {mi d rc rs pc : Nat} {ls : List (Option Value)} {st : List Value} {h : Am_H} {K : Am_R → Am_H → Prop} {i : Nat} {x : Int64}  (hd : decode (am_b mi) pc = .ok (.lstore i, 2))  (hb : i + 1 < am_l mi) (hn : am_nl (am_get ls (i - 1)) ∨ i = 0) (k : am_J l mi d rc rs (pc + 2) (am_set (am_set ls i (some (.long x))) (i + 1) none) st h K) : am_J l mi d rc rs pc ls (.long x :: st) h K := by
  intro p e R s m args below meth c G H locs cells slots Q arr X hw hS hV hF
  exact lv_lstore X.1.1 X.1.2.1 hd  hV hb rfl (fun arr2 hl => k p e R s m args below meth c G H locs cells slots Q arr2 X hw hS (am_V.store2 hn hl) hF)
theorem jr_astore {l : Am_L} {mi d rc rs pc : Nat} {ls : List (Option Value)} {st : List Value} {h : Am_H} {K : Am_R → Am_H → Prop} {i : Nat} {v : Value}  (hd : decode (am_b mi) pc = .ok (.astore i, 2))  (hb : i < am_l mi) (hn : am_nl (am_get ls (i - 1))) (hv : am_isA v) (k : am_J l mi d rc rs (pc + 2) (am_set ls i (some v)) st h K) : am_J l mi d rc rs pc ls (v :: st) h K := by
  intro p e R s m args below meth c G H locs cells slots Q arr X hw hS hV hF
  cases v with
  | ref o => exact lv_astore X.1.1 X.1.2.1 hd  hV hb rfl (fun arr2 hl => k p e R s m args below meth c G H locs cells slots Q arr2 X hw hS (am_V.store1 hn hl) hF)
  | float o => exact lv_astore X.1.1 X.1.2.1 hd  hV hb rfl (fun arr2 hl => k p e R s m args below meth c G H locs cells slots Q arr2 X hw hS (am_V.store1 hn hl) hF)
  | null => exact lv_astoreN X.1.1 X.1.2.1 hd  hV hb rfl (fun arr2 hl => k p e R s m args below meth c G H locs cells slots Q arr2 X hw hS (am_V.store1 hn hl) hF)
  | _ => exact hv.elim
theorem jr_iinc {l : Am_L} {mi d rc rs pc : Nat} {ls : List (Option Value)} {st : List Value} {h : Am_H} {K : Am_R → Am_H → Prop} {i : Nat} {n : Int} {x v : Int32} (hd : decode (am_b mi) pc = .ok (.iinc i n, 3)) (hx : am_get ls i = some (.int x)) (hv : Int32.ofInt n = v) (hb : i < am_l mi) (hn : am_nl (am_get ls (i - 1))) (k : am_J l mi d rc rs (pc + 3) (am_set ls i (some (.int (x + v)))) st h K) : am_J l mi d rc rs pc ls st h K := by
  intro p e R s m args below meth c G H locs cells slots Q arr X hw hS hV hF
  obtain ⟨q, hq⟩ := List.getElem?_of_mem (am_asc_mem (G := G) hx)
  exact lv_iinc X.1.1 X.1.2.1 hd hV (k := q) hq (by rw [hv]) hb rfl (fun arr2 hl => k p e R s m args below meth c G H locs cells slots Q arr2 X hw hS (am_V.store1 hn hl) hF)
theorem jr_if_eq {l : Am_L} {mi d rc rs pc : Nat} {ls : List (Option Value)} {st : List Value} {h : Am_H} {K : Am_R → Am_H → Prop} {x : Int32} {off : Int} {tgt : Nat} (hd : decode (am_b mi) pc = .ok (.ifCond .eq off, 3)) (ht : (pc : Int) + off = (tgt : Int)) (kt : x = 0 → am_J l mi d rc rs tgt ls st h K) (kf : ¬ x = 0 → am_J l mi d rc rs (pc + 3) ls st h K) : am_J l mi d rc rs pc ls (.int x :: st) h K := by
  intro p e R s m args below meth c G H locs cells slots Q arr X hw hS hV hF
  exact lv_if_eq X.1.1 X.1.2.1 hd ht (fun hc => kt hc p e R s m args below meth c G H locs cells slots Q arr X hw hS hV hF) (fun hc => kf hc p e R s m args below meth c G H locs cells slots Q arr X hw hS hV hF)
theorem jr_icmp_eq {l : Am_L} {mi d rc rs pc : Nat} {ls : List (Option Value)} {st : List Value} {h : Am_H} {K : Am_R → Am_H → Prop} {x y : Int32} {off : Int} {tgt : Nat} (hd : decode (am_b mi) pc = .ok (.if_icmp .eq off, 3)) (ht : (pc : Int) + off = (tgt : Int)) (kt : x = y → am_J l mi d rc rs tgt ls st h K) (kf : ¬ x = y → am_J l mi d rc rs (pc + 3) ls st h K) : am_J l mi d rc rs pc ls (.int y :: .int x :: st) h K := by
  intro p e R s m args below meth c G H locs cells slots Q arr X hw hS hV hF
  exact lv_icmp_eq X.1.1 X.1.2.1 hd ht (fun hc => kt hc p e R s m args below meth c G H locs cells slots Q arr X hw hS hV hF) (fun hc => kf hc p e R s m args below meth c G H locs cells slots Q arr X hw hS hV hF)
theorem jr_if_ne {l : Am_L} {mi d rc rs pc : Nat} {ls : List (Option Value)} {st : List Value} {h : Am_H} {K : Am_R → Am_H → Prop} {x : Int32} {off : Int} {tgt : Nat} (hd : decode (am_b mi) pc = .ok (.ifCond .ne off, 3)) (ht : (pc : Int) + off = (tgt : Int)) (kt : ¬ x = 0 → am_J l mi d rc rs tgt ls st h K) (kf : x = 0 → am_J l mi d rc rs (pc + 3) ls st h K) : am_J l mi d rc rs pc ls (.int x :: st) h K := by
  intro p e R s m args below meth c G H locs cells slots Q arr X hw hS hV hF
  exact lv_if_ne X.1.1 X.1.2.1 hd ht (fun hc => kt hc p e R s m args below meth c G H locs cells slots Q arr X hw hS hV hF) (fun hc => kf hc p e R s m args below meth c G H locs cells slots Q arr X hw hS hV hF)
theorem jr_icmp_ne {l : Am_L} {mi d rc rs pc : Nat} {ls : List (Option Value)} {st : List Value} {h : Am_H} {K : Am_R → Am_H → Prop} {x y : Int32} {off : Int} {tgt : Nat} (hd : decode (am_b mi) pc = .ok (.if_icmp .ne off, 3)) (ht : (pc : Int) + off = (tgt : Int)) (kt : ¬ x = y → am_J l mi d rc rs tgt ls st h K) (kf : x = y → am_J l mi d rc rs (pc + 3) ls st h K) : am_J l mi d rc rs pc ls (.int y :: .int x :: st) h K := by
  intro p e R s m args below meth c G H locs cells slots Q arr X hw hS hV hF
  exact lv_icmp_ne X.1.1 X.1.2.1 hd ht (fun hc => kt hc p e R s m args below meth c G H locs cells slots Q arr X hw hS hV hF) (fun hc => kf hc p e R s m args below meth c G H locs cells slots Q arr X hw hS hV hF)
theorem jr_if_lt {l : Am_L} {mi d rc rs pc : Nat} {ls : List (Option Value)} {st : List Value} {h : Am_H} {K : Am_R → Am_H → Prop} {x : Int32} {off : Int} {tgt : Nat} (hd : decode (am_b mi) pc = .ok (.ifCond .lt off, 3)) (ht : (pc : Int) + off = (tgt : Int)) (kt : x < 0 → am_J l mi d rc rs tgt ls st h K) (kf : ¬ x < 0 → am_J l mi d rc rs (pc + 3) ls st h K) : am_J l mi d rc rs pc ls (.int x :: st) h K := by
  intro p e R s m args below meth c G H locs cells slots Q arr X hw hS hV hF
  exact lv_if_lt X.1.1 X.1.2.1 hd ht (fun hc => kt hc p e R s m args below meth c G H locs cells slots Q arr X hw hS hV hF) (fun hc => kf hc p e R s m args below meth c G H locs cells slots Q arr X hw hS hV hF)
theorem jr_icmp_lt {l : Am_L} {mi d rc rs pc : Nat} {ls : List (Option Value)} {st : List Value} {h : Am_H} {K : Am_R → Am_H → Prop} {x y : Int32} {off : Int} {tgt : Nat} (hd : decode (am_b mi) pc = .ok (.if_icmp .lt off, 3)) (ht : (pc : Int) + off = (tgt : Int)) (kt : x < y → am_J l mi d rc rs tgt ls st h K) (kf : ¬ x < y → am_J l mi d rc rs (pc + 3) ls st h K) : am_J l mi d rc rs pc ls (.int y :: .int x :: st) h K := by
  intro p e R s m args below meth c G H locs cells slots Q arr X hw hS hV hF
  exact lv_icmp_lt X.1.1 X.1.2.1 hd ht (fun hc => kt hc p e R s m args below meth c G H locs cells slots Q arr X hw hS hV hF) (fun hc => kf hc p e R s m args below meth c G H locs cells slots Q arr X hw hS hV hF)
theorem jr_if_ge {l : Am_L} {mi d rc rs pc : Nat} {ls : List (Option Value)} {st : List Value} {h : Am_H} {K : Am_R → Am_H → Prop} {x : Int32} {off : Int} {tgt : Nat} (hd : decode (am_b mi) pc = .ok (.ifCond .ge off, 3)) (ht : (pc : Int) + off = (tgt : Int)) (kt : 0 ≤ x → am_J l mi d rc rs tgt ls st h K) (kf : ¬ 0 ≤ x → am_J l mi d rc rs (pc + 3) ls st h K) : am_J l mi d rc rs pc ls (.int x :: st) h K := by
  intro p e R s m args below meth c G H locs cells slots Q arr X hw hS hV hF
  exact lv_if_ge X.1.1 X.1.2.1 hd ht (fun hc => kt hc p e R s m args below meth c G H locs cells slots Q arr X hw hS hV hF) (fun hc => kf hc p e R s m args below meth c G H locs cells slots Q arr X hw hS hV hF)
theorem jr_icmp_ge {l : Am_L} {mi d rc rs pc : Nat} {ls : List (Option Value)} {st : List Value} {h : Am_H} {K : Am_R → Am_H → Prop} {x y : Int32} {off : Int} {tgt : Nat} (hd : decode (am_b mi) pc = .ok (.if_icmp .ge off, 3)) (ht : (pc : Int) + off = (tgt : Int)) (kt : y ≤ x → am_J l mi d rc rs tgt ls st h K) (kf : ¬ y ≤ x → am_J l mi d rc rs (pc + 3) ls st h K) : am_J l mi d rc rs pc ls (.int y :: .int x :: st) h K := by
  intro p e R s m args below meth c G H locs cells slots Q arr X hw hS hV hF
  exact lv_icmp_ge X.1.1 X.1.2.1 hd ht (fun hc => kt hc p e R s m args below meth c G H locs cells slots Q arr X hw hS hV hF) (fun hc => kf hc p e R s m args below meth c G H locs cells slots Q arr X hw hS hV hF)
theorem jr_if_gt {l : Am_L} {mi d rc rs pc : Nat} {ls : List (Option Value)} {st : List Value} {h : Am_H} {K : Am_R → Am_H → Prop} {x : Int32} {off : Int} {tgt : Nat} (hd : decode (am_b mi) pc = .ok (.ifCond .gt off, 3)) (ht : (pc : Int) + off = (tgt : Int)) (kt : 0 < x → am_J l mi d rc rs tgt ls st h K) (kf : ¬ 0 < x → am_J l mi d rc rs (pc + 3) ls st h K) : am_J l mi d rc rs pc ls (.int x :: st) h K := by
  intro p e R s m args below meth c G H locs cells slots Q arr X hw hS hV hF
  exact lv_if_gt X.1.1 X.1.2.1 hd ht (fun hc => kt hc p e R s m args below meth c G H locs cells slots Q arr X hw hS hV hF) (fun hc => kf hc p e R s m args below meth c G H locs cells slots Q arr X hw hS hV hF)
theorem jr_icmp_gt {l : Am_L} {mi d rc rs pc : Nat} {ls : List (Option Value)} {st : List Value} {h : Am_H} {K : Am_R → Am_H → Prop} {x y : Int32} {off : Int} {tgt : Nat} (hd : decode (am_b mi) pc = .ok (.if_icmp .gt off, 3)) (ht : (pc : Int) + off = (tgt : Int)) (kt : y < x → am_J l mi d rc rs tgt ls st h K) (kf : ¬ y < x → am_J l mi d rc rs (pc + 3) ls st h K) : am_J l mi d rc rs pc ls (.int y :: .int x :: st) h K := by
  intro p e R s m args below meth c G H locs cells slots Q arr X hw hS hV hF
  exact lv_icmp_gt X.1.1 X.1.2.1 hd ht (fun hc => kt hc p e R s m args below meth c G H locs cells slots Q arr X hw hS hV hF) (fun hc => kf hc p e R s m args below meth c G H locs cells slots Q arr X hw hS hV hF)
theorem jr_if_le {l : Am_L} {mi d rc rs pc : Nat} {ls : List (Option Value)} {st : List Value} {h : Am_H} {K : Am_R → Am_H → Prop} {x : Int32} {off : Int} {tgt : Nat} (hd : decode (am_b mi) pc = .ok (.ifCond .le off, 3)) (ht : (pc : Int) + off = (tgt : Int)) (kt : x ≤ 0 → am_J l mi d rc rs tgt ls st h K) (kf : ¬ x ≤ 0 → am_J l mi d rc rs (pc + 3) ls st h K) : am_J l mi d rc rs pc ls (.int x :: st) h K := by
  intro p e R s m args below meth c G H locs cells slots Q arr X hw hS hV hF
  exact lv_if_le X.1.1 X.1.2.1 hd ht (fun hc => kt hc p e R s m args below meth c G H locs cells slots Q arr X hw hS hV hF) (fun hc => kf hc p e R s m args below meth c G H locs cells slots Q arr X hw hS hV hF)
theorem jr_icmp_le {l : Am_L} {mi d rc rs pc : Nat} {ls : List (Option Value)} {st : List Value} {h : Am_H} {K : Am_R → Am_H → Prop} {x y : Int32} {off : Int} {tgt : Nat} (hd : decode (am_b mi) pc = .ok (.if_icmp .le off, 3)) (ht : (pc : Int) + off = (tgt : Int)) (kt : x ≤ y → am_J l mi d rc rs tgt ls st h K) (kf : ¬ x ≤ y → am_J l mi d rc rs (pc + 3) ls st h K) : am_J l mi d rc rs pc ls (.int y :: .int x :: st) h K := by
  intro p e R s m args below meth c G H locs cells slots Q arr X hw hS hV hF
  exact lv_icmp_le X.1.1 X.1.2.1 hd ht (fun hc => kt hc p e R s m args below meth c G H locs cells slots Q arr X hw hS hV hF) (fun hc => kf hc p e R s m args below meth c G H locs cells slots Q arr X hw hS hV hF)
theorem jr_goto {l : Am_L} {mi d rc rs pc : Nat} {ls : List (Option Value)} {st : List Value} {h : Am_H} {K : Am_R → Am_H → Prop} {off : Int} {tgt : Nat} (hd : decode (am_b mi) pc = .ok (.goto off, 3)) (ht : (pc : Int) + off = (tgt : Int)) (k : am_J l mi d rc rs tgt ls st h K) : am_J l mi d rc rs pc ls st h K := by
  intro p e R s m args below meth c G H locs cells slots Q arr X hw hS hV hF
  exact lv_goto X.1.1 X.1.2.1 hd ht (k p e R s m args below meth c G H locs cells slots Q arr X hw hS hV hF)
theorem jr_ifnonnull {l : Am_L} {mi d rc rs pc : Nat} {ls : List (Option Value)} {st : List Value} {h : Am_H} {K : Am_R → Am_H → Prop} {off : Int} {tgt : Nat} {v : Value} (hd : decode (am_b mi) pc = .ok (.ifnonnull off, 3)) (ht : (pc : Int) + off = (tgt : Int)) (hv : am_isA v) (kt : ¬ v = .null → am_J l mi d rc rs tgt ls st h K) (kf : v = .null → am_J l mi d rc rs (pc + 3) ls st h K) : am_J l mi d rc rs pc ls (v :: st) h K := by
  intro p e R s m args below meth c G H locs cells slots Q arr X hw hS hV hF
  cases v with
  | ref o => exact lv_ifnonnull X.1.1 X.1.2.1 hd ht (kt (fun q => by cases q) p e R s m args below meth c G H locs cells slots Q arr X hw hS hV hF)
  | float o => exact lv_ifnonnull X.1.1 X.1.2.1 hd ht (kt (fun q => by cases q) p e R s m args below meth c G H locs cells slots Q arr X hw hS hV hF)
  | null => exact lv_ifnonnullN X.1.1 X.1.2.1 hd (kf rfl p e R s m args below meth c G H locs cells slots Q arr X hw hS hV hF)
  | _ => exact hv.elim
