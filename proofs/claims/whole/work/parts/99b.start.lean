/-! the start: what holds at the law's entry -/
def sw_t (i : Nat) : Term := .string (am_strs.getD i ("", 0, "")).1 (am_strs.getD i ("", 0, "")).2.1
def sw_v (i : Nat) : Term := .field (sw_t i) "java/lang/String" "value" "[B"
def sw_w (i : Nat) : List Cond := [.exactly (sw_t i) "java/lang/String", .eq (.field (sw_t i) "java/lang/String" "coder" "B") (.int 0), .arrayOf (sw_v i) .byte, .eq (.length (sw_v i)) (.int (Int32.ofNat (am_byt.getD i []).length))] ++ (List.range (am_byt.getD i []).length).map (fun j => .eq (.elem (sw_v i) (.int (Int32.ofNat j))) (.int ((am_byt.getD i []).getD j 0)))
def sw_p : List Nat := [35, 69, 78, 88, 97, 105, 113, 122, 129, 138, 149, 158, 167, 177, 186, 194, 202, 219, 235, 261, 287, 312, 338, 369, 397, 445, 455, 463, 473, 485, 496, 506, 515, 524, 534, 544, 553, 562, 572, 582]
def sw_q : List Nat := [668, 711, 776, 781, 786, 791, 800, 801, 802, 803, 808, 809, 814, 815, 816, 817, 838, 856, 858, 873, 896, 910, 977, 1055, 1098, 1114, 1115, 1116, 1117, 1118, 1119, 1120, 1121, 1366, 1373, 1374, 1379, 1392, 1397, 1402]
theorem sw_ok : (List.range 40).all (fun i => decide (((flatC (Jvm.Cond.and given_1 narrow_1)).drop (sw_p.getD i 0)).take (sw_w i).length = sw_w i)) = true := by decide +kernel
theorem sw_in {args : Array Value} {s : State} (h : (Jvm.Cond.and given_1 narrow_1).before args s = true) {i : Nat} (hi : i < 40) : ∀ w ∈ sw_w i, w.before args s = true := fun w hw => by
  have e := of_decide_eq_true (List.all_eq_true.mp sw_ok i (List.mem_range.mpr hi))
  refine flat_of_before _ h w (List.mem_of_mem_drop (i := sw_p.getD i 0) (List.mem_of_mem_take (i := (sw_w i).length) ?_))
  rw [e]
  exact hw
theorem sw_len : (List.range 40).all (fun i => decide ((am_byt.getD i []).length < 2 ^ 31)) = true := by decide +kernel
theorem sw_T {args : Array Value} {s : State} {A : Nat → Prop} (h : (Jvm.Cond.and given_1 narrow_1).before args s = true) (hA : ∀ a : Nat, a < s.heap.size → ¬ A a) : ∃ ad : Nat → Nat × Nat, ∀ i, i < 40 → (sw_t i).eval args s none [] s = some (.ref (ad i).1) ∧ va_O "java/lang/String" (ad i).1 A s s.heap ∧ va_OF "java/lang/String" "coder" "B" (.int 0) (ad i).1 A s s.heap ∧ va_OF "java/lang/String" "value" "[B" (.ref (ad i).2) (ad i).1 A s s.heap ∧ va_T .byte (ad i).2 (am_byt.getD i []).length (fun j => .int ((am_byt.getD i []).getD j 0)) A s s.heap := by
  have h0 : ∀ i : Nat, ∃ q : Nat × Nat, i < 40 → (sw_t i).eval args s none [] s = some (.ref q.1) ∧ va_O "java/lang/String" q.1 A s s.heap ∧ va_OF "java/lang/String" "coder" "B" (.int 0) q.1 A s s.heap ∧ va_OF "java/lang/String" "value" "[B" (.ref q.2) q.1 A s s.heap ∧ va_T .byte q.2 (am_byt.getD i []).length (fun j => .int ((am_byt.getD i []).getD j 0)) A s s.heap := by
    intro i
    by_cases hi : i < 40
    · have hw := sw_in h hi
      have hex : (Cond.exactly (sw_t i) "java/lang/String").before args s = true := hw _ (List.mem_append_left _ List.mem_cons_self)
      have hco : (Cond.eq (.field (sw_t i) "java/lang/String" "coder" "B") (.int 0)).before args s = true := hw _ (List.mem_append_left _ (List.mem_cons_of_mem _ List.mem_cons_self))
      have har : (Cond.arrayOf (sw_v i) .byte).before args s = true := hw _ (List.mem_append_left _ (List.mem_cons_of_mem _ (List.mem_cons_of_mem _ List.mem_cons_self)))
      have hle : (Cond.eq (.length (sw_v i)) (.int (Int32.ofNat (am_byt.getD i []).length))).before args s = true := hw _ (List.mem_append_left _ (List.mem_cons_of_mem _ (List.mem_cons_of_mem _ (List.mem_cons_of_mem _ List.mem_cons_self))))
      have hel : ∀ j : Nat, j < (am_byt.getD i []).length → (Cond.eq (.elem (sw_v i) (.int (Int32.ofNat j))) (.int ((am_byt.getD i []).getD j 0))).before args s = true := fun j hj => hw _ (List.mem_append_right _ (List.mem_map.mpr ⟨j, List.mem_range.mpr hj, rfl⟩))
      obtain ⟨a, c, cA, kA, q1, q2, q3, q4, q5, q6, -⟩ := Cond.exactly_spec (args := args) (first := s) (o := none) (s := s) (idx := []) (t := sw_t i) (cls := "java/lang/String") hex
      have hl31 : (am_byt.getD i []).length < 2 ^ 31 := of_decide_eq_true (List.all_eq_true.mp sw_len i (List.mem_range.mpr hi))
      obtain ⟨t, ht, hT⟩ := va_Tof (f := fun j => .int ((am_byt.getD i []).getD j 0)) (A := A) hl31 har (va_eqt hle) (fun j hj => va_eqt (hel j hj)) hA
      exact ⟨(a, t), fun _ => ⟨q1, ⟨cA, q3, q5, by rw [q6]; exact q2, hA a (Array.getElem?_eq_some_iff.mp q3).1⟩, vk_OFof q1 (va_eqt hco) hA, vk_OFof q1 ht hA, hT⟩⟩
    · exact ⟨(0, 0), fun h => absurd h hi⟩
  obtain ⟨ad, had⟩ := Classical.axiomOfChoice h0
  exact ⟨ad, fun i hi => had i hi⟩
theorem sw_r : (List.range 40).all (fun i => decide (lw_tbl[sw_q.getD i 0]? = some (Cond.stringRef (am_strs.getD i ("", 0, "")).1 (am_strs.getD i ("", 0, "")).2.1 (am_strs.getD i ("", 0, "")).2.2))) = true := by decide +kernel
def sw_i : List (Nat × Nat) := [(7, 274), (13, 268), (4, 378), (4, 916), (11, 192), (3, 427), (5, 399), (11, 149), (1, 366), (12, 141), (68, 1107)]
theorem sw_in9 : (List.range 11).all (fun i => decide (lw_tbl[(sw_i.getD i (0, 0)).2]? = some (Cond.instantiable ((vwCl.map fun q => q.1).getD i "") (sw_i.getD i (0, 0)).1))) = true := by decide +kernel
theorem am_start {l : Launch} {s : State} {b L : Nat} {xs : Nat → Int32} (hst : l.stackTraces = false) (hts : ∀ w ∈ lw_tbl, w.before #[Value.ref b] s = true) (hX : va_X b L xs s s.heap) (hbl : b < s.heap.size) (hgv : (Jvm.Cond.and given_1 narrow_1).before #[Value.ref b] s = true) : ∃ G : Am_G, am_K (l, L, xs) G s ∧ G.1 = s.heap.size ∧ G.2.2.2.2 9999 = b := by
  have hA : ∀ a : Nat, a < s.heap.size → ¬ (fun q : Nat => s.heap.size ≤ q) a := fun a ha => Nat.not_le.mpr ha
  have hfl := flat_of_before _ hgv
  have htb : ∀ w ∈ am_TB, w.before #[Value.ref b] s = true := fun w hw => hts w (List.mem_filter.mp hw).1
  obtain ⟨ad, had⟩ := sw_T (A := fun q : Nat => s.heap.size ≤ q) hgv hA
  have hf0 : (Cond.isRef (.static "jdk/internal/util/Preconditions" "SIOOBE_FORMATTER" "Ljava/util/function/BiFunction;")).before #[Value.ref b] s = true := hfl _ (by decide +kernel)
  have hf1 : va_Zq "jdk/internal/util/Preconditions" "SIOOBE_FORMATTER" "Ljava/util/function/BiFunction;" (fun q : Nat => s.heap.size ≤ q) s s.heap := va_Zqof (hts _ (List.mem_of_getElem? (i := 741) (by decide +kernel))) (hts _ (List.mem_of_getElem? (i := 135) (by decide +kernel))) hf0 hA
  obtain ⟨fm, hfm⟩ : ∃ fm : Nat, ∃ fv : Value, (fv = .null ∨ fv = .ref fm) ∧ va_Z "jdk/internal/util/Preconditions" "SIOOBE_FORMATTER" "Ljava/util/function/BiFunction;" fv (fun q : Nat => s.heap.size ≤ q) s s.heap := by
    rcases hf1 with w | ⟨t, w⟩
    · exact ⟨0, _, Or.inl rfl, w⟩
    · exact ⟨t, _, Or.inr rfl, w⟩
  have hin : ∀ i, i < 11 → lw_tbl[(sw_i.getD i (0, 0)).2]? = some (Cond.instantiable ((vwCl.map fun q => q.1).getD i "") (sw_i.getD i (0, 0)).1) := fun i hi => of_decide_eq_true (List.all_eq_true.mp sw_in9 i (List.mem_range.mpr hi))
  have hcls : ∀ k : Nat, ∃ z : ClassId × (Nat → Nat), ∀ q : vw_C, vwCl[k]? = some q → u_Kn s q.1 q.2.1 q.2.2 z.1 z.2 := by
    intro k
    cases hq : vwCl[k]? with
    | none => exact ⟨(0, fun _ => 0), fun q h => nomatch h⟩
    | some q =>
      have hk : k < 11 := (List.getElem?_eq_some_iff.mp hq).1
      have hi := hts _ (List.mem_of_getElem? (hin k hk))
      have en : (vwCl.map fun q => q.1).getD k "" = q.1 := by
        rw [List.getD_eq_getElem?_getD, List.getElem?_map, hq]; rfl
      rw [en] at hi
      obtain ⟨cC, iS, hKn⟩ := u_known (C := q.1) (T := q.2.1) (N := q.2.2) htb (am_CKall (ci := k) (C := q.1) (T := q.2.1) (N := q.2.2) hq).1 hi
      exact ⟨(cC, iS), fun q2 h => by cases h; exact hKn⟩
  obtain ⟨cl, hcl⟩ := Classical.axiomOfChoice hcls
  obtain ⟨c2, k2, p2, f2, g2, e2⟩ := Cond.arrayClass_spec (hts (.arrayClass .int) (List.mem_of_getElem? (i := 266) (by decide +kernel)))
  obtain ⟨c3, k3, p3, f3, g3, e3⟩ := Cond.arrayClass_spec (hts (.arrayClass .byte) (List.mem_of_getElem? (i := 190) (by decide +kernel)))
  obtain ⟨c4, k4, p4, f4, g4, e4⟩ := Cond.arrayClass_spec (hts (.arrayClass .long) (List.mem_of_getElem? (i := 364) (by decide +kernel)))
  have hao : (Cond.arrayOver (.object "java/lang/String")).before #[Value.ref b] s = true := hts _ (List.mem_of_getElem? (i := 1113) (by decide +kernel))
  obtain ⟨p5, c5, k5, d5, -, g5, e5, f5⟩ := Cond.arrayOver_spec hao
  refine ⟨(s.heap.size, fun k => (cl k).1, fun k => (cl k).2, fun k => if k = 2 then c2 else if k = 3 then c3 else if k = 4 then c4 else c5, fun i => if i = 9999 then b else if i = 9998 then fm else if i < 1000 then (ad i).1 else (ad (i - 1000)).2), ⟨⟨fun k q hq => hcl k q hq, fun k q hk => ?_⟩, Nat.le_refl _, ⟨hst, ?_, ?_, fun i hi => ?_, ?_, ?_, ⟨hX, ?_⟩, ?_, ?_⟩, fun i q hi => ?_, fun w hw => ?_⟩, rfl, rfl⟩
  · match k, hk with
    | 0, hk => cases hk; exact ⟨fun n z => ⟨fun k h => (by cases h), k2, g2, p2, e2⟩, f2⟩
    | 1, hk => cases hk; exact ⟨fun n z => ⟨fun k h => (by cases h), k3, g3, p3, e3⟩, f3⟩
    | 2, hk => cases hk; exact ⟨fun n z => ⟨fun k h => (by cases h), k4, g4, p4, e4⟩, f4⟩
    | 3, hk => cases hk; exact ⟨fun n z => ⟨fun k h => (by cases h), k5, g5, p5, e5⟩, k5, p5, g5, e5, d5, f5⟩
    | k + 4, hk => exact nomatch hk
  · exact vx_Zqof (hts _ (List.mem_of_getElem? (i := 655) (by decide +kernel))) (hts _ (List.mem_of_getElem? (i := 128) (by decide +kernel))) (hfl _ (by decide +kernel)) hA
  · exact vx_Zqof (hts _ (List.mem_of_getElem? (i := 657) (by decide +kernel))) (hts _ (List.mem_of_getElem? (i := 128) (by decide +kernel))) (hfl _ (by decide +kernel)) hA
  · have hi : i < 40 := hi
    obtain ⟨-, t1, t2, t3, t4⟩ := had i hi
    have e1 : (if i = 9999 then b else if i = 9998 then fm else if i < 1000 then (ad i).1 else (ad (i - 1000)).2) = (ad i).1 := by rw [if_neg (by omega), if_neg (by omega), if_pos (by omega)]
    have e2 : (if i + 1000 = 9999 then b else if i + 1000 = 9998 then fm else if i + 1000 < 1000 then (ad (i + 1000)).1 else (ad (i + 1000 - 1000)).2) = (ad i).2 := by rw [if_neg (by omega), if_neg (by omega), if_neg (by omega), Nat.add_sub_cancel]
    unfold am_T am_A
    dsimp only
    rw [e1, e2]
    exact ⟨t1, t2, t3, t4⟩
  · exact va_Zof (hts _ (List.mem_of_getElem? (i := 725) (by decide +kernel))) (hts _ (List.mem_of_getElem? (i := 133) (by decide +kernel))) (va_eqt (hfl _ (by decide +kernel))) hA
  · exact hfm
  · exact hA b hbl
  · exact va_Nc.of (hfl _ (by decide +kernel))
  · exact va_AO.of hao
  · have hi40 : i < 40 := (List.getElem?_eq_some_iff.mp hi).1
    have hr := hts _ (List.mem_of_getElem? (of_decide_eq_true (List.all_eq_true.mp sw_r i (List.mem_range.mpr hi40))))
    have eq : am_strs.getD i ("", 0, "") = q := by rw [List.getD_eq_getElem?_getD, hi]; rfl
    rw [eq] at hr
    have ev := (had i hi40).1
    unfold sw_t at ev
    rw [eq] at ev
    have e1 : (if i = 9999 then b else if i = 9998 then fm else if i < 1000 then (ad i).1 else (ad (i - 1000)).2) = (ad i).1 := by rw [if_neg (by omega), if_neg (by omega), if_pos (by omega)]
    dsimp only
    rw [e1]
    exact vk_R.of hr ev
  · have := List.mem_filter.mp hw
    exact va_Nw.of (am_isN_tab this.2) (hts w this.1)
