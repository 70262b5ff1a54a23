/-! System.arraycopy of whole rows; Arrays.fill -/
def am_cpI (h : Am_H) (o1 o0 : Nat) : Am_H := (h.1, fun q j => if q = o1 then h.2.1 o0 j else h.2.1 q j, h.2.2)
def am_cpL (h : Am_H) (o1 o0 : Nat) : Am_H := (h.1, h.2.1, fun q j => if q = o1 then h.2.2.1 o0 j else h.2.2.1 q j, h.2.2.2)
theorem am_cp1 : Cond.native arraycopyName ∈ am_TB := am_TBin 614 (by decide +kernel)
theorem am_cp2 : Cond.static arraycopyName ∈ am_TB := am_TBin 613 (by decide +kernel)
theorem am_cp3 : Cond.initialized "java/lang/System" ∈ am_TB := am_TBin 139 (by decide +kernel)
theorem am_S_cpI (h : Am_H) (o1 o0 : Nat) : am_S (am_cpI h o1 o0) = am_S h := rfl
theorem am_P_cpI (h : Am_H) (o1 o0 : Nat) : am_P (am_cpI h o1 o0) = am_P h := rfl
theorem am_L_cpI (h : Am_H) (o1 o0 : Nat) : am_L (am_cpI h o1 o0) = am_L h := rfl
theorem am_N_cpI (h : Am_H) (o1 o0 : Nat) : am_N (am_cpI h o1 o0) = am_N h := rfl
theorem am_I_cpI (h : Am_H) (o1 o0 q j : Nat) : am_I (am_cpI h o1 o0) q j = if q = o1 then am_I h o0 j else am_I h q j := rfl
theorem am_S_cpL (h : Am_H) (o1 o0 : Nat) : am_S (am_cpL h o1 o0) = am_S h := rfl
theorem am_P_cpL (h : Am_H) (o1 o0 : Nat) : am_P (am_cpL h o1 o0) = am_P h := rfl
theorem am_I_cpL (h : Am_H) (o1 o0 : Nat) : am_I (am_cpL h o1 o0) = am_I h := rfl
theorem am_N_cpL (h : Am_H) (o1 o0 : Nat) : am_N (am_cpL h o1 o0) = am_N h := rfl
theorem am_L_cpL (h : Am_H) (o1 o0 q j : Nat) : am_L (am_cpL h o1 o0) q j = if q = o1 then am_L h o0 j else am_L h q j := rfl
theorem am_arrV_congr {cI : ClassId} {n : Nat} {f g : Nat → Value} (h : ∀ j, j < n → f j = g j) : arrV cI n f = arrV cI n g := by
  unfold arrV
  congr 2
  funext j
  exact h j.val j.isLt
section
variable {l : Am_L} {mi d rc rs pc index : Nat} {ls : List (Option Value)} {st : List Value} {h : Am_H} {K : Am_R → Am_H → Prop} {o0 o1 n : Nat}
set_option maxHeartbeats 1000000 in
theorem jr_copyI (hd : decode (am_b mi) pc = .ok (.invokestatic index, 3)) (hl : Cond.methodLink (am_y mi).cls index arraycopyName ∈ am_TB) (hn : n < 2 ^ 31) (hs0 : am_S h o0 = (2, n)) (hs1 : am_S h o1 = (2, n)) (hst : (st.map fun v => v.category).sum ≤ 8) (k : am_J l mi d rc rs (pc + 3) ls st (am_cpI h o1 o0) K) : am_J l mi d rc rs pc ls (.int (nI n) :: .int 0 :: .ref o1 :: .int 0 :: .ref o0 :: st) h K := by
  intro p e R s m args below meth c G H locs cells slots Q arr X hw hS hV hF
  have hts := X.1.2.2.2.2.2.1
  have hX := X.2
  have hc0 := hw.2 o0
  have hc1 := hw.2 o1
  unfold am_cell at hc0 hc1
  rw [hs0] at hc0
  rw [hs1] at hc1
  have hc0 : H[G.1 + o0]? = some (arrV (G.2.2.2.1 2) n (fun j => .int (am_I h o0 j))) := hc0
  have hc1 : H[G.1 + o1]? = some (arrV (G.2.2.2.1 2) n (fun j => .int (am_I h o1 j))) := hc1
  have hnn : (nI n).toInt = (n : Int) := nI_toInt hn
  have hcl : (nI n).toNatClampNeg = n := nI_clamp hn
  obtain ⟨-, k0, hk0, cm0, hkk0⟩ := (X.2.2.2.1.2 0 _ rfl).1 n (fun j => .int (am_I h o0 j))
  intro T hT Y
  obtain ⟨vm', X', step⟩ := Y.arraycopy X.1.1 X.1.2.2.2.2.1 (hts _ hl) (hts _ am_cp1) (hts _ am_cp2) (hts _ am_cp3) (src := G.1 + o0) (dst := G.1 + o1) (cs := arrV (G.2.2.2.1 2) n (fun j => .int (am_I h o0 j))) (cd := arrV (G.2.2.2.1 2) n (fun j => .int (am_I h o1 j))) (srcPos := 0) (destPos := 0) (n := nI n) (by rw [hT]; exact hc0) (by rw [hT]; exact hc1)
    (fun _ h => by cases h) (fun _ h => by cases h) (fun h => by cases h) (fun h => by cases h) hk0 hk0 hkk0 hkk0 rfl (by decide) (by decide) (nI_pos hn)
    (by rw [hnn, arrV_size]; simp) (by rw [hnn, arrV_size]; simp)
    (fun vm₁ _ i hi => by
      rw [hcl] at hi
      have e : (arrV (G.2.2.2.1 2) n (fun j => .int (am_I h o0 j))).slots.getD ((0 : Int32).toNatClampNeg + i) .null = .int (am_I h o0 i) := by
        rw [Array.getD_eq_getD_getElem?, show (0 : Int32).toNatClampNeg + i = i from Nat.zero_add i, arrV_read _ _ (by omega)]
        rfl
      rw [e]
      exact ⟨rfl, trivial⟩)
    (g := F0 m pc arr (.int (nI n) :: .int 0 :: .ref (G.1 + o1) :: .int 0 :: .ref (G.1 + o0) :: st.map (am_c G))) rfl (hV.1.trans X.1.2.2.2.1.symm) (rest := st.map (am_c G)) rfl (by rw [X.1.2.1]; exact hd) (by omega) (by
      show 2 * 0 + ((st.map (am_c G)).map fun v => v.category).sum + _ ≤ _
      rw [am_cats]
      have : nativeFrameWords "java/lang/System" "arraycopy" 5 + 11 ≤ 150 := by decide +kernel
      omega)
  have e1 : copied (arrV (G.2.2.2.1 2) n (fun j => .int (am_I h o0 j))) (arrV (G.2.2.2.1 2) n (fun j => .int (am_I h o1 j))) 0 0 (nI n) = arrV (G.2.2.2.1 2) n (fun j => .int (am_I h o0 j)) := by
    have e2 := va_copied (fun z => Value.int z) (G.2.2.2.1 2) (G.2.2.2.1 2) (n0 := n) (n1 := n) (sp := 0) (dp := 0) (n := n) (am_I h o0) (am_I h o1) (by omega)
    have e3 : copied (arrV (G.2.2.2.1 2) n (fun j => .int (am_I h o0 j))) (arrV (G.2.2.2.1 2) n (fun j => .int (am_I h o1 j))) 0 0 (nI n) = (arrV (G.2.2.2.1 2) n (fun j => .int (am_I h o1 j))).storeRun 0 ((arrV (G.2.2.2.1 2) n (fun j => .int (am_I h o0 j))).stretch 0 n) := by
      unfold copied
      rw [hcl]
      rfl
    rw [e3, e2]
    refine am_arrV_congr fun j hj => ?_
    show Value.int (va_cpy _ _ 0 0 n j) = _
    rw [va_cpy, if_pos (by omega), Nat.zero_add, Nat.sub_zero]
  rw [e1] at X' step
  have hl1 : G.1 + o1 < H.size := (Array.getElem?_eq_some_iff.mp hc1).1
  have oq : ∀ q : Nat, q ≠ G.1 + o1 → (H.setIfInBounds (G.1 + o1) (arrV (G.2.2.2.1 2) n (fun j => .int (am_I h o0 j))))[q]? = H[q]? := fun q hq => by simp [Array.getElem?_setIfInBounds, Ne.symm hq]
  have hheap : ((T.setVm vm').setCell (G.1 + o1) (arrV (G.2.2.2.1 2) n (fun j => .int (am_I h o0 j)))).heap = H.setIfInBounds (G.1 + o1) (arrV (G.2.2.2.1 2) n (fun j => .int (am_I h o0 j))) := by rw [← hT]; rfl
  have hw2 : am_W G (am_cpI h o1 o0) (H.setIfInBounds (G.1 + o1) (arrV (G.2.2.2.1 2) n (fun j => .int (am_I h o0 j)))) := by
    refine am_W_arr (o := o1) hw rfl rfl (fun q hq => ⟨fun j => ?_, fun j => rfl, fun j => rfl⟩) ?_ (by simp) oq
    · rw [am_I_cpI, if_neg hq]
    · unfold am_cell
      rw [am_S_cpI, hs1]
      show (H.setIfInBounds (G.1 + o1) _)[G.1 + o1]? = _
      rw [Array.getElem?_setIfInBounds, if_pos rfl, if_pos hl1]
      simp only [am_I_cpI, if_true]
  obtain ⟨t, a1, b1⟩ := k p e R s m args below meth c G _ _ cells slots Q arr X hw2 ⟨by simp; exact hS.1, fun q g1 g2 => by
      rw [oq q (fun z => g2 (by rw [z]; show G.1 ≤ G.1 + o1; omega))]
      exact hS.2.1 q g1 g2, fun q hq => by
      rcases List.mem_append.mp hq with z | z
      · exact hS.2.2 q z
      · obtain ⟨y, -, hy⟩ := List.mem_map.mp z
        rw [← hy]
        show G.1 ≤ G.1 + o1
        omega⟩ hV hF _ hheap X'
  exact ⟨t, step t a1, b1⟩
set_option maxHeartbeats 1000000 in
theorem jr_copyL (hd : decode (am_b mi) pc = .ok (.invokestatic index, 3)) (hl : Cond.methodLink (am_y mi).cls index arraycopyName ∈ am_TB) (hn : n < 2 ^ 31) (hs0 : am_S h o0 = (4, n)) (hs1 : am_S h o1 = (4, n)) (hst : (st.map fun v => v.category).sum ≤ 8) (k : am_J l mi d rc rs (pc + 3) ls st (am_cpL h o1 o0) K) : am_J l mi d rc rs pc ls (.int (nI n) :: .int 0 :: .ref o1 :: .int 0 :: .ref o0 :: st) h K := by
  intro p e R s m args below meth c G H locs cells slots Q arr X hw hS hV hF
  have hts := X.1.2.2.2.2.2.1
  have hX := X.2
  have hc0 := hw.2 o0
  have hc1 := hw.2 o1
  unfold am_cell at hc0 hc1
  rw [hs0] at hc0
  rw [hs1] at hc1
  have hc0 : H[G.1 + o0]? = some (arrV (G.2.2.2.1 4) n (fun j => .long (am_L h o0 j))) := hc0
  have hc1 : H[G.1 + o1]? = some (arrV (G.2.2.2.1 4) n (fun j => .long (am_L h o1 j))) := hc1
  have hnn : (nI n).toInt = (n : Int) := nI_toInt hn
  have hcl : (nI n).toNatClampNeg = n := nI_clamp hn
  obtain ⟨-, k0, hk0, cm0, hkk0⟩ := (X.2.2.2.1.2 2 _ rfl).1 n (fun j => .long (am_L h o0 j))
  intro T hT Y
  obtain ⟨vm', X', step⟩ := Y.arraycopy X.1.1 X.1.2.2.2.2.1 (hts _ hl) (hts _ am_cp1) (hts _ am_cp2) (hts _ am_cp3) (src := G.1 + o0) (dst := G.1 + o1) (cs := arrV (G.2.2.2.1 4) n (fun j => .long (am_L h o0 j))) (cd := arrV (G.2.2.2.1 4) n (fun j => .long (am_L h o1 j))) (srcPos := 0) (destPos := 0) (n := nI n) (by rw [hT]; exact hc0) (by rw [hT]; exact hc1)
    (fun _ h => by cases h) (fun _ h => by cases h) (fun h => by cases h) (fun h => by cases h) hk0 hk0 hkk0 hkk0 rfl (by decide) (by decide) (nI_pos hn)
    (by rw [hnn, arrV_size]; simp) (by rw [hnn, arrV_size]; simp)
    (fun vm₁ _ i hi => by
      rw [hcl] at hi
      have e : (arrV (G.2.2.2.1 4) n (fun j => .long (am_L h o0 j))).slots.getD ((0 : Int32).toNatClampNeg + i) .null = .long (am_L h o0 i) := by
        rw [Array.getD_eq_getD_getElem?, show (0 : Int32).toNatClampNeg + i = i from Nat.zero_add i, arrV_read _ _ (by omega)]
        rfl
      rw [e]
      exact ⟨rfl, trivial⟩)
    (g := F0 m pc arr (.int (nI n) :: .int 0 :: .ref (G.1 + o1) :: .int 0 :: .ref (G.1 + o0) :: st.map (am_c G))) rfl (hV.1.trans X.1.2.2.2.1.symm) (rest := st.map (am_c G)) rfl (by rw [X.1.2.1]; exact hd) (by omega) (by
      show 2 * 0 + ((st.map (am_c G)).map fun v => v.category).sum + _ ≤ _
      rw [am_cats]
      have : nativeFrameWords "java/lang/System" "arraycopy" 5 + 11 ≤ 150 := by decide +kernel
      omega)
  have e1 : copied (arrV (G.2.2.2.1 4) n (fun j => .long (am_L h o0 j))) (arrV (G.2.2.2.1 4) n (fun j => .long (am_L h o1 j))) 0 0 (nI n) = arrV (G.2.2.2.1 4) n (fun j => .long (am_L h o0 j)) := by
    have e2 := va_copied (fun z => Value.long z) (G.2.2.2.1 4) (G.2.2.2.1 4) (n0 := n) (n1 := n) (sp := 0) (dp := 0) (n := n) (am_L h o0) (am_L h o1) (by omega)
    have e3 : copied (arrV (G.2.2.2.1 4) n (fun j => .long (am_L h o0 j))) (arrV (G.2.2.2.1 4) n (fun j => .long (am_L h o1 j))) 0 0 (nI n) = (arrV (G.2.2.2.1 4) n (fun j => .long (am_L h o1 j))).storeRun 0 ((arrV (G.2.2.2.1 4) n (fun j => .long (am_L h o0 j))).stretch 0 n) := by
      unfold copied
      rw [hcl]
      rfl
    rw [e3, e2]
    refine am_arrV_congr fun j hj => ?_
    show Value.long (va_cpy _ _ 0 0 n j) = _
    rw [va_cpy, if_pos (by omega), Nat.zero_add, Nat.sub_zero]
  rw [e1] at X' step
  have hl1 : G.1 + o1 < H.size := (Array.getElem?_eq_some_iff.mp hc1).1
  have oq : ∀ q : Nat, q ≠ G.1 + o1 → (H.setIfInBounds (G.1 + o1) (arrV (G.2.2.2.1 4) n (fun j => .long (am_L h o0 j))))[q]? = H[q]? := fun q hq => by simp [Array.getElem?_setIfInBounds, Ne.symm hq]
  have hheap : ((T.setVm vm').setCell (G.1 + o1) (arrV (G.2.2.2.1 4) n (fun j => .long (am_L h o0 j)))).heap = H.setIfInBounds (G.1 + o1) (arrV (G.2.2.2.1 4) n (fun j => .long (am_L h o0 j))) := by rw [← hT]; rfl
  have hw2 : am_W G (am_cpL h o1 o0) (H.setIfInBounds (G.1 + o1) (arrV (G.2.2.2.1 4) n (fun j => .long (am_L h o0 j)))) := by
    refine am_W_arr (o := o1) hw rfl rfl (fun q hq => ⟨fun j => rfl, fun j => ?_, fun j => rfl⟩) ?_ (by simp) oq
    · rw [am_L_cpL, if_neg hq]
    · unfold am_cell
      rw [am_S_cpL, hs1]
      show (H.setIfInBounds (G.1 + o1) _)[G.1 + o1]? = _
      rw [Array.getElem?_setIfInBounds, if_pos rfl, if_pos hl1]
      simp only [am_L_cpL, if_true]
  obtain ⟨t, a1, b1⟩ := k p e R s m args below meth c G _ _ cells slots Q arr X hw2 ⟨by simp; exact hS.1, fun q g1 g2 => by
      rw [oq q (fun z => g2 (by rw [z]; show G.1 ≤ G.1 + o1; omega))]
      exact hS.2.1 q g1 g2, fun q hq => by
      rcases List.mem_append.mp hq with z | z
      · exact hS.2.2 q z
      · obtain ⟨y, -, hy⟩ := List.mem_map.mp z
        rw [← hy]
        show G.1 ≤ G.1 + o1
        omega⟩ hV hF _ hheap X'
  exact ⟨t, step t a1, b1⟩
theorem d172_0 : decode (am_b 172) 0 = .ok (.iconst 0, 1) := by decide +kernel
theorem d172_1 : decode (am_b 172) 1 = .ok (.istore_n 2, 1) := by decide +kernel
theorem d172_2 : decode (am_b 172) 2 = .ok (.aload_n 0, 1) := by decide +kernel
theorem d172_3 : decode (am_b 172) 3 = .ok (.arraylength, 1) := by decide +kernel
theorem d172_4 : decode (am_b 172) 4 = .ok (.istore_n 3, 1) := by decide +kernel
theorem d172_5 : decode (am_b 172) 5 = .ok (.iload_n 2, 1) := by decide +kernel
theorem d172_6 : decode (am_b 172) 6 = .ok (.iload_n 3, 1) := by decide +kernel
theorem d172_7 : decode (am_b 172) 7 = .ok (.if_icmp .ge 13, 3) := by decide +kernel
theorem d172_10 : decode (am_b 172) 10 = .ok (.aload_n 0, 1) := by decide +kernel
theorem d172_11 : decode (am_b 172) 11 = .ok (.iload_n 2, 1) := by decide +kernel
theorem d172_12 : decode (am_b 172) 12 = .ok (.iload_n 1, 1) := by decide +kernel
theorem d172_13 : decode (am_b 172) 13 = .ok (.iastore, 1) := by decide +kernel
theorem d172_14 : decode (am_b 172) 14 = .ok (.iinc 2 1, 3) := by decide +kernel
theorem d172_17 : decode (am_b 172) 17 = .ok (.goto (-12), 3) := by decide +kernel
theorem d172_20 : decode (am_b 172) 20 = .ok (.return_, 1) := by decide +kernel
theorem l172 : am_l 172 = 4 := rfl
theorem M_fill_loop {o : Nat} {x : Int32} (hn : n < 2 ^ 31) (hs : am_S h o = (2, n)) (hK : ∀ h', am_fr h h' (fun q => q = o) → (∀ i, i < n → am_I h' o i = x) → K (.inl none) h') : ∀ (j k : Nat) (hk : Am_H), k + j = n → am_fr h hk (fun q => q = o) → (∀ i, i < k → am_I hk o i = x) → am_J l 172 d 0 0 5 [some (.ref o), some (.int x), some (.int (nI k)), some (.int (nI n))] [] hk K := by
  intro j
  induction j with
  | zero =>
    intro k hk hkj e hi
    have : k = n := by omega
    subst this
    refine jr_iload_n (i := 2) d172_5 rfl rfl (jr_iload_n (i := 3) d172_6 rfl rfl (jr_icmp_ge (tgt := 20) d172_7 (by decide) (fun _ => jr_return d172_20 rfl (hK _ e hi)) (fun z => absurd (Int32.le_refl _) z)))
  | succ j ih =>
    intro k hk hkj e hi
    have hck : (nI k).toNatClampNeg = k := nI_clamp (by omega)
    refine jr_iload_n (i := 2) d172_5 rfl rfl (jr_iload_n (i := 3) d172_6 rfl rfl (jr_icmp_ge (tgt := 20) d172_7 (by decide) (fun z => absurd z (nI_ge (by omega) (by omega))) (fun _ => ?_)))
    refine jr_aload_n (i := 0) d172_10 rfl rfl trivial (jr_iload_n (i := 2) d172_11 rfl rfl (jr_iload_n (i := 1) d172_12 rfl rfl (jr_iast d172_13 (n := n) (by rw [e.1]; exact hs) (vp_in_nI (by omega) (by omega)) ?_)))
    rw [hck]
    refine jr_iinc (i := 2) (v := 1) d172_14 rfl rfl (by decide) trivial (jr_goto (tgt := 5) d172_17 (by decide) ?_)
    have := ih (k + 1) (am_wI hk o k x) (by omega) (e.w rfl) (fun i hik => by
      rw [am_I_wI]
      by_cases z : i = k
      · rw [if_pos ⟨rfl, z⟩]
      · rw [if_neg (fun q => z q.2)]; exact hi i (by omega))
    rw [nI_succ] at this
    exact this
theorem M_fill {o : Nat} {x : Int32} (hn : n < 2 ^ 31) (hs : am_S h o = (2, n)) (hK : ∀ h', am_fr h h' (fun q => q = o) → (∀ i, i < n → am_I h' o i = x) → K (.inl none) h') : am_M l d 0 0 172 [.ref o, .int x] h K := by
  refine am_enter (mi := 172) (by decide +kernel) (Nat.le_of_ble_eq_true rfl) (by decide) ?_
  rw [l172]
  refine jr_iconst (v := 0) d172_0 (by decide) (jr_istore_n (i := 2) d172_1 rfl (by decide) trivial (jr_aload_n (i := 0) d172_2 rfl rfl trivial (jr_alen d172_3 hs (Or.inl rfl) (jr_istore_n (i := 3) d172_4 rfl (by decide) trivial ?_))))
  exact M_fill_loop hn hs hK n 0 h (by omega) am_fr.rf (fun i q => by omega)
end
