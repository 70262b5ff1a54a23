/-! texts: String.length, String.charAt -/
theorem am_c_tx (G : Am_G) {i : Nat} (hi : i < 4000) : am_c G (.float (UInt32.ofNat i)) = .ref (G.2.2.2.2 i) := by
  show Value.ref (G.2.2.2.2 (UInt32.ofNat i).toNat) = _
  rw [UInt32.toNat_ofNat_of_lt' (by show i < 4294967296; omega)]
section
variable {l : Am_L} {mi d rc rs rc1 rs1 pc index cal n i : Nat} {ls : List (Option Value)} {st as : List Value} {h : Am_H} {K : Am_R → Am_H → Prop}
theorem jr_sgv (hi : i < am_nT) (hd : decode (am_b mi) pc = .ok (.getfield index, 3)) (hl : Cond.fieldLink (am_y mi).cls index "java/lang/String" "value" "[B" ∈ am_TB) (k : am_J l mi d rc rs (pc + 3) ls (.float (UInt32.ofNat (i + 1000)) :: st) h K) : am_J l mi d rc rs pc ls (.float (UInt32.ofNat i) :: st) h K := by
  intro p e R s m args below meth c G H locs cells slots Q arr X hw hS hV hF
  have hT := X.2.2.2.2.2.1.2.2.2.1 i hi
  have k1 := k p e R s m args below meth c G H locs cells slots Q arr X hw hS hV hF
  unfold am_nT at hi
  simp only [List.map_cons, am_c_tx G (show i < 4000 by omega), am_c_tx G (show i + 1000 < 4000 by omega)] at k1 ⊢
  exact vk_getf X.1.1 X.1.2.1 hT.2.2.1 hS X.1.2.2.2.2.1 (X.1.2.2.2.2.2.1 _ hl) (fun x q => q) hd k1
theorem jr_sgc (hi : i < am_nT) (hd : decode (am_b mi) pc = .ok (.getfield index, 3)) (hl : Cond.fieldLink (am_y mi).cls index "java/lang/String" "coder" "B" ∈ am_TB) (k : am_J l mi d rc rs (pc + 3) ls (.int 0 :: st) h K) : am_J l mi d rc rs pc ls (.float (UInt32.ofNat i) :: st) h K := by
  intro p e R s m args below meth c G H locs cells slots Q arr X hw hS hV hF
  have hT := X.2.2.2.2.2.1.2.2.2.1 i hi
  have k1 := k p e R s m args below meth c G H locs cells slots Q arr X hw hS hV hF
  unfold am_nT at hi
  simp only [List.map_cons, am_c_tx G (show i < 4000 by omega), am_c_int] at k1 ⊢
  exact vk_getf X.1.1 X.1.2.1 hT.2.1 hS X.1.2.2.2.2.1 (X.1.2.2.2.2.2.1 _ hl) (fun x q => q) hd k1
theorem jr_tlen (hi : i < am_nT) (hd : decode (am_b mi) pc = .ok (.arraylength, 1)) (k : am_J l mi d rc rs (pc + 1) ls (.int (nI (am_byt.getD i []).length) :: st) h K) : am_J l mi d rc rs pc ls (.float (UInt32.ofNat (i + 1000)) :: st) h K := by
  intro p e R s m args below meth c G H locs cells slots Q arr X hw hS hV hF
  have hT := X.2.2.2.2.2.1.2.2.2.1 i hi
  have k1 := k p e R s m args below meth c G H locs cells slots Q arr X hw hS hV hF
  unfold am_nT at hi
  simp only [List.map_cons, am_c_tx G (show i + 1000 < 4000 by omega), am_c_int] at k1 ⊢
  exact va_tlen X.1.1 X.1.2.1 hT.2.2.2 hS rfl hd k1
theorem jr_tbl {x : Int32} (hi : i < am_nT) (hd : decode (am_b mi) pc = .ok (.baload, 1)) (hin : vp_in x (am_byt.getD i []).length) (k : am_J l mi d rc rs (pc + 1) ls (.int ((am_byt.getD i []).getD x.toNatClampNeg 0) :: st) h K) : am_J l mi d rc rs pc ls (.int x :: .float (UInt32.ofNat (i + 1000)) :: st) h K := by
  intro p e R s m args below meth c G H locs cells slots Q arr X hw hS hV hF
  have hT := X.2.2.2.2.2.1.2.2.2.1 i hi
  have k1 := k p e R s m args below meth c G H locs cells slots Q arr X hw hS hV hF
  unfold am_nT at hi
  simp only [List.map_cons, am_c_tx G (show i + 1000 < 4000 by omega), am_c_int] at k1 ⊢
  exact va_tb X.1.1 X.1.2.1 hT.2.2.2 hS hin rfl hd k1
theorem jr_gcs (hd : decode (am_b mi) pc = .ok (.getstatic index, 3)) (hl : Cond.fieldLink (am_y mi).cls index "java/lang/String" "COMPACT_STRINGS" "Z" ∈ am_TB) (k : am_J l mi d rc rs (pc + 3) ls (.int 1 :: st) h K) : am_J l mi d rc rs pc ls st h K := by
  intro p e R s m args below meth c G H locs cells slots Q arr X hw hS hV hF
  have hE := X.2.2.2.2.2.1.2.2.2.2.1
  have k1 := k p e R s m args below meth c G H locs cells slots Q arr X hw hS hV hF
  simp only [List.map_cons, am_c_int] at k1
  exact va_gets X.1.1 X.1.2.1 hE hS X.1.2.2.2.2.1 (X.1.2.2.2.2.2.1 _ hl) (fun x q => q) hd k1
theorem jr_gfm (hd : decode (am_b mi) pc = .ok (.getstatic index, 3)) (hl : Cond.fieldLink (am_y mi).cls index "jdk/internal/util/Preconditions" "SIOOBE_FORMATTER" "Ljava/util/function/BiFunction;" ∈ am_TB) (k : ∀ v : Value, (v = .float 9998 ∨ v = .null) → am_J l mi d rc rs (pc + 3) ls (v :: st) h K) : am_J l mi d rc rs pc ls st h K := by
  intro p e R s m args below meth c G H locs cells slots Q arr X hw hS hV hF
  obtain ⟨fv, hfv, hE⟩ := X.2.2.2.2.2.1.2.2.2.2.2.1
  rcases hfv with rfl | rfl
  · have k1 := k .null (Or.inr rfl) p e R s m args below meth c G H locs cells slots Q arr X hw hS hV hF
    rw [List.map_cons, am_c_null] at k1
    exact va_gets X.1.1 X.1.2.1 hE hS X.1.2.2.2.2.1 (X.1.2.2.2.2.2.1 _ hl) (fun x q => q) hd k1
  · have k1 := k (.float 9998) (Or.inl rfl) p e R s m args below meth c G H locs cells slots Q arr X hw hS hV hF
    rw [List.map_cons, show am_c G (.float 9998) = .ref (G.2.2.2.2 9998) from rfl] at k1
    exact va_gets X.1.1 X.1.2.1 hE hS X.1.2.2.2.2.1 (X.1.2.2.2.2.2.1 _ hl) (fun x q => q) hd k1
theorem jr_invT (hi : i < am_nT) (hd : decode (am_b mi) pc = .ok (.invokevirtual index, 3)) (hl : am_lk mi cal index n) (hw1 : Cond.instanceMethod (am_y cal) ∈ am_TB) (hw2 : Cond.selects "java/lang/String" (am_y cal) (am_y cal) ∈ am_TB) (hn : as.length = n) (hst : (st.map fun v => v.category).sum ≤ 8)
    (hM : am_M l d rc1 rs1 cal (.float (UInt32.ofNat i) :: as) h (fun r h' => am_ok r (fun v => am_J l mi (d + 1) rc rs (pc + 3) ls (am_push v st) h' K))) : am_J l mi (d + 1) (rc1 + rc) (rs1 + rs) pc ls (as.reverse ++ .float (UInt32.ofNat i) :: st) h K := by
  intro p e R s m args below meth c G H locs cells slots Q arr X hw hS hV hF
  have hT := X.2.2.2.2.2.1.2.2.2.1 i hi
  unfold am_nT at hi
  have hts := X.1.2.2.2.2.2.1
  have hfix : CallFix p m c (am_b mi) (am_l mi) s args am_TB (am_y mi).cls := ⟨X.1.1, X.1.2.1, X.1.2.2.2.1, X.1.2.2.2.2.1, hts⟩
  have hpre : PreV s H "java/lang/String" (G.2.2.2.2 i) (va_Pc ((Value.float (UInt32.ofNat i) :: as).map (am_c G)) (fun U => am_K l G U ∧ am_W G h U.heap)) (as.map (am_c G)) :=
    ⟨am_blind, va_Orecv hT.1 hS, fun U hU hW => ⟨by rw [List.map_cons, am_c_tx G (show i < 4000 by omega)], X.2.2.2.call hS hU hW, by rw [hU]; exact hw⟩⟩
  have hstk : (as.reverse ++ Value.float (UInt32.ofNat i) :: st).map (am_c G) = (as.map (am_c G)).reverse ++ .ref (G.2.2.2.2 i) :: st.map (am_c G) := by simp [am_c_tx G (show i < 4000 by omega)]
  have hcat : ((st.map (am_c G)).map fun v => v.category).sum ≤ 8 := by
    have e1 : (st.map (am_c G)).map (fun v => v.category) = st.map fun v => v.category := by simp [am_c_cat]
    rw [e1]; exact hst
  have hf : cells + rc1 ≤ R.cells ∧ slots + rs1 ≤ R.slots := by have := X.2.2.1; omega
  have hB := am_callB X hl
  have hX : am_X l mi (d + 1) rc rs p R s m args meth c G (cells + rc1) (slots + rs1) := ⟨X.1, X.2.1, by have := X.2.2.1; omega, X.2.2.2⟩
  rw [hstk]
  rcases hl.2.2.2 with hm | ⟨host, hm⟩
  · refine am_goes (va_runV (As := as.map (am_c G)) (rest := st.map (am_c G)) hfix (am_Met hM G) ⟨hB.1 hm, hts _ hw1, hts _ hw2⟩ hpre rfl (by simpa using hn) hV.1 rfl (lv_room hcat) hd hf) hS fun r h1 H1 locs1 hk hw1 hS1 => ?_
    rw [← am_push_map]
    exact hk p e R s m args below meth c G H1 locs1 _ _ Q arr hX hw1 hS1 hV hF
  · refine am_goes (va_runVN (As := as.map (am_c G)) (rest := st.map (am_c G)) hfix (am_Met hM G) ⟨hB.2 host hm, hts _ hw1, hts _ hw2⟩ hpre rfl (by simpa using hn) hV.1 rfl (lv_room hcat) hd hf) hS fun r h1 H1 locs1 hk hw1 hS1 => ?_
    rw [← am_push_map]
    exact hk p e R s m args below meth c G H1 locs1 _ _ Q arr hX hw1 hS1 hV hF
end
section
variable {l : Am_L} {d i : Nat} {h : Am_H} {K : Am_R → Am_H → Prop}
theorem M_coder (hi : i < am_nT) (hK : K (.inl (some (.int 0))) h) : am_M l d 0 0 175 [.float (UInt32.ofNat i)] h K := by
  refine am_enter (mi := 175) (by decide +kernel) (Nat.le_of_ble_eq_true rfl) (by decide) ?_
  refine jr_gcs (index := 38) (by decide +kernel) (am_TBin 724 (by decide +kernel)) ?_
  refine jr_if_eq (tgt := 13) (off := 10) (by decide +kernel) (by decide) (fun z => absurd z (by decide)) (fun _ => ?_)
  refine jr_aload_n (q := 0) (i := 0) (by decide +kernel) rfl rfl trivial ?_
  refine jr_sgc hi (index := 15) (by decide +kernel) (am_TBin 1626 (by decide +kernel)) ?_
  refine jr_goto (tgt := 14) (off := 4) (by decide +kernel) (by decide) ?_
  exact jr_ireturn (by decide +kernel) ⟨.byte, rfl, rfl⟩ hK
theorem M_isLatin1 (hi : i < am_nT) (hK : K (.inl (some (.int 1))) h) : am_M l d 0 0 177 [.float (UInt32.ofNat i)] h K := by
  refine am_enter (mi := 177) (by decide +kernel) (Nat.le_of_ble_eq_true rfl) (by decide) ?_
  refine jr_gcs (index := 38) (by decide +kernel) (am_TBin 724 (by decide +kernel)) ?_
  refine jr_if_eq (tgt := 17) (off := 14) (by decide +kernel) (by decide) (fun z => absurd z (by decide)) (fun _ => ?_)
  refine jr_aload_n (q := 0) (i := 0) (by decide +kernel) rfl rfl trivial ?_
  refine jr_sgc hi (index := 15) (by decide +kernel) (am_TBin 1626 (by decide +kernel)) ?_
  refine jr_if_ne (tgt := 17) (off := 7) (by decide +kernel) (by decide) (fun z => absurd rfl z) (fun _ => ?_)
  refine jr_iconst (n := 1) (v := 1) (by decide +kernel) (by decide) ?_
  refine jr_goto (tgt := 18) (off := 4) (by decide +kernel) (by decide) ?_
  exact jr_ireturn (by decide +kernel) ⟨.boolean, rfl, rfl⟩ hK
theorem am_lk_of {mi cal index n : Nat} (h1 : cal < am_nM) (h2 : (parseMethodDescriptor (am_y cal).desc).map (fun d => d.parameters.length) = some n) (h3 : Cond.initialized (am_y cal).cls ∈ am_TB) (h4 : Cond.methodLink (am_y mi).cls index (am_y cal) ∈ am_TB) : am_lk mi cal index n := ⟨h1, h2, h3, Or.inl h4⟩
theorem M_slen (hi : i < am_nT) (hK : K (.inl (some (.int (nI (am_byt.getD i []).length)))) h) : am_M l (d + 1) 0 0 174 [.float (UInt32.ofNat i)] h K := by
  refine am_enter (mi := 174) (by decide +kernel) (Nat.le_of_ble_eq_true rfl) (by decide) ?_
  refine jr_aload_n (q := 0) (i := 0) (by decide +kernel) rfl rfl trivial ?_
  refine jr_sgv hi (index := 9) (by decide +kernel) (am_TBin 1625 (by decide +kernel)) ?_
  refine jr_tlen hi (by decide +kernel) ?_
  refine jr_aload_n (q := 0) (i := 0) (by decide +kernel) rfl rfl trivial ?_
  refine jr_invT (mi := 174) (pc := 6) (st := [.int (nI (am_byt.getD i []).length)]) (rc := 0) (rs := 0) (rc1 := 0) (rs1 := 0) (as := []) (cal := 175) (n := 0) (index := 335) hi (by decide +kernel) (am_lk_of (by decide) (by decide +kernel) (am_TBin 133 (by decide +kernel)) (am_TBin 720 (by decide +kernel))) (am_TBin 721 (by decide +kernel)) (am_TBin 722 (by decide +kernel)) rfl (Nat.le_of_ble_eq_true rfl) ?_
  refine M_coder hi ?_
  simp only [am_ok_l, am_push_s]
  refine jr_ishr (by decide +kernel) ?_
  rw [show nI (am_byt.getD i []).length >>> ((0 : Int32) &&& 31) = nI (am_byt.getD i []).length from by
    rw [show ((0 : Int32) &&& 31) = 0 from by decide]; simp]
  exact jr_ireturn (by decide +kernel) ⟨.int, rfl, rfl⟩ hK
theorem M_pchk {x y : Int32} {v : Value} (hv : v = .float 9998 ∨ v = .null) (h0 : 0 ≤ x) (h1 : x < y) (hK : K (.inl (some (.int x))) h) : am_M l d 0 0 181 [.int x, .int y, v] h K := by
  rcases hv with rfl | rfl
  · refine am_enter (mi := 181) (by decide +kernel) (Nat.le_of_ble_eq_true rfl) (by decide) ?_
    refine jr_iload_n (q := 0) (i := 0) (by decide +kernel) rfl rfl ?_
    refine jr_if_lt (tgt := 9) (off := 8) (by decide +kernel) (by decide) (fun z => absurd h0 (Int32.not_le.mpr z)) (fun _ => ?_)
    refine jr_iload_n (q := 0) (i := 0) (by decide +kernel) rfl rfl ?_
    refine jr_iload_n (q := 1) (i := 1) (by decide +kernel) rfl rfl ?_
    refine jr_icmp_lt (tgt := 16) (off := 10) (by decide +kernel) (by decide) (fun _ => ?_) (fun z => absurd h1 z)
    refine jr_iload_n (q := 0) (i := 0) (by decide +kernel) rfl rfl ?_
    exact jr_ireturn (by decide +kernel) ⟨.int, rfl, rfl⟩ hK
  · refine am_enter (mi := 181) (by decide +kernel) (Nat.le_of_ble_eq_true rfl) (by decide) ?_
    refine jr_iload_n (q := 0) (i := 0) (by decide +kernel) rfl rfl ?_
    refine jr_if_lt (tgt := 9) (off := 8) (by decide +kernel) (by decide) (fun z => absurd h0 (Int32.not_le.mpr z)) (fun _ => ?_)
    refine jr_iload_n (q := 0) (i := 0) (by decide +kernel) rfl rfl ?_
    refine jr_iload_n (q := 1) (i := 1) (by decide +kernel) rfl rfl ?_
    refine jr_icmp_lt (tgt := 16) (off := 10) (by decide +kernel) (by decide) (fun _ => ?_) (fun z => absurd h1 z)
    refine jr_iload_n (q := 0) (i := 0) (by decide +kernel) rfl rfl ?_
    exact jr_ireturn (by decide +kernel) ⟨.int, rfl, rfl⟩ hK
theorem M_schk {x y : Int32} (h0 : 0 ≤ x) (h1 : x < y) (hK : K (.inl none) h) : am_M l (d + 1) 0 0 180 [.int x, .int y] h K := by
  refine am_enter (mi := 180) (by decide +kernel) (Nat.le_of_ble_eq_true rfl) (by decide) ?_
  refine jr_iload_n (q := 0) (i := 0) (by decide +kernel) rfl rfl ?_
  refine jr_iload_n (q := 1) (i := 1) (by decide +kernel) rfl rfl ?_
  refine jr_gfm (index := 1053) (by decide +kernel) (am_TBin 740 (by decide +kernel)) (fun v hv => ?_)
  refine jr_invS (mi := 180) (pc := 5) (rc := 0) (rs := 0) (rc1 := 0) (rs1 := 0) (as := [.int x, .int y, v]) (st := []) (cal := 181) (n := 3) (index := 1059) (by decide +kernel) (am_lk_of (by decide) (by decide +kernel) (am_TBin 135 (by decide +kernel)) (am_TBin 742 (by decide +kernel))) (am_TBin 743 (by decide +kernel)) rfl (by decide) ?_
  refine M_pchk hv h0 h1 ?_
  simp only [am_ok_l, am_push_s]
  refine jr_pop (by decide +kernel) trivial ?_
  exact jr_return (by decide +kernel) rfl hK
theorem getD_mem {w : List Int32} {k : Nat} (h : k < w.length) : w.getD k 0 ∈ w := by
  rw [List.getD_eq_getElem?_getD, List.getElem?_eq_getElem h]
  exact List.getElem_mem h
theorem sb_and : ∀ i, i < am_nT → ∀ b ∈ am_byt.getD i [], ((b &&& 255).toUInt32 % 65536).toInt32 = b ∧ narrow .char (.int b) = .int b := by decide +kernel
theorem M_lchar {k : Nat} (hi : i < am_nT) (hk : k < (am_byt.getD i []).length) (hk2 : k < 2 ^ 31) (hl2 : (am_byt.getD i []).length < 2 ^ 31) (hK : K (.inl (some (.int ((am_byt.getD i []).getD k 0)))) h) : am_M l (d + 2) 0 0 178 [.float (UInt32.ofNat (i + 1000)), .int (nI k)] h K := by
  have hb := sb_and i hi ((am_byt.getD i []).getD k 0) (getD_mem hk)
  refine am_enter (mi := 178) (by decide +kernel) (Nat.le_of_ble_eq_true rfl) (by decide) ?_
  refine jr_iload_n (q := 1) (i := 1) (by decide +kernel) rfl rfl ?_
  refine jr_aload_n (q := 0) (i := 0) (by decide +kernel) rfl rfl trivial ?_
  refine jr_tlen hi (by decide +kernel) ?_
  refine jr_invS (mi := 178) (pc := 3) (rc := 0) (rs := 0) (rc1 := 0) (rs1 := 0) (as := [.int (nI k), .int (nI (am_byt.getD i []).length)]) (st := []) (cal := 180) (n := 2) (index := 9) (by decide +kernel) (am_lk_of (by decide) (by decide +kernel) (am_TBin 133 (by decide +kernel)) (am_TBin 737 (by decide +kernel))) (am_TBin 738 (by decide +kernel)) rfl (by decide) ?_
  refine M_schk (nI_pos' hk2) (nI_lt hk hl2) ?_
  simp only [am_ok_l, am_push_n]
  refine jr_aload_n (q := 0) (i := 0) (by decide +kernel) rfl rfl trivial ?_
  refine jr_iload_n (q := 1) (i := 1) (by decide +kernel) rfl rfl ?_
  refine jr_tbl hi (by decide +kernel) (vp_in_nI hk hl2) ?_
  rw [nI_clamp hk2]
  refine jr_sipush (n := 255) (v := 255) (by decide +kernel) (by decide) ?_
  refine jr_iand (by decide +kernel) ?_
  refine jr_i2c (by decide +kernel) ?_
  rw [hb.1]
  exact jr_ireturn (by decide +kernel) ⟨.char, rfl, hb.2⟩ hK
theorem M_schar {k : Nat} (hi : i < am_nT) (hk : k < (am_byt.getD i []).length) (hk2 : k < 2 ^ 31) (hl2 : (am_byt.getD i []).length < 2 ^ 31) (hK : K (.inl (some (.int ((am_byt.getD i []).getD k 0)))) h) : am_M l (d + 3) 0 0 176 [.float (UInt32.ofNat i), .int (nI k)] h K := by
  have hb := sb_and i hi ((am_byt.getD i []).getD k 0) (getD_mem hk)
  refine am_enter (mi := 176) (by decide +kernel) (Nat.le_of_ble_eq_true rfl) (by decide) ?_
  refine jr_aload_n (q := 0) (i := 0) (by decide +kernel) rfl rfl trivial ?_
  refine jr_invT (mi := 176) (pc := 1) (st := []) (rc := 0) (rs := 0) (rc1 := 0) (rs1 := 0) (as := []) (cal := 177) (n := 0) (index := 492) hi (by decide +kernel) (am_lk_of (by decide) (by decide +kernel) (am_TBin 133 (by decide +kernel)) (am_TBin 730 (by decide +kernel))) (am_TBin 731 (by decide +kernel)) (am_TBin 732 (by decide +kernel)) rfl (by decide) ?_
  refine M_isLatin1 hi ?_
  simp only [am_ok_l, am_push_s]
  refine jr_if_eq (tgt := 16) (off := 12) (by decide +kernel) (by decide) (fun z => absurd z (by decide)) (fun _ => ?_)
  refine jr_aload_n (q := 0) (i := 0) (by decide +kernel) rfl rfl trivial ?_
  refine jr_sgv hi (index := 9) (by decide +kernel) (am_TBin 1625 (by decide +kernel)) ?_
  refine jr_iload_n (q := 1) (i := 1) (by decide +kernel) rfl rfl ?_
  refine jr_invS (mi := 176) (pc := 12) (rc := 0) (rs := 0) (rc1 := 0) (rs1 := 0) (as := [.float (UInt32.ofNat (i + 1000)), .int (nI k)]) (st := []) (cal := 178) (n := 2) (index := 495) (by decide +kernel) (am_lk_of (by decide) (by decide +kernel) (am_TBin 134 (by decide +kernel)) (am_TBin 734 (by decide +kernel))) (am_TBin 735 (by decide +kernel)) rfl (by decide) ?_
  refine M_lchar hi hk hk2 hl2 ?_
  simp only [am_ok_l, am_push_s]
  exact jr_ireturn (by decide +kernel) ⟨.char, rfl, hb.2⟩ hK
end
