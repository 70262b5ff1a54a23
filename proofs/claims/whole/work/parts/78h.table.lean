/-! new cells; Found's constructor; SandCars.table, safe, most -/
theorem am_S_nw (h : Am_H) (sh : Nat × Nat) (o : Nat) : am_S (am_nw h sh) o = if o = am_N h then sh else am_S h o := rfl
theorem am_I_nw (h : Am_H) (sh : Nat × Nat) (o j : Nat) : am_I (am_nw h sh) o j = if o = am_N h then 0 else am_I h o j := rfl
theorem am_L_nw (h : Am_H) (sh : Nat × Nat) (o j : Nat) : am_L (am_nw h sh) o j = if o = am_N h then 0 else am_L h o j := rfl
theorem am_P_nw (h : Am_H) (sh : Nat × Nat) (o j : Nat) : am_P (am_nw h sh) o j = if o = am_N h then none else am_P h o j := rfl
theorem am_N_nw (h : Am_H) (sh : Nat × Nat) : am_N (am_nw h sh) = am_N h + 1 := rfl
/-- all older cells but one stay as they are -/
def al_o (h h' : Am_H) (c : Nat) : Prop := am_N h ≤ am_N h' ∧ am_S h' c = am_S h c ∧ ∀ o, o < am_N h → o ≠ c → am_S h' o = am_S h o ∧ am_I h' o = am_I h o ∧ am_L h' o = am_L h o ∧ am_P h' o = am_P h o
theorem al_o.rf {h : Am_H} {c : Nat} : al_o h h c := ⟨Nat.le_refl _, rfl, fun _ _ _ => ⟨rfl, rfl, rfl, rfl⟩⟩
theorem al_o.nw {h h' : Am_H} {c : Nat} {sh : Nat × Nat} (a : al_o h h' c) (hc : c < am_N h) : al_o h (am_nw h' sh) c := by
  obtain ⟨a1, a2, a3⟩ := a
  refine ⟨by rw [am_N_nw]; omega, by rw [am_S_nw, if_neg (by omega)]; exact a2, fun o ho hoc => ?_⟩
  obtain ⟨b1, b2, b3, b4⟩ := a3 o ho hoc
  refine ⟨by rw [am_S_nw, if_neg (by omega)]; exact b1, ?_, ?_, ?_⟩
  · funext j; rw [am_I_nw, if_neg (by omega), b2]
  · funext j; rw [am_L_nw, if_neg (by omega), b3]
  · funext j; rw [am_P_nw, if_neg (by omega), b4]
theorem al_o.wP {h h' : Am_H} {c k : Nat} {x : Option Nat} (a : al_o h h' c) : al_o h (am_wP h' c k x) c := by
  refine ⟨a.1, a.2.1, fun o ho hoc => ?_⟩
  obtain ⟨b1, b2, b3, b4⟩ := a.2.2 o ho hoc
  exact ⟨b1, b2, b3, by funext j; rw [am_P_wP, if_neg (fun z => hoc z.1), b4]⟩
theorem al_o.wI {h h' : Am_H} {c k : Nat} {x : Int32} (a : al_o h h' c) : al_o h (am_wI h' c k x) c := by
  refine ⟨a.1, a.2.1, fun o ho hoc => ?_⟩
  obtain ⟨b1, b2, b3, b4⟩ := a.2.2 o ho hoc
  exact ⟨b1, by funext j; rw [am_I_wI, if_neg (fun z => hoc z.1), b2], b3, b4⟩
theorem al_o.tr {h h1 h2 : Am_H} {c : Nat} (a : al_o h h1 c) (b : al_o h1 h2 c) : al_o h h2 c := by
  refine ⟨Nat.le_trans a.1 b.1, b.2.1.trans a.2.1, fun o ho hoc => ?_⟩
  obtain ⟨a1, a2, a3, a4⟩ := a.2.2 o ho hoc
  obtain ⟨b1, b2, b3, b4⟩ := b.2.2 o (Nat.lt_of_lt_of_le ho a.1) hoc
  exact ⟨b1.trans a1, b2.trans a2, b3.trans a3, b4.trans a4⟩
theorem cl_4000 : Int32.toNatClampNeg 4000 = 4000 := by decide
theorem cl_8192 : Int32.toNatClampNeg 8192 = 8192 := by decide
section
variable {l : Am_L} {d : Nat} {h : Am_H} {S m q n F : Nat} {K : Am_R → Am_H → Prop}
theorem M_FoundInit (hS : am_S h F = (1, 3)) (hN : am_N h = F + 1) (hK : ∀ h', is_Found h' F → am_N h' = F + 4 → al_o h h' F → K (.inl none) h') : am_M l d 3 16192 31 [.ref F] h K := by
  refine am_enter (mi := 31) (am_ckP_all 31 (by decide)) (Nat.le_of_ble_eq_true rfl) (by decide) ?_
  refine am_go 100 ?_
  simp only [vq_s, vq_0, vq_h, am_clr_eq, vq_1, vq_2, vq_3, vq_4, vq_5, vq_6, vq_7, vq_8, vq_9, vq_10, vq_11, vq_12, vq_13, vq_14, vq_15, vq_16, vq_17, vq_20, vq_21, vq_22, vq_23, vq_24, vq_25, vq_26, vq_27, vq_28, vq_29, vq_30, vq_31, vq_32, vq_33, vq_34, vq_35, vq_36, vq_37, vq_38, vq_39, vq_40, vq_41, vq_42, vq_43, vq_44, vq_45, vq_50, vq_51, vq_52, vq_53, vq_54, vq_55, vq_56, vq_57, vq_58, vq_59, vq_60, vq_61, vq_62, vq_63, vq_64, vq_70, vq_71, vq_72, vq_73, vq_74, vq_75, vq_76, vq_77, vq_78, vq_79, vq_80, vq_81, vq_85, vq_86, vq_87, vq_88, vq_89, vq_90, vq_91, vq_92, vq_93, vq_95, vq_96, vq_100, vq_101, vq_110, vq_111, vq_112, vq_113, vq_114, vq_200, vq_s1, vq_s2, vq_t1, vq_t2, vq_st, vq_r1, vq_sr, vq_ssr, vq_tsr, vq_v1, vq_v2, vq_e, vq_nln, vq_nli, vq_nlr, vq_nlf, vq_nlu, vq_isAr, vq_isAf, vq_isAu, vq_di, vq_dr, vq_df, vq_du, vq_dl, vq_sf, vq_f1, ie_m2_m1, ie_m2_0, ie_m2_1, ie_m2_2, ie_m2_3, ie_m2_4, ie_m2_8, ie_m2_20, ie_m1_m2, ie_m1_0, ie_m1_1, ie_m1_2, ie_m1_3, ie_m1_4, ie_m1_8, ie_m1_20, ie_0_m2, ie_0_m1, ie_0_1, ie_0_2, ie_0_3, ie_0_4, ie_0_8, ie_0_20, ie_1_m2, ie_1_m1, ie_1_0, ie_1_2, ie_1_3, ie_1_4, ie_1_8, ie_1_20, ie_2_m2, ie_2_m1, ie_2_0, ie_2_1, ie_2_3, ie_2_4, ie_2_8, ie_2_20, ie_3_m2, ie_3_m1, ie_3_0, ie_3_1, ie_3_2, ie_3_4, ie_3_8, ie_3_20, ie_4_m2, ie_4_m1, ie_4_0, ie_4_1, ie_4_2, ie_4_3, ie_4_8, ie_4_20, ie_8_m2, ie_8_m1, ie_8_0, ie_8_1, ie_8_2, ie_8_3, ie_8_4, ie_8_20, ie_20_m2, ie_20_m1, ie_20_0, ie_20_1, ie_20_2, ie_20_3, ie_20_4, ie_20_8, am_ne1, am_ne2, am_I_wI, am_L_wL, am_P_wP, Nat.reduceEqDiff, false_and, if_false, if_true, vq_rr, vq_rn, vq_li, vq_ll, vq_lar, vq_laf, vq_lan, vq_arr, vq_d0, vq_p0, vq_ps, am_get_0, am_get_s, am_set_0, am_set_s, am_rf_none, am_rf_some, am_S_wI, am_S_wL, am_S_wP, am_L_wI, am_P_wI, am_I_wL, am_P_wL, am_I_wP, am_L_wP, am_N_wI, am_N_wL, am_N_wP, am_ok_l, am_push_n, am_push_s, am_ent_nil, am_ent_i, am_ent_r, am_ent_f, am_ent_n, am_ent_l, not_true_eq_false, not_false_eq_true, false_implies, true_implies, implies_true, Int32.reduceAdd, Int32.reduceLT, Int32.reduceLE, true_or, or_true, eq_self, List.replicate_succ, List.replicate_zero, Nat.reduceSub, Nat.reduceAdd, Nat.reduceLeDiff, Nat.add_one_sub_one, Nat.add_sub_cancel, true_and, and_true, Nat.le_add_left, Nat.zero_sub, Nat.sub_zero, Nat.sub_self, Nat.add_zero, Nat.zero_add, l31, k31_0, k31_1, k31_4, k31_5, k31_8, k31_10, k31_13, k31_14, k31_17, k31_19, k31_22, k31_23, k31_26, k31_28, k31_31, k31_32, k31_33, k31_36, hS, hN, am_S_nw, am_N_nw, cl_4000, cl_8192, Nat.add_assoc]
  have a1 := ((((((al_o.rf (h := h) (c := F)).nw (sh := (4, 4000)) (by omega)).wP (k := 0) (x := some (F + 1))).nw (sh := (2, 4000)) (by omega)).wP (k := 1) (x := some (F + 2))).nw (sh := (2, 8192)) (by omega)).wP (k := 2) (x := some (F + 3))
  refine hK _ ⟨?_, ⟨?_, ?_, ?_⟩, ?_, ?_, ?_⟩ ?_ (a1.wI (k := 3) (x := 0))
  · simp only [am_S_wI, am_S_wP, am_S_nw, am_N_wP, am_N_nw, hN, hS, Nat.add_assoc, Nat.reduceAdd, am_ne1, if_false]
  · simp only [am_P_wI, am_P_wP, am_P_nw, am_N_wP, am_N_nw, hN, Nat.add_assoc, Nat.reduceAdd, am_ne1, if_false, and_self, if_true, Nat.reduceEqDiff, and_false, true_and]
  · simp only [am_P_wI, am_P_wP, am_P_nw, am_N_wP, am_N_nw, hN, Nat.add_assoc, Nat.reduceAdd, am_ne1, if_false, and_self, if_true, Nat.reduceEqDiff, and_false, true_and]
  · simp only [am_P_wI, am_P_wP, am_P_nw, am_N_wP, am_N_nw, hN, Nat.add_assoc, Nat.reduceAdd, am_ne1, if_false, and_self, if_true, Nat.reduceEqDiff, and_false, true_and]
  · simp only [am_S_wI, am_S_wP, am_S_nw, am_N_wP, am_N_nw, hN, Nat.add_assoc, Nat.reduceAdd, Nat.add_left_cancel_iff, Nat.reduceEqDiff, if_false, if_true]
  · simp only [am_S_wI, am_S_wP, am_S_nw, am_N_wP, am_N_nw, hN, Nat.add_assoc, Nat.reduceAdd, Nat.add_left_cancel_iff, Nat.reduceEqDiff, if_false, if_true]
  · simp only [am_S_wI, am_S_wP, am_S_nw, am_N_wP, am_N_nw, hN, Nat.add_assoc, Nat.reduceAdd, Nat.add_left_cancel_iff, Nat.reduceEqDiff, if_false, if_true]
  · simp only [am_N_wI, am_N_wP, am_N_nw, hN, Nat.add_assoc, Nat.reduceAdd]
/-- the table: made at the first call, and kept -/
theorem M_table (hS : am_S h S = (1, 9)) (hSN : S < am_N h) (hK1 : ∀ F, am_P h S 11 = some F → K (.inl (some (.ref F))) h) (hK0 : am_P h S 11 = none → ∀ h', al_o h h' S → is_Found h' (am_N h) → am_N h' = am_N h + 4 → (∀ k, am_P h' S k = if k = 11 then some (am_N h) else am_P h S k) → am_I h' S = am_I h S → am_L h' S = am_L h S → K (.inl (some (.ref (am_N h)))) h') : am_M l (d + 1) 4 16196 96 [.ref S] h K := by
  refine am_enter (mi := 96) (am_ckP_all 96 (by decide)) (Nat.le_of_ble_eq_true rfl) (by decide) ?_
  cases hf : am_P h S 11 with
  | some F =>
    refine am_go 100 ?_
    simp only [vq_s, vq_0, vq_h, am_clr_eq, vq_1, vq_2, vq_3, vq_4, vq_5, vq_6, vq_7, vq_8, vq_9, vq_10, vq_11, vq_12, vq_13, vq_14, vq_15, vq_16, vq_17, vq_20, vq_21, vq_22, vq_23, vq_24, vq_25, vq_26, vq_27, vq_28, vq_29, vq_30, vq_31, vq_32, vq_33, vq_34, vq_35, vq_36, vq_37, vq_38, vq_39, vq_40, vq_41, vq_42, vq_43, vq_44, vq_45, vq_50, vq_51, vq_52, vq_53, vq_54, vq_55, vq_56, vq_57, vq_58, vq_59, vq_60, vq_61, vq_62, vq_63, vq_64, vq_70, vq_71, vq_72, vq_73, vq_74, vq_75, vq_76, vq_77, vq_78, vq_79, vq_80, vq_81, vq_85, vq_86, vq_87, vq_88, vq_89, vq_90, vq_91, vq_92, vq_93, vq_95, vq_96, vq_100, vq_101, vq_110, vq_111, vq_112, vq_113, vq_114, vq_200, vq_s1, vq_s2, vq_t1, vq_t2, vq_st, vq_r1, vq_sr, vq_ssr, vq_tsr, vq_v1, vq_v2, vq_e, vq_nln, vq_nli, vq_nlr, vq_nlf, vq_nlu, vq_isAr, vq_isAf, vq_isAu, vq_di, vq_dr, vq_df, vq_du, vq_dl, vq_sf, vq_f1, ie_m2_m1, ie_m2_0, ie_m2_1, ie_m2_2, ie_m2_3, ie_m2_4, ie_m2_8, ie_m2_20, ie_m1_m2, ie_m1_0, ie_m1_1, ie_m1_2, ie_m1_3, ie_m1_4, ie_m1_8, ie_m1_20, ie_0_m2, ie_0_m1, ie_0_1, ie_0_2, ie_0_3, ie_0_4, ie_0_8, ie_0_20, ie_1_m2, ie_1_m1, ie_1_0, ie_1_2, ie_1_3, ie_1_4, ie_1_8, ie_1_20, ie_2_m2, ie_2_m1, ie_2_0, ie_2_1, ie_2_3, ie_2_4, ie_2_8, ie_2_20, ie_3_m2, ie_3_m1, ie_3_0, ie_3_1, ie_3_2, ie_3_4, ie_3_8, ie_3_20, ie_4_m2, ie_4_m1, ie_4_0, ie_4_1, ie_4_2, ie_4_3, ie_4_8, ie_4_20, ie_8_m2, ie_8_m1, ie_8_0, ie_8_1, ie_8_2, ie_8_3, ie_8_4, ie_8_20, ie_20_m2, ie_20_m1, ie_20_0, ie_20_1, ie_20_2, ie_20_3, ie_20_4, ie_20_8, am_ne1, am_ne2, am_I_wI, am_L_wL, am_P_wP, Nat.reduceEqDiff, false_and, if_false, if_true, vq_rr, vq_rn, vq_li, vq_ll, vq_lar, vq_laf, vq_lan, vq_arr, vq_d0, vq_p0, vq_ps, am_get_0, am_get_s, am_set_0, am_set_s, am_rf_none, am_rf_some, am_S_wI, am_S_wL, am_S_wP, am_L_wI, am_P_wI, am_I_wL, am_P_wL, am_I_wP, am_L_wP, am_N_wI, am_N_wL, am_N_wP, am_ok_l, am_push_n, am_push_s, am_ent_nil, am_ent_i, am_ent_r, am_ent_f, am_ent_n, am_ent_l, not_true_eq_false, not_false_eq_true, false_implies, true_implies, implies_true, Int32.reduceAdd, Int32.reduceLT, Int32.reduceLE, true_or, or_true, eq_self, List.replicate_succ, List.replicate_zero, Nat.reduceSub, Nat.reduceAdd, Nat.reduceLeDiff, Nat.add_one_sub_one, Nat.add_sub_cancel, true_and, and_true, Nat.le_add_left, Nat.zero_sub, Nat.sub_zero, Nat.sub_self, Nat.add_zero, Nat.zero_add, l96, k96_0, k96_1, k96_4, k96_7, k96_8, k96_11, k96_12, k96_15, k96_18, k96_19, k96_22, hS, hf]
    exact ⟨fun _ => hK1 F hf, fun z => nomatch z⟩
  | none =>
    refine am_go 100 ?_
    simp only [vq_s, vq_0, vq_h, am_clr_eq, vq_1, vq_2, vq_3, vq_4, vq_5, vq_6, vq_7, vq_8, vq_9, vq_10, vq_11, vq_12, vq_13, vq_14, vq_15, vq_16, vq_17, vq_20, vq_21, vq_22, vq_23, vq_24, vq_25, vq_26, vq_27, vq_28, vq_29, vq_30, vq_31, vq_32, vq_33, vq_34, vq_35, vq_36, vq_37, vq_38, vq_39, vq_40, vq_41, vq_42, vq_43, vq_44, vq_45, vq_50, vq_51, vq_52, vq_53, vq_54, vq_55, vq_56, vq_57, vq_58, vq_59, vq_60, vq_61, vq_62, vq_63, vq_64, vq_70, vq_71, vq_72, vq_73, vq_74, vq_75, vq_76, vq_77, vq_78, vq_79, vq_80, vq_81, vq_85, vq_86, vq_87, vq_88, vq_89, vq_90, vq_91, vq_92, vq_93, vq_95, vq_96, vq_100, vq_101, vq_110, vq_111, vq_112, vq_113, vq_114, vq_200, vq_s1, vq_s2, vq_t1, vq_t2, vq_st, vq_r1, vq_sr, vq_ssr, vq_tsr, vq_v1, vq_v2, vq_e, vq_nln, vq_nli, vq_nlr, vq_nlf, vq_nlu, vq_isAr, vq_isAf, vq_isAu, vq_di, vq_dr, vq_df, vq_du, vq_dl, vq_sf, vq_f1, ie_m2_m1, ie_m2_0, ie_m2_1, ie_m2_2, ie_m2_3, ie_m2_4, ie_m2_8, ie_m2_20, ie_m1_m2, ie_m1_0, ie_m1_1, ie_m1_2, ie_m1_3, ie_m1_4, ie_m1_8, ie_m1_20, ie_0_m2, ie_0_m1, ie_0_1, ie_0_2, ie_0_3, ie_0_4, ie_0_8, ie_0_20, ie_1_m2, ie_1_m1, ie_1_0, ie_1_2, ie_1_3, ie_1_4, ie_1_8, ie_1_20, ie_2_m2, ie_2_m1, ie_2_0, ie_2_1, ie_2_3, ie_2_4, ie_2_8, ie_2_20, ie_3_m2, ie_3_m1, ie_3_0, ie_3_1, ie_3_2, ie_3_4, ie_3_8, ie_3_20, ie_4_m2, ie_4_m1, ie_4_0, ie_4_1, ie_4_2, ie_4_3, ie_4_8, ie_4_20, ie_8_m2, ie_8_m1, ie_8_0, ie_8_1, ie_8_2, ie_8_3, ie_8_4, ie_8_20, ie_20_m2, ie_20_m1, ie_20_0, ie_20_1, ie_20_2, ie_20_3, ie_20_4, ie_20_8, am_ne1, am_ne2, am_I_wI, am_L_wL, am_P_wP, Nat.reduceEqDiff, false_and, if_false, if_true, vq_rr, vq_rn, vq_li, vq_ll, vq_lar, vq_laf, vq_lan, vq_arr, vq_d0, vq_p0, vq_ps, am_get_0, am_get_s, am_set_0, am_set_s, am_rf_none, am_rf_some, am_S_wI, am_S_wL, am_S_wP, am_L_wI, am_P_wI, am_I_wL, am_P_wL, am_I_wP, am_L_wP, am_N_wI, am_N_wL, am_N_wP, am_ok_l, am_push_n, am_push_s, am_ent_nil, am_ent_i, am_ent_r, am_ent_f, am_ent_n, am_ent_l, not_true_eq_false, not_false_eq_true, false_implies, true_implies, implies_true, Int32.reduceAdd, Int32.reduceLT, Int32.reduceLE, true_or, or_true, eq_self, List.replicate_succ, List.replicate_zero, Nat.reduceSub, Nat.reduceAdd, Nat.reduceLeDiff, Nat.add_one_sub_one, Nat.add_sub_cancel, true_and, and_true, Nat.le_add_left, Nat.zero_sub, Nat.sub_zero, Nat.sub_self, Nat.add_zero, Nat.zero_add, l96, k96_0, k96_1, k96_4, k96_7, k96_8, k96_11, k96_12, k96_15, k96_18, k96_19, k96_22, hS, hf, am_S_nw, am_N_nw]
    refine jr_invI (mi := 96) (pc := 12) (cal := 31) (index := 224) (n := 0) (by decide +kernel) ⟨by decide, by decide +kernel, am_TBin 138 (by decide +kernel), Or.inr ⟨"SandCars", am_NBin 917 (by decide +kernel)⟩⟩ (am_TBin 918 (by decide +kernel)) rfl rfl (o := am_N h) (as := []) (st := [.ref (am_N h), .ref S]) (rc := 0) (rs := 0) (rc1 := 3) (rs1 := 16192) rfl (Nat.le_of_ble_eq_true rfl) ?_
    refine M_FoundInit (F := am_N h) (by rw [am_S_nw, if_pos rfl]) (by rw [am_N_nw]) (fun h1 f1 n1 a1 => ?_)
    simp only [am_ok_l, am_push_n]
    have b := a1.2.2 S (by rw [am_N_nw]; omega) (by omega)
    have bS : am_S h1 S = (1, 9) := by rw [b.1, am_S_nw, if_neg (by omega)]; exact hS
    refine am_go 100 ?_
    simp only [vq_s, vq_0, vq_h, am_clr_eq, vq_1, vq_2, vq_3, vq_4, vq_5, vq_6, vq_7, vq_8, vq_9, vq_10, vq_11, vq_12, vq_13, vq_14, vq_15, vq_16, vq_17, vq_20, vq_21, vq_22, vq_23, vq_24, vq_25, vq_26, vq_27, vq_28, vq_29, vq_30, vq_31, vq_32, vq_33, vq_34, vq_35, vq_36, vq_37, vq_38, vq_39, vq_40, vq_41, vq_42, vq_43, vq_44, vq_45, vq_50, vq_51, vq_52, vq_53, vq_54, vq_55, vq_56, vq_57, vq_58, vq_59, vq_60, vq_61, vq_62, vq_63, vq_64, vq_70, vq_71, vq_72, vq_73, vq_74, vq_75, vq_76, vq_77, vq_78, vq_79, vq_80, vq_81, vq_85, vq_86, vq_87, vq_88, vq_89, vq_90, vq_91, vq_92, vq_93, vq_95, vq_96, vq_100, vq_101, vq_110, vq_111, vq_112, vq_113, vq_114, vq_200, vq_s1, vq_s2, vq_t1, vq_t2, vq_st, vq_r1, vq_sr, vq_ssr, vq_tsr, vq_v1, vq_v2, vq_e, vq_nln, vq_nli, vq_nlr, vq_nlf, vq_nlu, vq_isAr, vq_isAf, vq_isAu, vq_di, vq_dr, vq_df, vq_du, vq_dl, vq_sf, vq_f1, ie_m2_m1, ie_m2_0, ie_m2_1, ie_m2_2, ie_m2_3, ie_m2_4, ie_m2_8, ie_m2_20, ie_m1_m2, ie_m1_0, ie_m1_1, ie_m1_2, ie_m1_3, ie_m1_4, ie_m1_8, ie_m1_20, ie_0_m2, ie_0_m1, ie_0_1, ie_0_2, ie_0_3, ie_0_4, ie_0_8, ie_0_20, ie_1_m2, ie_1_m1, ie_1_0, ie_1_2, ie_1_3, ie_1_4, ie_1_8, ie_1_20, ie_2_m2, ie_2_m1, ie_2_0, ie_2_1, ie_2_3, ie_2_4, ie_2_8, ie_2_20, ie_3_m2, ie_3_m1, ie_3_0, ie_3_1, ie_3_2, ie_3_4, ie_3_8, ie_3_20, ie_4_m2, ie_4_m1, ie_4_0, ie_4_1, ie_4_2, ie_4_3, ie_4_8, ie_4_20, ie_8_m2, ie_8_m1, ie_8_0, ie_8_1, ie_8_2, ie_8_3, ie_8_4, ie_8_20, ie_20_m2, ie_20_m1, ie_20_0, ie_20_1, ie_20_2, ie_20_3, ie_20_4, ie_20_8, am_ne1, am_ne2, am_I_wI, am_L_wL, am_P_wP, Nat.reduceEqDiff, false_and, if_false, if_true, vq_rr, vq_rn, vq_li, vq_ll, vq_lar, vq_laf, vq_lan, vq_arr, vq_d0, vq_p0, vq_ps, am_get_0, am_get_s, am_set_0, am_set_s, am_rf_none, am_rf_some, am_S_wI, am_S_wL, am_S_wP, am_L_wI, am_P_wI, am_I_wL, am_P_wL, am_I_wP, am_L_wP, am_N_wI, am_N_wL, am_N_wP, am_ok_l, am_push_n, am_push_s, am_ent_nil, am_ent_i, am_ent_r, am_ent_f, am_ent_n, am_ent_l, not_true_eq_false, not_false_eq_true, false_implies, true_implies, implies_true, Int32.reduceAdd, Int32.reduceLT, Int32.reduceLE, true_or, or_true, eq_self, List.replicate_succ, List.replicate_zero, Nat.reduceSub, Nat.reduceAdd, Nat.reduceLeDiff, Nat.add_one_sub_one, Nat.add_sub_cancel, true_and, and_true, Nat.le_add_left, Nat.zero_sub, Nat.sub_zero, Nat.sub_self, Nat.add_zero, Nat.zero_add, l96, k96_0, k96_1, k96_4, k96_7, k96_8, k96_11, k96_12, k96_15, k96_18, k96_19, k96_22, bS]
    have sp : eq_sp h1 (am_wP h1 S 11 (some (am_N h))) S := ⟨rfl, fun o ho => by funext k; rw [am_P_wP, if_neg (fun z => ho z.1)]⟩
    refine hK0 hf _ ⟨?_, ?_, fun o ho hoS => ?_⟩ ?_ n1 (fun k => ?_) ?_ ?_
    · show am_N h ≤ am_N h1; omega
    · show am_S h1 S = am_S h S; rw [bS, hS]
    · obtain ⟨c1, c2, c3, c4⟩ := a1.2.2 o (by rw [am_N_nw]; omega) (by omega)
      refine ⟨?_, ?_, ?_, ?_⟩
      · show am_S h1 o = _; rw [c1, am_S_nw, if_neg (by omega)]
      · show am_I h1 o = _; rw [c2]; funext j; rw [am_I_nw, if_neg (by omega)]
      · show am_L h1 o = _; rw [c3]; funext j; rw [am_L_nw, if_neg (by omega)]
      · rw [sp.2 o hoS, c4]; funext j; rw [am_P_nw, if_neg (by omega)]
    · unfold is_Found
      rw [sp.1, sp.2 (am_N h) (by omega)]
      exact f1
    · rw [am_P_wP]
      by_cases z : k = 11
      · rw [if_pos ⟨rfl, z⟩, if_pos z]
      · rw [if_neg (fun y => z y.2), if_neg z, b.2.2.2, am_P_nw, if_neg (by omega)]
    · show am_I h1 S = _; rw [b.2.1]; funext j; rw [am_I_nw, if_neg (by omega)]
    · show am_L h1 S = _; rw [b.2.2.1]; funext j; rw [am_L_nw, if_neg (by omega)]
end
