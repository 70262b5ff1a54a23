/-! SandCars.feed, mine -/
def q_feed (h h' : Am_H) (T c : Nat) (ws : List Int32) : Prop := am_fr h h' (fun q => q = T ∨ q = T + 1) ∧ (∀ i, am_I h' T i = if i = 1 then nI (c + 4 * ws.length) else am_I h T i) ∧ ∀ i, am_I h' (T + 1) i = if c ≤ i ∧ i < c + 4 * ws.length then btk (ws.getD ((i - c) / 4) 0) ((i - c) % 4) else am_I h (T + 1) i
theorem q_feed_nil {h : Am_H} {T c : Nat} (hc : am_I h T 1 = nI c) : q_feed h h T c [] := ⟨am_fr.rf, fun i => by
  by_cases z : i = 1
  · rw [if_pos z, z]; exact hc
  · rw [if_neg z], fun i => by rw [if_neg (by simp only [List.length_nil]; omega)]⟩
theorem q_feed_put {h h1 h2 : Am_H} {T c : Nat} {ws : List Int32} {w : Int32} (a : q_feed h h1 T c ws) (b : q_put h1 h2 T (c + 4 * ws.length) w 4) : q_feed h h2 T c (ws ++ [w]) := by
  refine ⟨a.1.tr b.1 (fun _ z => z), fun i => ?_, fun i => ?_⟩
  · rw [b.2.1, a.2.1]
    by_cases z : i = 1
    · rw [if_pos z, if_pos z, List.length_append, List.length_singleton, Nat.mul_add, Nat.add_assoc]
    · rw [if_neg z, if_neg z, if_neg z]
  · rw [b.2.2, a.2.2]
    simp only [List.length_append, List.length_singleton]
    by_cases y : c + 4 * ws.length ≤ i ∧ i < c + 4 * ws.length + 4
    · have e1 : (i - c) / 4 = ws.length := by omega
      have e2 : (i - c) % 4 = i - (c + 4 * ws.length) := by omega
      rw [if_pos y, if_pos (by omega), e1, e2]
      congr 1
      rw [List.getD_eq_getElem?_getD, List.getElem?_append_right (Nat.le_refl _), Nat.sub_self]
      rfl
    · rw [if_neg y]
      by_cases z : c ≤ i ∧ i < c + 4 * ws.length
      · rw [if_pos z, if_pos (by omega)]
        congr 1
        rw [List.getD_eq_getElem?_getD, List.getD_eq_getElem?_getD, List.getElem?_append_left (by omega)]
      · rw [if_neg z, if_neg (by omega)]
/-! where only the one object's own references changed -/
def eq_sp (h h' : Am_H) (S : Nat) : Prop := am_S h' = am_S h ∧ ∀ o, o ≠ S → am_P h' o = am_P h o
theorem is_Mine.sp {h h' : Am_H} {S c : Nat} (a : is_Mine h c) (e : eq_sp h h' S) (hc : S < c) : is_Mine h' c := by
  unfold is_Mine
  rw [e.1, e.2 c (by omega)]
  exact a
theorem is_Cars.sp {h h' : Am_H} {S c : Nat} (a : is_Cars h c) (e : eq_sp h h' S) (hc : S < c) : is_Cars h' c := by
  unfold is_Cars
  rw [e.1, e.2 c (by omega)]
  exact a
theorem is_Day.sp {h h' : Am_H} {S c : Nat} (a : is_Day h c) (e : eq_sp h h' S) (hc : S < c) : is_Day h' c := ⟨by rw [e.1]; exact a.1, by rw [e.2 c (by omega)]; exact a.2.1, by rw [e.1]; exact a.2.2.1, a.2.2.2.sp e (by omega)⟩
theorem is_Tape.sp {h h' : Am_H} {S c : Nat} (a : is_Tape h c) (e : eq_sp h h' S) (hc : S < c) : is_Tape h' c := by
  unfold is_Tape
  rw [e.1, e.2 c (by omega)]
  exact a
theorem is_Trial.sp {h h' : Am_H} {S c : Nat} (a : is_Trial h c) (e : eq_sp h h' S) (hc : S < c) : is_Trial h' c := ⟨by rw [e.1]; exact a.1, by rw [e.2 c (by omega)]; exact a.2.1, a.2.2.sp e (by omega)⟩
theorem is_Fitter.sp {h h' : Am_H} {S c : Nat} (a : is_Fitter h c) (e : eq_sp h h' S) (hc : S < c) : is_Fitter h' c := ⟨by rw [e.1]; exact a.1, by rw [e.2 c (by omega)]; exact a.2.1, by rw [e.1]; exact a.2.2.1, a.2.2.2.sp e (by omega)⟩
theorem is_Safety.sp {h h' : Am_H} {S c : Nat} (a : is_Safety h c) (e : eq_sp h h' S) (hc : S < c) : is_Safety h' c := ⟨by rw [e.1]; exact a.1, by rw [e.2 c (by omega)]; exact a.2.1, a.2.2.sp e (by omega)⟩
theorem is_Planner.sp {h h' : Am_H} {S c : Nat} (a : is_Planner h c) (e : eq_sp h h' S) (hc : S < c) : is_Planner h' c := ⟨by rw [e.1]; exact a.1, by rw [e.2 c (by omega)]; exact a.2.1, by rw [e.1]; exact a.2.2.1, a.2.2.2.sp e (by omega)⟩
section
variable {l : Am_L} {d : Nat} {h : Am_H} {S m q n : Nat} {K : Am_R → Am_H → Prop}
theorem M_feed {c : Nat} {a b x y z : Int32} (ha : sd_in h S m q) (hc : am_I h (S + 1) 1 = nI c) (hc4 : c ≤ 400) (hK1 : c + 20 ≤ 400 → ∀ h', q_feed h h' (S + 1) c [a, b, x, y, z] → K (.inl (some (.int (nI (c + 20))))) h') (hK0 : 400 < c + 20 → K (.inl (some (.int (-1)))) h) : am_M l (d + 1) 0 0 83 [.ref S, .int a, .int b, .int x, .int y, .int z] h K := by
  obtain ⟨s0, ⟨p0, p2, p3, p4, p5, p7, p8, p9, p10⟩, hT, hR⟩ := ha
  refine am_enter (mi := 83) (am_ckP_all 83 (by decide)) (Nat.le_of_ble_eq_true rfl) (by decide) ?_
  have h20 : nI c + 20 = nI (c + 20) := nI_add c 20
  refine am_go 100 ?_
  simp only [vq_s, vq_0, vq_h, am_clr_eq, vq_1, vq_2, vq_3, vq_4, vq_5, vq_6, vq_7, vq_8, vq_9, vq_10, vq_11, vq_12, vq_13, vq_14, vq_15, vq_16, vq_17, vq_20, vq_21, vq_22, vq_23, vq_24, vq_25, vq_26, vq_27, vq_28, vq_29, vq_30, vq_31, vq_32, vq_33, vq_34, vq_35, vq_36, vq_37, vq_38, vq_39, vq_40, vq_41, vq_42, vq_43, vq_44, vq_45, vq_50, vq_51, vq_52, vq_53, vq_54, vq_55, vq_56, vq_57, vq_58, vq_59, vq_60, vq_61, vq_62, vq_63, vq_64, vq_70, vq_71, vq_72, vq_73, vq_74, vq_75, vq_76, vq_77, vq_78, vq_79, vq_80, vq_81, vq_85, vq_86, vq_87, vq_88, vq_89, vq_90, vq_91, vq_92, vq_93, vq_95, vq_96, vq_100, vq_101, vq_110, vq_111, vq_112, vq_113, vq_114, vq_200, vq_s1, vq_s2, vq_t1, vq_t2, vq_st, vq_r1, vq_sr, vq_ssr, vq_tsr, vq_v1, vq_v2, vq_e, vq_nln, vq_nli, vq_nlr, vq_nlf, vq_nlu, vq_isAr, vq_isAf, vq_isAu, vq_di, vq_dr, vq_df, vq_du, vq_dl, vq_sf, vq_f1, ie_m2_m1, ie_m2_0, ie_m2_1, ie_m2_2, ie_m2_3, ie_m2_4, ie_m2_8, ie_m2_20, ie_m1_m2, ie_m1_0, ie_m1_1, ie_m1_2, ie_m1_3, ie_m1_4, ie_m1_8, ie_m1_20, ie_0_m2, ie_0_m1, ie_0_1, ie_0_2, ie_0_3, ie_0_4, ie_0_8, ie_0_20, ie_1_m2, ie_1_m1, ie_1_0, ie_1_2, ie_1_3, ie_1_4, ie_1_8, ie_1_20, ie_2_m2, ie_2_m1, ie_2_0, ie_2_1, ie_2_3, ie_2_4, ie_2_8, ie_2_20, ie_3_m2, ie_3_m1, ie_3_0, ie_3_1, ie_3_2, ie_3_4, ie_3_8, ie_3_20, ie_4_m2, ie_4_m1, ie_4_0, ie_4_1, ie_4_2, ie_4_3, ie_4_8, ie_4_20, ie_8_m2, ie_8_m1, ie_8_0, ie_8_1, ie_8_2, ie_8_3, ie_8_4, ie_8_20, ie_20_m2, ie_20_m1, ie_20_0, ie_20_1, ie_20_2, ie_20_3, ie_20_4, ie_20_8, am_ne1, am_ne2, am_I_wI, am_L_wL, am_P_wP, Nat.reduceEqDiff, false_and, if_false, if_true, vq_rr, vq_rn, vq_li, vq_ll, vq_lar, vq_laf, vq_lan, vq_arr, vq_d0, vq_p0, vq_ps, am_get_0, am_get_s, am_set_0, am_set_s, am_rf_none, am_rf_some, am_S_wI, am_S_wL, am_S_wP, am_L_wI, am_P_wI, am_I_wL, am_P_wL, am_I_wP, am_L_wP, am_N_wI, am_N_wL, am_N_wP, am_ok_l, am_push_n, am_push_s, am_ent_nil, am_ent_i, am_ent_r, am_ent_f, am_ent_n, am_ent_l, not_true_eq_false, not_false_eq_true, false_implies, true_implies, implies_true, Int32.reduceAdd, Int32.reduceLT, Int32.reduceLE, true_or, or_true, eq_self, List.replicate_succ, List.replicate_zero, Nat.reduceSub, Nat.reduceAdd, Nat.reduceLeDiff, Nat.add_one_sub_one, Nat.add_sub_cancel, true_and, and_true, Nat.le_add_left, Nat.zero_sub, Nat.sub_zero, Nat.sub_self, Nat.add_zero, Nat.zero_add, l83, k83_0, k83_1, k83_4, k83_7, k83_9, k83_10, k83_13, k83_16, k83_17, k83_18, k83_19, k83_22, k83_23, k83_26, k83_27, k83_30, k83_31, k83_34, k83_35, k83_38, k83_39, k83_42, k83_43, k83_46, k83_48, k83_51, k83_52, k83_55, k83_57, k83_60, k83_61, k83_64, k83_67, s0, p0, hT.1, hc, h20]
  refine ⟨fun w => ?_, fun w => hK0 (Nat.lt_of_not_le fun v => w (nI_le (b := 400) v (by omega)))⟩
  have hw : c + 20 ≤ 400 := (nI_leI (b := 400) (by omega) (by omega)).mp w
  have q0 := q_feed_nil (T := S + 1) hc
  refine M_put (c := c) hT hc (by omega) (fun h1 e1 => ?_)
  have q1 := q_feed_put q0 e1
  have T1 : is_Tape h1 (S + 1) := hT.fr q1.1
  have c1 : am_I h1 (S + 1) 1 = nI (c + 4) := by rw [q1.2.1, if_pos rfl]; rfl
  simp only [am_ok_l, am_push_n]
  refine am_go 100 ?_
  simp only [vq_s, vq_0, vq_h, am_clr_eq, vq_1, vq_2, vq_3, vq_4, vq_5, vq_6, vq_7, vq_8, vq_9, vq_10, vq_11, vq_12, vq_13, vq_14, vq_15, vq_16, vq_17, vq_20, vq_21, vq_22, vq_23, vq_24, vq_25, vq_26, vq_27, vq_28, vq_29, vq_30, vq_31, vq_32, vq_33, vq_34, vq_35, vq_36, vq_37, vq_38, vq_39, vq_40, vq_41, vq_42, vq_43, vq_44, vq_45, vq_50, vq_51, vq_52, vq_53, vq_54, vq_55, vq_56, vq_57, vq_58, vq_59, vq_60, vq_61, vq_62, vq_63, vq_64, vq_70, vq_71, vq_72, vq_73, vq_74, vq_75, vq_76, vq_77, vq_78, vq_79, vq_80, vq_81, vq_85, vq_86, vq_87, vq_88, vq_89, vq_90, vq_91, vq_92, vq_93, vq_95, vq_96, vq_100, vq_101, vq_110, vq_111, vq_112, vq_113, vq_114, vq_200, vq_s1, vq_s2, vq_t1, vq_t2, vq_st, vq_r1, vq_sr, vq_ssr, vq_tsr, vq_v1, vq_v2, vq_e, vq_nln, vq_nli, vq_nlr, vq_nlf, vq_nlu, vq_isAr, vq_isAf, vq_isAu, vq_di, vq_dr, vq_df, vq_du, vq_dl, vq_sf, vq_f1, ie_m2_m1, ie_m2_0, ie_m2_1, ie_m2_2, ie_m2_3, ie_m2_4, ie_m2_8, ie_m2_20, ie_m1_m2, ie_m1_0, ie_m1_1, ie_m1_2, ie_m1_3, ie_m1_4, ie_m1_8, ie_m1_20, ie_0_m2, ie_0_m1, ie_0_1, ie_0_2, ie_0_3, ie_0_4, ie_0_8, ie_0_20, ie_1_m2, ie_1_m1, ie_1_0, ie_1_2, ie_1_3, ie_1_4, ie_1_8, ie_1_20, ie_2_m2, ie_2_m1, ie_2_0, ie_2_1, ie_2_3, ie_2_4, ie_2_8, ie_2_20, ie_3_m2, ie_3_m1, ie_3_0, ie_3_1, ie_3_2, ie_3_4, ie_3_8, ie_3_20, ie_4_m2, ie_4_m1, ie_4_0, ie_4_1, ie_4_2, ie_4_3, ie_4_8, ie_4_20, ie_8_m2, ie_8_m1, ie_8_0, ie_8_1, ie_8_2, ie_8_3, ie_8_4, ie_8_20, ie_20_m2, ie_20_m1, ie_20_0, ie_20_1, ie_20_2, ie_20_3, ie_20_4, ie_20_8, am_ne1, am_ne2, am_I_wI, am_L_wL, am_P_wP, Nat.reduceEqDiff, false_and, if_false, if_true, vq_rr, vq_rn, vq_li, vq_ll, vq_lar, vq_laf, vq_lan, vq_arr, vq_d0, vq_p0, vq_ps, am_get_0, am_get_s, am_set_0, am_set_s, am_rf_none, am_rf_some, am_S_wI, am_S_wL, am_S_wP, am_L_wI, am_P_wI, am_I_wL, am_P_wL, am_I_wP, am_L_wP, am_N_wI, am_N_wL, am_N_wP, am_ok_l, am_push_n, am_push_s, am_ent_nil, am_ent_i, am_ent_r, am_ent_f, am_ent_n, am_ent_l, not_true_eq_false, not_false_eq_true, false_implies, true_implies, implies_true, Int32.reduceAdd, Int32.reduceLT, Int32.reduceLE, true_or, or_true, eq_self, List.replicate_succ, List.replicate_zero, Nat.reduceSub, Nat.reduceAdd, Nat.reduceLeDiff, Nat.add_one_sub_one, Nat.add_sub_cancel, true_and, and_true, Nat.le_add_left, Nat.zero_sub, Nat.sub_zero, Nat.sub_self, Nat.add_zero, Nat.zero_add, l83, k83_0, k83_1, k83_4, k83_7, k83_9, k83_10, k83_13, k83_16, k83_17, k83_18, k83_19, k83_22, k83_23, k83_26, k83_27, k83_30, k83_31, k83_34, k83_35, k83_38, k83_39, k83_42, k83_43, k83_46, k83_48, k83_51, k83_52, k83_55, k83_57, k83_60, k83_61, k83_64, k83_67, q1.1.1, q1.1.2.1, s0, p0, hT.1]
  refine M_put (c := c + 4) T1 c1 (by omega) (fun h2 e2 => ?_)
  have q2 := q_feed_put q1 e2
  have T2 : is_Tape h2 (S + 1) := hT.fr q2.1
  have c2 : am_I h2 (S + 1) 1 = nI (c + 8) := by rw [q2.2.1, if_pos rfl]; rfl
  simp only [am_ok_l, am_push_n]
  refine am_go 100 ?_
  simp only [vq_s, vq_0, vq_h, am_clr_eq, vq_1, vq_2, vq_3, vq_4, vq_5, vq_6, vq_7, vq_8, vq_9, vq_10, vq_11, vq_12, vq_13, vq_14, vq_15, vq_16, vq_17, vq_20, vq_21, vq_22, vq_23, vq_24, vq_25, vq_26, vq_27, vq_28, vq_29, vq_30, vq_31, vq_32, vq_33, vq_34, vq_35, vq_36, vq_37, vq_38, vq_39, vq_40, vq_41, vq_42, vq_43, vq_44, vq_45, vq_50, vq_51, vq_52, vq_53, vq_54, vq_55, vq_56, vq_57, vq_58, vq_59, vq_60, vq_61, vq_62, vq_63, vq_64, vq_70, vq_71, vq_72, vq_73, vq_74, vq_75, vq_76, vq_77, vq_78, vq_79, vq_80, vq_81, vq_85, vq_86, vq_87, vq_88, vq_89, vq_90, vq_91, vq_92, vq_93, vq_95, vq_96, vq_100, vq_101, vq_110, vq_111, vq_112, vq_113, vq_114, vq_200, vq_s1, vq_s2, vq_t1, vq_t2, vq_st, vq_r1, vq_sr, vq_ssr, vq_tsr, vq_v1, vq_v2, vq_e, vq_nln, vq_nli, vq_nlr, vq_nlf, vq_nlu, vq_isAr, vq_isAf, vq_isAu, vq_di, vq_dr, vq_df, vq_du, vq_dl, vq_sf, vq_f1, ie_m2_m1, ie_m2_0, ie_m2_1, ie_m2_2, ie_m2_3, ie_m2_4, ie_m2_8, ie_m2_20, ie_m1_m2, ie_m1_0, ie_m1_1, ie_m1_2, ie_m1_3, ie_m1_4, ie_m1_8, ie_m1_20, ie_0_m2, ie_0_m1, ie_0_1, ie_0_2, ie_0_3, ie_0_4, ie_0_8, ie_0_20, ie_1_m2, ie_1_m1, ie_1_0, ie_1_2, ie_1_3, ie_1_4, ie_1_8, ie_1_20, ie_2_m2, ie_2_m1, ie_2_0, ie_2_1, ie_2_3, ie_2_4, ie_2_8, ie_2_20, ie_3_m2, ie_3_m1, ie_3_0, ie_3_1, ie_3_2, ie_3_4, ie_3_8, ie_3_20, ie_4_m2, ie_4_m1, ie_4_0, ie_4_1, ie_4_2, ie_4_3, ie_4_8, ie_4_20, ie_8_m2, ie_8_m1, ie_8_0, ie_8_1, ie_8_2, ie_8_3, ie_8_4, ie_8_20, ie_20_m2, ie_20_m1, ie_20_0, ie_20_1, ie_20_2, ie_20_3, ie_20_4, ie_20_8, am_ne1, am_ne2, am_I_wI, am_L_wL, am_P_wP, Nat.reduceEqDiff, false_and, if_false, if_true, vq_rr, vq_rn, vq_li, vq_ll, vq_lar, vq_laf, vq_lan, vq_arr, vq_d0, vq_p0, vq_ps, am_get_0, am_get_s, am_set_0, am_set_s, am_rf_none, am_rf_some, am_S_wI, am_S_wL, am_S_wP, am_L_wI, am_P_wI, am_I_wL, am_P_wL, am_I_wP, am_L_wP, am_N_wI, am_N_wL, am_N_wP, am_ok_l, am_push_n, am_push_s, am_ent_nil, am_ent_i, am_ent_r, am_ent_f, am_ent_n, am_ent_l, not_true_eq_false, not_false_eq_true, false_implies, true_implies, implies_true, Int32.reduceAdd, Int32.reduceLT, Int32.reduceLE, true_or, or_true, eq_self, List.replicate_succ, List.replicate_zero, Nat.reduceSub, Nat.reduceAdd, Nat.reduceLeDiff, Nat.add_one_sub_one, Nat.add_sub_cancel, true_and, and_true, Nat.le_add_left, Nat.zero_sub, Nat.sub_zero, Nat.sub_self, Nat.add_zero, Nat.zero_add, l83, k83_0, k83_1, k83_4, k83_7, k83_9, k83_10, k83_13, k83_16, k83_17, k83_18, k83_19, k83_22, k83_23, k83_26, k83_27, k83_30, k83_31, k83_34, k83_35, k83_38, k83_39, k83_42, k83_43, k83_46, k83_48, k83_51, k83_52, k83_55, k83_57, k83_60, k83_61, k83_64, k83_67, q2.1.1, q2.1.2.1, s0, p0, hT.1]
  refine M_put (c := c + 8) T2 c2 (by omega) (fun h3 e3 => ?_)
  have q3 := q_feed_put q2 e3
  have T3 : is_Tape h3 (S + 1) := hT.fr q3.1
  have c3 : am_I h3 (S + 1) 1 = nI (c + 12) := by rw [q3.2.1, if_pos rfl]; rfl
  simp only [am_ok_l, am_push_n]
  refine am_go 100 ?_
  simp only [vq_s, vq_0, vq_h, am_clr_eq, vq_1, vq_2, vq_3, vq_4, vq_5, vq_6, vq_7, vq_8, vq_9, vq_10, vq_11, vq_12, vq_13, vq_14, vq_15, vq_16, vq_17, vq_20, vq_21, vq_22, vq_23, vq_24, vq_25, vq_26, vq_27, vq_28, vq_29, vq_30, vq_31, vq_32, vq_33, vq_34, vq_35, vq_36, vq_37, vq_38, vq_39, vq_40, vq_41, vq_42, vq_43, vq_44, vq_45, vq_50, vq_51, vq_52, vq_53, vq_54, vq_55, vq_56, vq_57, vq_58, vq_59, vq_60, vq_61, vq_62, vq_63, vq_64, vq_70, vq_71, vq_72, vq_73, vq_74, vq_75, vq_76, vq_77, vq_78, vq_79, vq_80, vq_81, vq_85, vq_86, vq_87, vq_88, vq_89, vq_90, vq_91, vq_92, vq_93, vq_95, vq_96, vq_100, vq_101, vq_110, vq_111, vq_112, vq_113, vq_114, vq_200, vq_s1, vq_s2, vq_t1, vq_t2, vq_st, vq_r1, vq_sr, vq_ssr, vq_tsr, vq_v1, vq_v2, vq_e, vq_nln, vq_nli, vq_nlr, vq_nlf, vq_nlu, vq_isAr, vq_isAf, vq_isAu, vq_di, vq_dr, vq_df, vq_du, vq_dl, vq_sf, vq_f1, ie_m2_m1, ie_m2_0, ie_m2_1, ie_m2_2, ie_m2_3, ie_m2_4, ie_m2_8, ie_m2_20, ie_m1_m2, ie_m1_0, ie_m1_1, ie_m1_2, ie_m1_3, ie_m1_4, ie_m1_8, ie_m1_20, ie_0_m2, ie_0_m1, ie_0_1, ie_0_2, ie_0_3, ie_0_4, ie_0_8, ie_0_20, ie_1_m2, ie_1_m1, ie_1_0, ie_1_2, ie_1_3, ie_1_4, ie_1_8, ie_1_20, ie_2_m2, ie_2_m1, ie_2_0, ie_2_1, ie_2_3, ie_2_4, ie_2_8, ie_2_20, ie_3_m2, ie_3_m1, ie_3_0, ie_3_1, ie_3_2, ie_3_4, ie_3_8, ie_3_20, ie_4_m2, ie_4_m1, ie_4_0, ie_4_1, ie_4_2, ie_4_3, ie_4_8, ie_4_20, ie_8_m2, ie_8_m1, ie_8_0, ie_8_1, ie_8_2, ie_8_3, ie_8_4, ie_8_20, ie_20_m2, ie_20_m1, ie_20_0, ie_20_1, ie_20_2, ie_20_3, ie_20_4, ie_20_8, am_ne1, am_ne2, am_I_wI, am_L_wL, am_P_wP, Nat.reduceEqDiff, false_and, if_false, if_true, vq_rr, vq_rn, vq_li, vq_ll, vq_lar, vq_laf, vq_lan, vq_arr, vq_d0, vq_p0, vq_ps, am_get_0, am_get_s, am_set_0, am_set_s, am_rf_none, am_rf_some, am_S_wI, am_S_wL, am_S_wP, am_L_wI, am_P_wI, am_I_wL, am_P_wL, am_I_wP, am_L_wP, am_N_wI, am_N_wL, am_N_wP, am_ok_l, am_push_n, am_push_s, am_ent_nil, am_ent_i, am_ent_r, am_ent_f, am_ent_n, am_ent_l, not_true_eq_false, not_false_eq_true, false_implies, true_implies, implies_true, Int32.reduceAdd, Int32.reduceLT, Int32.reduceLE, true_or, or_true, eq_self, List.replicate_succ, List.replicate_zero, Nat.reduceSub, Nat.reduceAdd, Nat.reduceLeDiff, Nat.add_one_sub_one, Nat.add_sub_cancel, true_and, and_true, Nat.le_add_left, Nat.zero_sub, Nat.sub_zero, Nat.sub_self, Nat.add_zero, Nat.zero_add, l83, k83_0, k83_1, k83_4, k83_7, k83_9, k83_10, k83_13, k83_16, k83_17, k83_18, k83_19, k83_22, k83_23, k83_26, k83_27, k83_30, k83_31, k83_34, k83_35, k83_38, k83_39, k83_42, k83_43, k83_46, k83_48, k83_51, k83_52, k83_55, k83_57, k83_60, k83_61, k83_64, k83_67, q3.1.1, q3.1.2.1, s0, p0, hT.1]
  refine M_put (c := c + 12) T3 c3 (by omega) (fun h4 e4 => ?_)
  have q4 := q_feed_put q3 e4
  have T4 : is_Tape h4 (S + 1) := hT.fr q4.1
  have c4 : am_I h4 (S + 1) 1 = nI (c + 16) := by rw [q4.2.1, if_pos rfl]; rfl
  simp only [am_ok_l, am_push_n]
  refine am_go 100 ?_
  simp only [vq_s, vq_0, vq_h, am_clr_eq, vq_1, vq_2, vq_3, vq_4, vq_5, vq_6, vq_7, vq_8, vq_9, vq_10, vq_11, vq_12, vq_13, vq_14, vq_15, vq_16, vq_17, vq_20, vq_21, vq_22, vq_23, vq_24, vq_25, vq_26, vq_27, vq_28, vq_29, vq_30, vq_31, vq_32, vq_33, vq_34, vq_35, vq_36, vq_37, vq_38, vq_39, vq_40, vq_41, vq_42, vq_43, vq_44, vq_45, vq_50, vq_51, vq_52, vq_53, vq_54, vq_55, vq_56, vq_57, vq_58, vq_59, vq_60, vq_61, vq_62, vq_63, vq_64, vq_70, vq_71, vq_72, vq_73, vq_74, vq_75, vq_76, vq_77, vq_78, vq_79, vq_80, vq_81, vq_85, vq_86, vq_87, vq_88, vq_89, vq_90, vq_91, vq_92, vq_93, vq_95, vq_96, vq_100, vq_101, vq_110, vq_111, vq_112, vq_113, vq_114, vq_200, vq_s1, vq_s2, vq_t1, vq_t2, vq_st, vq_r1, vq_sr, vq_ssr, vq_tsr, vq_v1, vq_v2, vq_e, vq_nln, vq_nli, vq_nlr, vq_nlf, vq_nlu, vq_isAr, vq_isAf, vq_isAu, vq_di, vq_dr, vq_df, vq_du, vq_dl, vq_sf, vq_f1, ie_m2_m1, ie_m2_0, ie_m2_1, ie_m2_2, ie_m2_3, ie_m2_4, ie_m2_8, ie_m2_20, ie_m1_m2, ie_m1_0, ie_m1_1, ie_m1_2, ie_m1_3, ie_m1_4, ie_m1_8, ie_m1_20, ie_0_m2, ie_0_m1, ie_0_1, ie_0_2, ie_0_3, ie_0_4, ie_0_8, ie_0_20, ie_1_m2, ie_1_m1, ie_1_0, ie_1_2, ie_1_3, ie_1_4, ie_1_8, ie_1_20, ie_2_m2, ie_2_m1, ie_2_0, ie_2_1, ie_2_3, ie_2_4, ie_2_8, ie_2_20, ie_3_m2, ie_3_m1, ie_3_0, ie_3_1, ie_3_2, ie_3_4, ie_3_8, ie_3_20, ie_4_m2, ie_4_m1, ie_4_0, ie_4_1, ie_4_2, ie_4_3, ie_4_8, ie_4_20, ie_8_m2, ie_8_m1, ie_8_0, ie_8_1, ie_8_2, ie_8_3, ie_8_4, ie_8_20, ie_20_m2, ie_20_m1, ie_20_0, ie_20_1, ie_20_2, ie_20_3, ie_20_4, ie_20_8, am_ne1, am_ne2, am_I_wI, am_L_wL, am_P_wP, Nat.reduceEqDiff, false_and, if_false, if_true, vq_rr, vq_rn, vq_li, vq_ll, vq_lar, vq_laf, vq_lan, vq_arr, vq_d0, vq_p0, vq_ps, am_get_0, am_get_s, am_set_0, am_set_s, am_rf_none, am_rf_some, am_S_wI, am_S_wL, am_S_wP, am_L_wI, am_P_wI, am_I_wL, am_P_wL, am_I_wP, am_L_wP, am_N_wI, am_N_wL, am_N_wP, am_ok_l, am_push_n, am_push_s, am_ent_nil, am_ent_i, am_ent_r, am_ent_f, am_ent_n, am_ent_l, not_true_eq_false, not_false_eq_true, false_implies, true_implies, implies_true, Int32.reduceAdd, Int32.reduceLT, Int32.reduceLE, true_or, or_true, eq_self, List.replicate_succ, List.replicate_zero, Nat.reduceSub, Nat.reduceAdd, Nat.reduceLeDiff, Nat.add_one_sub_one, Nat.add_sub_cancel, true_and, and_true, Nat.le_add_left, Nat.zero_sub, Nat.sub_zero, Nat.sub_self, Nat.add_zero, Nat.zero_add, l83, k83_0, k83_1, k83_4, k83_7, k83_9, k83_10, k83_13, k83_16, k83_17, k83_18, k83_19, k83_22, k83_23, k83_26, k83_27, k83_30, k83_31, k83_34, k83_35, k83_38, k83_39, k83_42, k83_43, k83_46, k83_48, k83_51, k83_52, k83_55, k83_57, k83_60, k83_61, k83_64, k83_67, q4.1.1, q4.1.2.1, s0, p0, hT.1]
  refine M_put (c := c + 16) T4 c4 (by omega) (fun h5 e5 => ?_)
  have q5 := q_feed_put q4 e5
  have c5 : am_I h5 (S + 1) 1 = nI (c + 20) := by rw [q5.2.1, if_pos rfl]; rfl
  simp only [am_ok_l, am_push_n]
  refine am_go 100 ?_
  simp only [vq_s, vq_0, vq_h, am_clr_eq, vq_1, vq_2, vq_3, vq_4, vq_5, vq_6, vq_7, vq_8, vq_9, vq_10, vq_11, vq_12, vq_13, vq_14, vq_15, vq_16, vq_17, vq_20, vq_21, vq_22, vq_23, vq_24, vq_25, vq_26, vq_27, vq_28, vq_29, vq_30, vq_31, vq_32, vq_33, vq_34, vq_35, vq_36, vq_37, vq_38, vq_39, vq_40, vq_41, vq_42, vq_43, vq_44, vq_45, vq_50, vq_51, vq_52, vq_53, vq_54, vq_55, vq_56, vq_57, vq_58, vq_59, vq_60, vq_61, vq_62, vq_63, vq_64, vq_70, vq_71, vq_72, vq_73, vq_74, vq_75, vq_76, vq_77, vq_78, vq_79, vq_80, vq_81, vq_85, vq_86, vq_87, vq_88, vq_89, vq_90, vq_91, vq_92, vq_93, vq_95, vq_96, vq_100, vq_101, vq_110, vq_111, vq_112, vq_113, vq_114, vq_200, vq_s1, vq_s2, vq_t1, vq_t2, vq_st, vq_r1, vq_sr, vq_ssr, vq_tsr, vq_v1, vq_v2, vq_e, vq_nln, vq_nli, vq_nlr, vq_nlf, vq_nlu, vq_isAr, vq_isAf, vq_isAu, vq_di, vq_dr, vq_df, vq_du, vq_dl, vq_sf, vq_f1, ie_m2_m1, ie_m2_0, ie_m2_1, ie_m2_2, ie_m2_3, ie_m2_4, ie_m2_8, ie_m2_20, ie_m1_m2, ie_m1_0, ie_m1_1, ie_m1_2, ie_m1_3, ie_m1_4, ie_m1_8, ie_m1_20, ie_0_m2, ie_0_m1, ie_0_1, ie_0_2, ie_0_3, ie_0_4, ie_0_8, ie_0_20, ie_1_m2, ie_1_m1, ie_1_0, ie_1_2, ie_1_3, ie_1_4, ie_1_8, ie_1_20, ie_2_m2, ie_2_m1, ie_2_0, ie_2_1, ie_2_3, ie_2_4, ie_2_8, ie_2_20, ie_3_m2, ie_3_m1, ie_3_0, ie_3_1, ie_3_2, ie_3_4, ie_3_8, ie_3_20, ie_4_m2, ie_4_m1, ie_4_0, ie_4_1, ie_4_2, ie_4_3, ie_4_8, ie_4_20, ie_8_m2, ie_8_m1, ie_8_0, ie_8_1, ie_8_2, ie_8_3, ie_8_4, ie_8_20, ie_20_m2, ie_20_m1, ie_20_0, ie_20_1, ie_20_2, ie_20_3, ie_20_4, ie_20_8, am_ne1, am_ne2, am_I_wI, am_L_wL, am_P_wP, Nat.reduceEqDiff, false_and, if_false, if_true, vq_rr, vq_rn, vq_li, vq_ll, vq_lar, vq_laf, vq_lan, vq_arr, vq_d0, vq_p0, vq_ps, am_get_0, am_get_s, am_set_0, am_set_s, am_rf_none, am_rf_some, am_S_wI, am_S_wL, am_S_wP, am_L_wI, am_P_wI, am_I_wL, am_P_wL, am_I_wP, am_L_wP, am_N_wI, am_N_wL, am_N_wP, am_ok_l, am_push_n, am_push_s, am_ent_nil, am_ent_i, am_ent_r, am_ent_f, am_ent_n, am_ent_l, not_true_eq_false, not_false_eq_true, false_implies, true_implies, implies_true, Int32.reduceAdd, Int32.reduceLT, Int32.reduceLE, true_or, or_true, eq_self, List.replicate_succ, List.replicate_zero, Nat.reduceSub, Nat.reduceAdd, Nat.reduceLeDiff, Nat.add_one_sub_one, Nat.add_sub_cancel, true_and, and_true, Nat.le_add_left, Nat.zero_sub, Nat.sub_zero, Nat.sub_self, Nat.add_zero, Nat.zero_add, l83, k83_0, k83_1, k83_4, k83_7, k83_9, k83_10, k83_13, k83_16, k83_17, k83_18, k83_19, k83_22, k83_23, k83_26, k83_27, k83_30, k83_31, k83_34, k83_35, k83_38, k83_39, k83_42, k83_43, k83_46, k83_48, k83_51, k83_52, k83_55, k83_57, k83_60, k83_61, k83_64, k83_67, q5.1.1, q5.1.2.1, s0, p0, hT.1, c5]
  exact hK1 hw h5 q5
theorem am_thr_88 : am_thr 88 15 = "java/lang/IllegalArgumentException" := by decide
def X_bad (S q : Nat) : Nat → Prop := fun o => o = S ∨ o = S + 1 ∨ X_m q o ∨ o = S + 28
/-- a text that stands -/
def q_new (h h' : Am_H) (S m q : Nat) (R : Mrec) : Prop := am_S h' = am_S h ∧ am_L h' = am_L h ∧ am_N h' = am_N h ∧ (∀ o k, am_P h' o k = if o = S ∧ k = 2 then some q else if o = S ∧ k = 3 then some m else am_P h o k) ∧ (∀ o, ¬ (o = S ∨ o = S + 1 ∨ X_m q o ∨ o = S + 17 ∨ o = S + 18 ∨ o = S + 19 ∨ o = S + 20 ∨ o = S + 23 ∨ o = S + 54 ∨ o = S + 60) → am_I h' o = am_I h o) ∧ rec_in h' q R ∧ am_I h' (S + 1) 1 = 0 ∧ am_I h' S 1 = -1 ∧ am_I h' S 6 = 0 ∧ am_I h' (S + 54) 1 = 0 ∧ am_I h' (S + 60) 2 = 0 ∧ ((∀ i, i < 3 → am_I h' (S + 19) i = -1) ∧ (∀ i, i < 3 → am_I h' (S + 20) i = if i < R 0 4 then nI (R 4 i) else 0) ∧ am_I h' (S + 18) 4 = -1 ∧ (∀ i, i < 3 → am_I h' (S + 23) i = 0) ∧ am_I h' (S + 17) 1 = 0 ∧ am_I h' (S + 17) 2 = 0 ∧ am_I h' (S + 17) 3 = 0 ∧ am_I h' (S + 17) 7 = 0 ∧ am_I h' (S + 17) 8 = 0 ∧ am_I h' (S + 17) 11 = 0)
set_option maxHeartbeats 2000000 in
theorem M_mine {c : Nat} {x : Int32} (ha : sd_in h S m q) (hc : am_I h (S + 1) 1 = nI c) (hc4 : c ≤ 400) (hK0 : ∀ n p, n ≤ c → x = nI n → p_text (am_I h (S + 2)) n = .inl p → ∀ h', am_fr h h' (X_bad S q) → am_I h' (S + 1) 1 = 0 → (∀ i, am_I h' S i = if i = 1 then nI p.2 else am_I h S i) → (∀ i, am_I h' (S + 28) i = if i = 0 then am_I h (S + 28) 0 + 1 else am_I h (S + 28) i) → K (.inl (some (.int (nI p.1)))) h') (hK1 : ∀ n R, n ≤ c → x = nI n → p_text (am_I h (S + 2)) n = .inr R → ∀ h', q_new h h' S m q R → K (.inl (some (.int 0))) h') (hX : (∀ n, n ≤ c → ¬ x = nI n) → ∀ n, am_N h ≤ n → K (.inr "java/lang/IllegalArgumentException") (am_skip h n)) : am_M l (d + 10) 1 6 88 [.ref S, .int x] h K := by
  obtain ⟨s0, ⟨p0, p2, p3, p4, p5, p7, p8, p9, p10⟩, hT, ⟨hm, hq, hmq⟩, ⟨hD, hB⟩, hTr, hFi, hSa, hPl⟩ := ha
  have hTq : S + 1 + 1 < q := by rcases hmq with ⟨-, e⟩ | ⟨-, e⟩ <;> omega
  refine am_enterT (mi := 88) (am_ckP_all 88 (by decide)) (Nat.le_of_ble_eq_true rfl) ?_
  have thr : (∀ n, n ≤ c → ¬ x = nI n) → am_J l 88 (d + 10) 1 6 15 [some (.ref S), some (.int x), none, none] [] h K := fun z => jr_throw (rc := 0) (rs := 0) am_thr_88 (by decide) (Nat.le_of_ble_eq_true rfl) (hX z)
  refine am_go 100 ?_
  simp only [vq_s, vq_0, vq_h, am_clr_eq, vq_1, vq_2, vq_3, vq_4, vq_5, vq_6, vq_7, vq_8, vq_9, vq_10, vq_11, vq_12, vq_13, vq_14, vq_15, vq_16, vq_17, vq_20, vq_21, vq_22, vq_23, vq_24, vq_25, vq_26, vq_27, vq_28, vq_29, vq_30, vq_31, vq_32, vq_33, vq_34, vq_35, vq_36, vq_37, vq_38, vq_39, vq_40, vq_41, vq_42, vq_43, vq_44, vq_45, vq_50, vq_51, vq_52, vq_53, vq_54, vq_55, vq_56, vq_57, vq_58, vq_59, vq_60, vq_61, vq_62, vq_63, vq_64, vq_70, vq_71, vq_72, vq_73, vq_74, vq_75, vq_76, vq_77, vq_78, vq_79, vq_80, vq_81, vq_85, vq_86, vq_87, vq_88, vq_89, vq_90, vq_91, vq_92, vq_93, vq_95, vq_96, vq_100, vq_101, vq_110, vq_111, vq_112, vq_113, vq_114, vq_200, vq_s1, vq_s2, vq_t1, vq_t2, vq_st, vq_r1, vq_sr, vq_ssr, vq_tsr, vq_v1, vq_v2, vq_e, vq_nln, vq_nli, vq_nlr, vq_nlf, vq_nlu, vq_isAr, vq_isAf, vq_isAu, vq_di, vq_dr, vq_df, vq_du, vq_dl, vq_sf, vq_f1, ie_m2_m1, ie_m2_0, ie_m2_1, ie_m2_2, ie_m2_3, ie_m2_4, ie_m2_8, ie_m2_20, ie_m1_m2, ie_m1_0, ie_m1_1, ie_m1_2, ie_m1_3, ie_m1_4, ie_m1_8, ie_m1_20, ie_0_m2, ie_0_m1, ie_0_1, ie_0_2, ie_0_3, ie_0_4, ie_0_8, ie_0_20, ie_1_m2, ie_1_m1, ie_1_0, ie_1_2, ie_1_3, ie_1_4, ie_1_8, ie_1_20, ie_2_m2, ie_2_m1, ie_2_0, ie_2_1, ie_2_3, ie_2_4, ie_2_8, ie_2_20, ie_3_m2, ie_3_m1, ie_3_0, ie_3_1, ie_3_2, ie_3_4, ie_3_8, ie_3_20, ie_4_m2, ie_4_m1, ie_4_0, ie_4_1, ie_4_2, ie_4_3, ie_4_8, ie_4_20, ie_8_m2, ie_8_m1, ie_8_0, ie_8_1, ie_8_2, ie_8_3, ie_8_4, ie_8_20, ie_20_m2, ie_20_m1, ie_20_0, ie_20_1, ie_20_2, ie_20_3, ie_20_4, ie_20_8, am_ne1, am_ne2, am_I_wI, am_L_wL, am_P_wP, Nat.reduceEqDiff, false_and, if_false, if_true, vq_rr, vq_rn, vq_li, vq_ll, vq_lar, vq_laf, vq_lan, vq_arr, vq_d0, vq_p0, vq_ps, am_get_0, am_get_s, am_set_0, am_set_s, am_rf_none, am_rf_some, am_S_wI, am_S_wL, am_S_wP, am_L_wI, am_P_wI, am_I_wL, am_P_wL, am_I_wP, am_L_wP, am_N_wI, am_N_wL, am_N_wP, am_ok_l, am_push_n, am_push_s, am_ent_nil, am_ent_i, am_ent_r, am_ent_f, am_ent_n, am_ent_l, not_true_eq_false, not_false_eq_true, false_implies, true_implies, implies_true, Int32.reduceAdd, Int32.reduceLT, Int32.reduceLE, true_or, or_true, eq_self, List.replicate_succ, List.replicate_zero, Nat.reduceSub, Nat.reduceAdd, Nat.reduceLeDiff, Nat.add_one_sub_one, Nat.add_sub_cancel, true_and, and_true, Nat.le_add_left, Nat.zero_sub, Nat.sub_zero, Nat.sub_self, Nat.add_zero, Nat.zero_add, l88, k88_0, k88_1, k88_4, k88_5, k88_6, k88_9, k88_12, k88_15, k88_18, k88_19, k88_21, k88_24, k88_25, k88_26, k88_29, k88_30, k88_31, k88_34, k88_37, k88_38, k88_39, k88_42, k88_43, k88_44, k88_47, k88_50, k88_53, k88_54, k88_57, k88_60, k88_61, k88_62, k88_63, k88_64, k88_65, k88_66, k88_67, k88_68, k88_69, k88_70, k88_73, k88_74, k88_77, k88_78, k88_79, k88_80, k88_83, k88_86, k88_87, k88_88, k88_91, k88_92, k88_95, k88_96, k88_99, k88_102, k88_103, k88_104, k88_107, k88_108, k88_111, k88_112, k88_115, k88_116, k88_119, k88_120, k88_123, k88_124, s0, p0, p3, hT.1, hc]
  refine ⟨fun z => thr (fun n hn e => ?_), fun z => ⟨fun w => ?_, fun w => thr (fun n hn e => ?_)⟩⟩
  · rw [e] at z; exact nI_nn (by omega) z
  · obtain ⟨n, hn, e⟩ := in_nI (n := c + 1) z (by rw [← nI_1]; exact Int32.lt_iff_toInt_lt.mpr (by
      have := Int32.le_iff_toInt_le.mp w
      rw [nI_toInt (by omega)] at this
      rw [nI_1, nI_toInt (by omega)]; omega)) (by omega)
    subst e
    refine M_read (d := d) hq hTq hT hc (by omega) hc4 (fun h1 y e1 g1 r1 => ?_)
    simp only [Nat.add_assoc, Nat.reduceAdd] at r1
    simp only [am_ok_l, am_push_s]
    have T1 : is_Tape h1 (S + 1) := hT.fr e1
    have S1 : am_S h1 = am_S h := e1.1
    have P1 : am_P h1 = am_P h := e1.2.1
    have nS : ¬ (S = S + 1 ∨ X_m q S) := fun z => z.elim (fun w => absurd w (by omega)) (fun w => by unfold X_m at w; omega)
    have n28 : ¬ (S + 28 = S + 1 ∨ X_m q (S + 28)) := fun z => z.elim (fun w => absurd w (by omega)) (fun w => by unfold X_m at w; rcases hmq with ⟨-, e⟩ | ⟨-, e⟩ <;> omega)
    have hD0 := hD
    obtain ⟨d0, ⟨e0, e4, e5, e6, e9, e10, e12⟩, ⟨f6, f7, f8, f9, f10, f11⟩, c0⟩ := hD
    simp only [Nat.add_assoc, Nat.reduceAdd] at e12 f11
    have v0 : vp_in 0 3 := vi_3 0 (by omega)
    have w0 : Int32.toNatClampNeg 0 = 0 := by decide
    cases hp : p_text (am_I h (S + 2)) n with
    | inl p =>
      rw [hp] at r1
      obtain ⟨rfl, r8⟩ := r1
      have hr := text_r hp
      have hne : (nI p.1 = 0) = False := eq_false (nI_ne0 hr.1 (by have := hr.2; omega))
      refine am_go 100 ?_
      simp only [vq_s, vq_0, vq_h, am_clr_eq, vq_1, vq_2, vq_3, vq_4, vq_5, vq_6, vq_7, vq_8, vq_9, vq_10, vq_11, vq_12, vq_13, vq_14, vq_15, vq_16, vq_17, vq_20, vq_21, vq_22, vq_23, vq_24, vq_25, vq_26, vq_27, vq_28, vq_29, vq_30, vq_31, vq_32, vq_33, vq_34, vq_35, vq_36, vq_37, vq_38, vq_39, vq_40, vq_41, vq_42, vq_43, vq_44, vq_45, vq_50, vq_51, vq_52, vq_53, vq_54, vq_55, vq_56, vq_57, vq_58, vq_59, vq_60, vq_61, vq_62, vq_63, vq_64, vq_70, vq_71, vq_72, vq_73, vq_74, vq_75, vq_76, vq_77, vq_78, vq_79, vq_80, vq_81, vq_85, vq_86, vq_87, vq_88, vq_89, vq_90, vq_91, vq_92, vq_93, vq_95, vq_96, vq_100, vq_101, vq_110, vq_111, vq_112, vq_113, vq_114, vq_200, vq_s1, vq_s2, vq_t1, vq_t2, vq_st, vq_r1, vq_sr, vq_ssr, vq_tsr, vq_v1, vq_v2, vq_e, vq_nln, vq_nli, vq_nlr, vq_nlf, vq_nlu, vq_isAr, vq_isAf, vq_isAu, vq_di, vq_dr, vq_df, vq_du, vq_dl, vq_sf, vq_f1, ie_m2_m1, ie_m2_0, ie_m2_1, ie_m2_2, ie_m2_3, ie_m2_4, ie_m2_8, ie_m2_20, ie_m1_m2, ie_m1_0, ie_m1_1, ie_m1_2, ie_m1_3, ie_m1_4, ie_m1_8, ie_m1_20, ie_0_m2, ie_0_m1, ie_0_1, ie_0_2, ie_0_3, ie_0_4, ie_0_8, ie_0_20, ie_1_m2, ie_1_m1, ie_1_0, ie_1_2, ie_1_3, ie_1_4, ie_1_8, ie_1_20, ie_2_m2, ie_2_m1, ie_2_0, ie_2_1, ie_2_3, ie_2_4, ie_2_8, ie_2_20, ie_3_m2, ie_3_m1, ie_3_0, ie_3_1, ie_3_2, ie_3_4, ie_3_8, ie_3_20, ie_4_m2, ie_4_m1, ie_4_0, ie_4_1, ie_4_2, ie_4_3, ie_4_8, ie_4_20, ie_8_m2, ie_8_m1, ie_8_0, ie_8_1, ie_8_2, ie_8_3, ie_8_4, ie_8_20, ie_20_m2, ie_20_m1, ie_20_0, ie_20_1, ie_20_2, ie_20_3, ie_20_4, ie_20_8, am_ne1, am_ne2, am_I_wI, am_L_wL, am_P_wP, Nat.reduceEqDiff, false_and, if_false, if_true, vq_rr, vq_rn, vq_li, vq_ll, vq_lar, vq_laf, vq_lan, vq_arr, vq_d0, vq_p0, vq_ps, am_get_0, am_get_s, am_set_0, am_set_s, am_rf_none, am_rf_some, am_S_wI, am_S_wL, am_S_wP, am_L_wI, am_P_wI, am_I_wL, am_P_wL, am_I_wP, am_L_wP, am_N_wI, am_N_wL, am_N_wP, am_ok_l, am_push_n, am_push_s, am_ent_nil, am_ent_i, am_ent_r, am_ent_f, am_ent_n, am_ent_l, not_true_eq_false, not_false_eq_true, false_implies, true_implies, implies_true, Int32.reduceAdd, Int32.reduceLT, Int32.reduceLE, true_or, or_true, eq_self, List.replicate_succ, List.replicate_zero, Nat.reduceSub, Nat.reduceAdd, Nat.reduceLeDiff, Nat.add_one_sub_one, Nat.add_sub_cancel, true_and, and_true, Nat.le_add_left, Nat.zero_sub, Nat.sub_zero, Nat.sub_self, Nat.add_zero, Nat.zero_add, l88, k88_0, k88_1, k88_4, k88_5, k88_6, k88_9, k88_12, k88_15, k88_18, k88_19, k88_21, k88_24, k88_25, k88_26, k88_29, k88_30, k88_31, k88_34, k88_37, k88_38, k88_39, k88_42, k88_43, k88_44, k88_47, k88_50, k88_53, k88_54, k88_57, k88_60, k88_61, k88_62, k88_63, k88_64, k88_65, k88_66, k88_67, k88_68, k88_69, k88_70, k88_73, k88_74, k88_77, k88_78, k88_79, k88_80, k88_83, k88_86, k88_87, k88_88, k88_91, k88_92, k88_95, k88_96, k88_99, k88_102, k88_103, k88_104, k88_107, k88_108, k88_111, k88_112, k88_115, k88_116, k88_119, k88_120, k88_123, k88_124, S1, P1, s0, p0, p4, hT.1, d0, e12, f11, hne, r8, v0, w0]
      refine hK0 n p (by omega) rfl hp _ ?_ ?_ ?_ ?_
      · have F1 : am_fr h h1 (X_bad S q) := e1.wk (fun o z => z.elim (fun y => Or.inr (Or.inl y)) (fun y => Or.inr (Or.inr (Or.inl y))))
        exact (F1.w (Or.inl rfl)).w (Or.inr (Or.inr (Or.inr rfl)))
      · rw [am_I_wI, if_neg (by omega), am_I_wI, if_neg (by omega)]; exact g1
      · intro i
        rw [am_I_wI, if_neg (by omega), am_I_wI]
        by_cases z : i = 1
        · rw [if_pos ⟨rfl, z⟩, if_pos z]
        · rw [if_neg (fun y => z y.2), if_neg z]; exact e1.2.2.2.2 S nS i
      · intro i
        rw [am_I_wI]
        by_cases z : i = 0
        · rw [if_pos ⟨rfl, z⟩, if_pos z, e1.2.2.2.2 (S + 28) n28 0]
        · rw [if_neg (fun y => z y.2), if_neg z, am_I_wI, if_neg (by omega)]; exact e1.2.2.2.2 (S + 28) n28 i
    | inr R =>
      rw [hp] at r1
      obtain ⟨rfl, r2⟩ := r1
      have ok := text_ok hp
      refine am_go 100 ?_
      simp only [vq_s, vq_0, vq_h, am_clr_eq, vq_1, vq_2, vq_3, vq_4, vq_5, vq_6, vq_7, vq_8, vq_9, vq_10, vq_11, vq_12, vq_13, vq_14, vq_15, vq_16, vq_17, vq_20, vq_21, vq_22, vq_23, vq_24, vq_25, vq_26, vq_27, vq_28, vq_29, vq_30, vq_31, vq_32, vq_33, vq_34, vq_35, vq_36, vq_37, vq_38, vq_39, vq_40, vq_41, vq_42, vq_43, vq_44, vq_45, vq_50, vq_51, vq_52, vq_53, vq_54, vq_55, vq_56, vq_57, vq_58, vq_59, vq_60, vq_61, vq_62, vq_63, vq_64, vq_70, vq_71, vq_72, vq_73, vq_74, vq_75, vq_76, vq_77, vq_78, vq_79, vq_80, vq_81, vq_85, vq_86, vq_87, vq_88, vq_89, vq_90, vq_91, vq_92, vq_93, vq_95, vq_96, vq_100, vq_101, vq_110, vq_111, vq_112, vq_113, vq_114, vq_200, vq_s1, vq_s2, vq_t1, vq_t2, vq_st, vq_r1, vq_sr, vq_ssr, vq_tsr, vq_v1, vq_v2, vq_e, vq_nln, vq_nli, vq_nlr, vq_nlf, vq_nlu, vq_isAr, vq_isAf, vq_isAu, vq_di, vq_dr, vq_df, vq_du, vq_dl, vq_sf, vq_f1, ie_m2_m1, ie_m2_0, ie_m2_1, ie_m2_2, ie_m2_3, ie_m2_4, ie_m2_8, ie_m2_20, ie_m1_m2, ie_m1_0, ie_m1_1, ie_m1_2, ie_m1_3, ie_m1_4, ie_m1_8, ie_m1_20, ie_0_m2, ie_0_m1, ie_0_1, ie_0_2, ie_0_3, ie_0_4, ie_0_8, ie_0_20, ie_1_m2, ie_1_m1, ie_1_0, ie_1_2, ie_1_3, ie_1_4, ie_1_8, ie_1_20, ie_2_m2, ie_2_m1, ie_2_0, ie_2_1, ie_2_3, ie_2_4, ie_2_8, ie_2_20, ie_3_m2, ie_3_m1, ie_3_0, ie_3_1, ie_3_2, ie_3_4, ie_3_8, ie_3_20, ie_4_m2, ie_4_m1, ie_4_0, ie_4_1, ie_4_2, ie_4_3, ie_4_8, ie_4_20, ie_8_m2, ie_8_m1, ie_8_0, ie_8_1, ie_8_2, ie_8_3, ie_8_4, ie_8_20, ie_20_m2, ie_20_m1, ie_20_0, ie_20_1, ie_20_2, ie_20_3, ie_20_4, ie_20_8, am_ne1, am_ne2, am_I_wI, am_L_wL, am_P_wP, Nat.reduceEqDiff, false_and, if_false, if_true, vq_rr, vq_rn, vq_li, vq_ll, vq_lar, vq_laf, vq_lan, vq_arr, vq_d0, vq_p0, vq_ps, am_get_0, am_get_s, am_set_0, am_set_s, am_rf_none, am_rf_some, am_S_wI, am_S_wL, am_S_wP, am_L_wI, am_P_wI, am_I_wL, am_P_wL, am_I_wP, am_L_wP, am_N_wI, am_N_wL, am_N_wP, am_ok_l, am_push_n, am_push_s, am_ent_nil, am_ent_i, am_ent_r, am_ent_f, am_ent_n, am_ent_l, not_true_eq_false, not_false_eq_true, false_implies, true_implies, implies_true, Int32.reduceAdd, Int32.reduceLT, Int32.reduceLE, true_or, or_true, eq_self, List.replicate_succ, List.replicate_zero, Nat.reduceSub, Nat.reduceAdd, Nat.reduceLeDiff, Nat.add_one_sub_one, Nat.add_sub_cancel, true_and, and_true, Nat.le_add_left, Nat.zero_sub, Nat.sub_zero, Nat.sub_self, Nat.add_zero, Nat.zero_add, l88, k88_0, k88_1, k88_4, k88_5, k88_6, k88_9, k88_12, k88_15, k88_18, k88_19, k88_21, k88_24, k88_25, k88_26, k88_29, k88_30, k88_31, k88_34, k88_37, k88_38, k88_39, k88_42, k88_43, k88_44, k88_47, k88_50, k88_53, k88_54, k88_57, k88_60, k88_61, k88_62, k88_63, k88_64, k88_65, k88_66, k88_67, k88_68, k88_69, k88_70, k88_73, k88_74, k88_77, k88_78, k88_79, k88_80, k88_83, k88_86, k88_87, k88_88, k88_91, k88_92, k88_95, k88_96, k88_99, k88_102, k88_103, k88_104, k88_107, k88_108, k88_111, k88_112, k88_115, k88_116, k88_119, k88_120, k88_123, k88_124, S1, P1, s0, p0, p2, p3, p4, hT.1, d0]
      have I2 : ∀ o, am_I (am_wP (am_wP (am_wI h1 S 1 (-1)) S 2 (some q)) S 3 (some m)) o = am_I (am_wI h1 S 1 (-1)) o := fun o => rfl
      have S2 : am_S (am_wP (am_wP (am_wI h1 S 1 (-1)) S 2 (some q)) S 3 (some m)) = am_S h := e1.1
      have L2 : am_L (am_wP (am_wP (am_wI h1 S 1 (-1)) S 2 (some q)) S 3 (some m)) = am_L h := e1.2.2.1
      have N2 : am_N (am_wP (am_wP (am_wI h1 S 1 (-1)) S 2 (some q)) S 3 (some m)) = am_N h := e1.2.2.2.1
      have P2 : ∀ o k, am_P (am_wP (am_wP (am_wI h1 S 1 (-1)) S 2 (some q)) S 3 (some m)) o k = if o = S ∧ k = 2 then some q else if o = S ∧ k = 3 then some m else am_P h o k := by
        intro o k
        rw [am_P_wP, am_P_wP]
        by_cases z : o = S ∧ k = 3
        · rw [if_pos z, if_neg (by omega), if_pos z]
        · rw [if_neg z]
          by_cases y : o = S ∧ k = 2
          · rw [if_pos y, if_pos y]
          · rw [if_neg y, if_neg y, if_neg z, am_P_wI, P1]
      generalize am_wP (am_wP (am_wI h1 S 1 (-1)) S 2 (some q)) S 3 (some m) = h2 at *
      have E2 : eq_sp h h2 S := ⟨S2, fun o ho => funext fun k => by rw [P2, if_neg (fun z => ho z.1), if_neg (fun z => ho z.1)]⟩
      have hqS : S < q := by omega
      have nq : ∀ i, i ≤ 6 → S ≠ q + i := fun i hi => by omega
      have Iq : ∀ i, i ≤ 6 → am_I h2 (q + i) = am_I h1 (q + i) := fun i hi => by
        rw [I2]; funext j; rw [am_I_wI, if_neg (fun z => nq i hi z.1.symm)]
      have r3 : rec_in h2 q R := r2.of Iq
      have hq2 : is_MineN h2 q (R 0 4) := ⟨hq.sp E2 hqS, ok.2.2.2.2.1, r3.1 4 (by omega)⟩
      refine M_begin (d := d + 8) (hD0.sp E2 (by omega)) hq2 (by rcases hmq with ⟨-, e⟩ | ⟨-, e⟩ <;> omega) (fun h3 b => ?_)
      simp only [am_ok_l, am_push_n]
      obtain ⟨b1, b2, b3, b4, b5, b6, b7, b8, b9, b10, b11⟩ := b
      simp only [Nat.add_assoc, Nat.reduceAdd] at b1 b2 b3 b4 b5
      have q4 : am_P h3 S 2 = some q := by rw [b1.2.1, P2, if_pos ⟨rfl, rfl⟩]
      have q9 : am_P h3 S 9 = some (S + 54) := by rw [b1.2.1, P2, if_neg (by omega), if_neg (by omega)]; exact p9
      have q10 : am_P h3 S 10 = some (S + 60) := by rw [b1.2.1, P2, if_neg (by omega), if_neg (by omega)]; exact p10
      refine am_go 100 ?_
      simp only [vq_s, vq_0, vq_h, am_clr_eq, vq_1, vq_2, vq_3, vq_4, vq_5, vq_6, vq_7, vq_8, vq_9, vq_10, vq_11, vq_12, vq_13, vq_14, vq_15, vq_16, vq_17, vq_20, vq_21, vq_22, vq_23, vq_24, vq_25, vq_26, vq_27, vq_28, vq_29, vq_30, vq_31, vq_32, vq_33, vq_34, vq_35, vq_36, vq_37, vq_38, vq_39, vq_40, vq_41, vq_42, vq_43, vq_44, vq_45, vq_50, vq_51, vq_52, vq_53, vq_54, vq_55, vq_56, vq_57, vq_58, vq_59, vq_60, vq_61, vq_62, vq_63, vq_64, vq_70, vq_71, vq_72, vq_73, vq_74, vq_75, vq_76, vq_77, vq_78, vq_79, vq_80, vq_81, vq_85, vq_86, vq_87, vq_88, vq_89, vq_90, vq_91, vq_92, vq_93, vq_95, vq_96, vq_100, vq_101, vq_110, vq_111, vq_112, vq_113, vq_114, vq_200, vq_s1, vq_s2, vq_t1, vq_t2, vq_st, vq_r1, vq_sr, vq_ssr, vq_tsr, vq_v1, vq_v2, vq_e, vq_nln, vq_nli, vq_nlr, vq_nlf, vq_nlu, vq_isAr, vq_isAf, vq_isAu, vq_di, vq_dr, vq_df, vq_du, vq_dl, vq_sf, vq_f1, ie_m2_m1, ie_m2_0, ie_m2_1, ie_m2_2, ie_m2_3, ie_m2_4, ie_m2_8, ie_m2_20, ie_m1_m2, ie_m1_0, ie_m1_1, ie_m1_2, ie_m1_3, ie_m1_4, ie_m1_8, ie_m1_20, ie_0_m2, ie_0_m1, ie_0_1, ie_0_2, ie_0_3, ie_0_4, ie_0_8, ie_0_20, ie_1_m2, ie_1_m1, ie_1_0, ie_1_2, ie_1_3, ie_1_4, ie_1_8, ie_1_20, ie_2_m2, ie_2_m1, ie_2_0, ie_2_1, ie_2_3, ie_2_4, ie_2_8, ie_2_20, ie_3_m2, ie_3_m1, ie_3_0, ie_3_1, ie_3_2, ie_3_4, ie_3_8, ie_3_20, ie_4_m2, ie_4_m1, ie_4_0, ie_4_1, ie_4_2, ie_4_3, ie_4_8, ie_4_20, ie_8_m2, ie_8_m1, ie_8_0, ie_8_1, ie_8_2, ie_8_3, ie_8_4, ie_8_20, ie_20_m2, ie_20_m1, ie_20_0, ie_20_1, ie_20_2, ie_20_3, ie_20_4, ie_20_8, am_ne1, am_ne2, am_I_wI, am_L_wL, am_P_wP, Nat.reduceEqDiff, false_and, if_false, if_true, vq_rr, vq_rn, vq_li, vq_ll, vq_lar, vq_laf, vq_lan, vq_arr, vq_d0, vq_p0, vq_ps, am_get_0, am_get_s, am_set_0, am_set_s, am_rf_none, am_rf_some, am_S_wI, am_S_wL, am_S_wP, am_L_wI, am_P_wI, am_I_wL, am_P_wL, am_I_wP, am_L_wP, am_N_wI, am_N_wL, am_N_wP, am_ok_l, am_push_n, am_push_s, am_ent_nil, am_ent_i, am_ent_r, am_ent_f, am_ent_n, am_ent_l, not_true_eq_false, not_false_eq_true, false_implies, true_implies, implies_true, Int32.reduceAdd, Int32.reduceLT, Int32.reduceLE, true_or, or_true, eq_self, List.replicate_succ, List.replicate_zero, Nat.reduceSub, Nat.reduceAdd, Nat.reduceLeDiff, Nat.add_one_sub_one, Nat.add_sub_cancel, true_and, and_true, Nat.le_add_left, Nat.zero_sub, Nat.sub_zero, Nat.sub_self, Nat.add_zero, Nat.zero_add, l88, k88_0, k88_1, k88_4, k88_5, k88_6, k88_9, k88_12, k88_15, k88_18, k88_19, k88_21, k88_24, k88_25, k88_26, k88_29, k88_30, k88_31, k88_34, k88_37, k88_38, k88_39, k88_42, k88_43, k88_44, k88_47, k88_50, k88_53, k88_54, k88_57, k88_60, k88_61, k88_62, k88_63, k88_64, k88_65, k88_66, k88_67, k88_68, k88_69, k88_70, k88_73, k88_74, k88_77, k88_78, k88_79, k88_80, k88_83, k88_86, k88_87, k88_88, k88_91, k88_92, k88_95, k88_96, k88_99, k88_102, k88_103, k88_104, k88_107, k88_108, k88_111, k88_112, k88_115, k88_116, k88_119, k88_120, k88_123, k88_124, b1.1, S2, s0, q9, q10, hSa.1, hPl.1]
      have J : ∀ o, o ≠ S → o ≠ S + 54 → o ≠ S + 60 → am_I (am_wI (am_wI (am_wI h3 S 6 0) (S + 54) 1 0) (S + 60) 2 0) o = am_I h3 o := fun o z1 z2 z3 => by
        funext j
        rw [am_I_wI, if_neg (fun y => z3 y.1), am_I_wI, if_neg (fun y => z2 y.1), am_I_wI, if_neg (fun y => z1 y.1)]
      have J2 : ∀ o, o ≠ S → am_I h2 o = am_I h1 o := fun o z => by
        rw [I2]; funext j; rw [am_I_wI, if_neg (fun y => z y.1)]
      have B : ∀ o, ¬ (o = S + 17 ∨ o = S + 18 ∨ o = S + 19 ∨ o = S + 20 ∨ o = S + 23) → am_I h3 o = am_I h2 o := fun o z => b1.f z
      have hq12 : q = S + 3 ∨ q = S + 10 := by rcases hmq with ⟨-, e⟩ | ⟨-, e⟩ <;> omega
      have Q : ∀ i, i ≤ 6 → am_I (am_wI (am_wI (am_wI h3 S 6 0) (S + 54) 1 0) (S + 60) 2 0) (q + i) = am_I h2 (q + i) := fun i hi => by
        rw [J _ (by omega) (by omega) (by omega), B _ (by omega)]
      have u4 : ∀ i, i < R 0 4 → am_I h2 (q + 4) i = nI (R 4 i) := fun i hi => (r3.2 i hi).2.2.2.1
      refine hK1 n R (by omega) rfl hp _ ⟨b1.1.trans S2, b1.2.2.1.trans L2, b1.2.2.2.1.trans N2, fun o k => ?_, fun o z => ?_, r3.of Q, ?_, ?_, ?_, ?_, ?_, ?_, ?_, ?_, ?_, ?_, ?_, ?_, ?_, ?_, ?_⟩
      · exact (congrFun (congrFun b1.2.1 o) k).trans (P2 o k)
      · rw [J o (fun y => z (Or.inl y)) (fun y => z (by omega)) (fun y => z (by omega)), B o (fun y => z (by omega)), J2 o (fun y => z (Or.inl y))]
        exact e1.f (fun y => y.elim (fun v => z (Or.inr (Or.inl v))) (fun v => z (Or.inr (Or.inr (Or.inl v)))))
      · rw [congrFun (J (S + 1) (by omega) (by omega) (by omega)) 1, congrFun (B (S + 1) (by omega)) 1, congrFun (J2 (S + 1) (by omega)) 1]; exact g1
      · rw [am_I_wI, if_neg (by omega), am_I_wI, if_neg (by omega), am_I_wI, if_neg (by omega), congrFun (B S (by omega)) 1, I2, am_I_wI, if_pos ⟨rfl, rfl⟩]
      · rw [am_I_wI, if_neg (by omega), am_I_wI, if_neg (by omega), am_I_wI, if_pos ⟨rfl, rfl⟩]
      · rw [am_I_wI, if_neg (by omega), am_I_wI, if_pos ⟨rfl, rfl⟩]
      · rw [am_I_wI, if_pos ⟨rfl, rfl⟩]
      · intro i hi; rw [congrFun (J (S + 19) (by omega) (by omega) (by omega)) i]; exact b2 i hi
      · intro i hi
        rw [congrFun (J (S + 20) (by omega) (by omega) (by omega)) i, b3 i hi]
        by_cases z : i < R 0 4
        · rw [if_pos z, if_pos z]; exact u4 i z
        · rw [if_neg z, if_neg z]
      · rw [congrFun (J (S + 18) (by omega) (by omega) (by omega)) 4]; exact b4
      · intro i hi; rw [congrFun (J (S + 23) (by omega) (by omega) (by omega)) i]; exact b5 i hi
      · rw [congrFun (J (S + 17) (by omega) (by omega) (by omega)) 1]; exact b6
      · rw [congrFun (J (S + 17) (by omega) (by omega) (by omega)) 2]; exact b7
      · rw [congrFun (J (S + 17) (by omega) (by omega) (by omega)) 3]; exact b8
      · rw [congrFun (J (S + 17) (by omega) (by omega) (by omega)) 7]; exact b9
      · rw [congrFun (J (S + 17) (by omega) (by omega) (by omega)) 8]; exact b10
      · rw [congrFun (J (S + 17) (by omega) (by omega) (by omega)) 11]; exact b11
  · rw [e] at w; exact w (nI_le hn (by omega))
end
