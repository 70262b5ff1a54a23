/-! SandCars.on, undo: the loops -/
def X_dayS (S : Nat) : Nat → Prop := fun o => S + 17 ≤ o ∧ o ≤ S + 22 ∨ o = S + 25
theorem am_thr_93 : am_thr 93 11 = "java/lang/IllegalArgumentException" := by decide
theorem am_thr_94 : am_thr 94 4 = "java/lang/IllegalArgumentException" := by decide
theorem ds_by_s {h : Am_H} {m n : Nat} {sl : Nat → Int32} (y : Dst) : (ds_by h m n sl y).2.2.2.2.2.1 = y.2.2.2.2.2.1 + 1 := by
  unfold ds_by
  by_cases z : mv_harm h m n y.1 = 0
  · rw [if_pos z]
  · rw [if_neg z]
theorem ds_by_eq {h h' : Am_H} {m n : Nat} {sl : Nat → Int32} (e0 : am_I h' m = am_I h m) (e1 : am_I h' (m + 1) = am_I h (m + 1)) (e2 : am_I h' (m + 2) = am_I h (m + 2)) (e3 : am_I h' (m + 3) = am_I h (m + 3)) (e4 : am_I h' (m + 4) = am_I h (m + 4)) (e6 : am_I h' (m + 6) = am_I h (m + 6)) (y : Dst) : ds_by h' m n sl y = ds_by h m n sl y := by
  unfold ds_by
  rw [mv_harm_eq e0 e1 e3, mv_arr_eq e0 e1 e3, mv_pass_eq e0 e1 e3 e4 e6, mv_go_eq e0 e1 e3, e2]
section
variable {l : Am_L} {d : Nat} {h : Am_H} {S m q n L : Nat} {K : Am_R → Am_H → Prop}
theorem M_on_loop {N : Nat} {V : Nat × Dst} (a : sd_in h S m q) (hm : is_Good h m n L) (hs : sl_ok (am_I h (S + 23)) n) (hN : N ≤ 200) (hK : ∀ h', am_fq h h' (X_dayS S) (fun o => o = S + 24) → dy_in h' (S + 17) V.2 → ds_ok V.2 → K (.inl (some (.int (nI V.1)))) h') : ∀ (j g : Nat) (y : Dst) (h2 : Am_H) (rc rs : Nat), g + j = N → y.2.2.2.2.2.1 + j < 2 ^ 30 → am_fq h h2 (X_dayS S) (fun o => o = S + 24) → dy_in h2 (S + 17) y → ds_ok y → ds_on h m n (am_I h (S + 23)) j g y = V → am_J l 93 (d + 5) rc rs 50 [some (.ref S), some (.int (nI N)), some (.int (nI g))] [] h2 K := by
  obtain ⟨s0, ⟨p0, p2, p3, p4, p5, p7, p8, p9, p10⟩, hT, ⟨hm1, hq, hmq⟩, ⟨hD, hB⟩, hR⟩ := a
  have hmS : m + 6 < S + 17 := by rcases hmq with ⟨e, -⟩ | ⟨e, -⟩ <;> omega
  have hSm : S < m := by rcases hmq with ⟨e, -⟩ | ⟨e, -⟩ <;> omega
  have xm : ∀ i, i ≤ 6 → ¬ X_dayS S (m + i) := fun i hi => by unfold X_dayS; omega
  intro j
  induction j with
  | zero =>
    intro g y h2 rc rs hg hb e2 dy ok hV
    rw [ds_on] at hV
    refine am_go 100 ?_
    simp only [vq_s, vq_0, vq_h, am_clr_eq, vq_1, vq_2, vq_3, vq_4, vq_5, vq_6, vq_7, vq_8, vq_9, vq_10, vq_11, vq_12, vq_13, vq_14, vq_15, vq_16, vq_17, vq_20, vq_21, vq_22, vq_23, vq_24, vq_25, vq_26, vq_27, vq_28, vq_29, vq_30, vq_31, vq_32, vq_33, vq_34, vq_35, vq_36, vq_37, vq_38, vq_39, vq_40, vq_41, vq_42, vq_43, vq_44, vq_45, vq_50, vq_51, vq_52, vq_53, vq_54, vq_55, vq_56, vq_57, vq_58, vq_59, vq_60, vq_61, vq_62, vq_63, vq_64, vq_70, vq_71, vq_72, vq_73, vq_74, vq_75, vq_76, vq_77, vq_78, vq_79, vq_80, vq_81, vq_85, vq_86, vq_87, vq_88, vq_89, vq_90, vq_91, vq_92, vq_93, vq_95, vq_96, vq_100, vq_101, vq_110, vq_111, vq_112, vq_113, vq_114, vq_200, vq_s1, vq_s2, vq_t1, vq_t2, vq_st, vq_r1, vq_sr, vq_ssr, vq_tsr, vq_v1, vq_v2, vq_e, vq_nln, vq_nli, vq_nlr, vq_nlf, vq_nlu, vq_isAr, vq_isAf, vq_isAu, vq_di, vq_dr, vq_df, vq_du, vq_dl, vq_sf, vq_f1, ie_m2_m1, ie_m2_0, ie_m2_1, ie_m2_2, ie_m2_3, ie_m2_4, ie_m2_8, ie_m2_20, ie_m1_m2, ie_m1_0, ie_m1_1, ie_m1_2, ie_m1_3, ie_m1_4, ie_m1_8, ie_m1_20, ie_0_m2, ie_0_m1, ie_0_1, ie_0_2, ie_0_3, ie_0_4, ie_0_8, ie_0_20, ie_1_m2, ie_1_m1, ie_1_0, ie_1_2, ie_1_3, ie_1_4, ie_1_8, ie_1_20, ie_2_m2, ie_2_m1, ie_2_0, ie_2_1, ie_2_3, ie_2_4, ie_2_8, ie_2_20, ie_3_m2, ie_3_m1, ie_3_0, ie_3_1, ie_3_2, ie_3_4, ie_3_8, ie_3_20, ie_4_m2, ie_4_m1, ie_4_0, ie_4_1, ie_4_2, ie_4_3, ie_4_8, ie_4_20, ie_8_m2, ie_8_m1, ie_8_0, ie_8_1, ie_8_2, ie_8_3, ie_8_4, ie_8_20, ie_20_m2, ie_20_m1, ie_20_0, ie_20_1, ie_20_2, ie_20_3, ie_20_4, ie_20_8, am_ne1, am_ne2, am_I_wI, am_L_wL, am_P_wP, Nat.reduceEqDiff, false_and, if_false, if_true, vq_rr, vq_rn, vq_li, vq_ll, vq_lar, vq_laf, vq_lan, vq_arr, vq_d0, vq_p0, vq_ps, am_get_0, am_get_s, am_set_0, am_set_s, am_rf_none, am_rf_some, am_S_wI, am_S_wL, am_S_wP, am_L_wI, am_P_wI, am_I_wL, am_P_wL, am_I_wP, am_L_wP, am_N_wI, am_N_wL, am_N_wP, am_ok_l, am_push_n, am_push_s, am_ent_nil, am_ent_i, am_ent_r, am_ent_f, am_ent_n, am_ent_l, not_true_eq_false, not_false_eq_true, false_implies, true_implies, implies_true, Int32.reduceAdd, Int32.reduceLT, Int32.reduceLE, true_or, or_true, eq_self, List.replicate_succ, List.replicate_zero, Nat.reduceSub, Nat.reduceAdd, Nat.reduceLeDiff, Nat.add_one_sub_one, Nat.add_sub_cancel, true_and, and_true, Nat.le_add_left, Nat.zero_sub, Nat.sub_zero, Nat.sub_self, Nat.add_zero, Nat.zero_add, l93, k93_0, k93_1, k93_4, k93_5, k93_8, k93_11, k93_14, k93_15, k93_17, k93_20, k93_21, k93_22, k93_25, k93_28, k93_31, k93_32, k93_35, k93_36, k93_39, k93_42, k93_43, k93_44, k93_45, k93_46, k93_47, k93_48, k93_49, k93_50, k93_51, k93_52, k93_55, k93_56, k93_59, k93_62, k93_65, k93_66, k93_69, k93_70, k93_73, k93_76, k93_79, k93_82, k93_83, e2.1, e2.2.1, s0, p4, hD.1]
    refine ⟨fun _ => ?_, fun z => absurd (nI_le (by omega) (by omega)) z⟩
    have := hK h2 e2 (by rw [← hV]; exact dy) (by rw [← hV]; exact ok)
    rw [← hV] at this
    exact this
  | succ j ih =>
    intro g y h2 rc rs hg hb e2 dy ok hV
    rw [ds_on] at hV
    have g3 : am_I h2 (S + 17) 3 = y.2.2.2.2.1 := dy.2.2.1
    have hm2 : is_Good h2 m n L := hm.fq e2 xm
    obtain ⟨u0, u1, u2, u3, u4, u5, u6⟩ := fq_stay (m := m) e2 xm
    have i23 : am_I h2 (S + 23) = am_I h (S + 23) := e2.f (by unfold X_dayS; omega)
    refine am_go 100 ?_
    simp only [vq_s, vq_0, vq_h, am_clr_eq, vq_1, vq_2, vq_3, vq_4, vq_5, vq_6, vq_7, vq_8, vq_9, vq_10, vq_11, vq_12, vq_13, vq_14, vq_15, vq_16, vq_17, vq_20, vq_21, vq_22, vq_23, vq_24, vq_25, vq_26, vq_27, vq_28, vq_29, vq_30, vq_31, vq_32, vq_33, vq_34, vq_35, vq_36, vq_37, vq_38, vq_39, vq_40, vq_41, vq_42, vq_43, vq_44, vq_45, vq_50, vq_51, vq_52, vq_53, vq_54, vq_55, vq_56, vq_57, vq_58, vq_59, vq_60, vq_61, vq_62, vq_63, vq_64, vq_70, vq_71, vq_72, vq_73, vq_74, vq_75, vq_76, vq_77, vq_78, vq_79, vq_80, vq_81, vq_85, vq_86, vq_87, vq_88, vq_89, vq_90, vq_91, vq_92, vq_93, vq_95, vq_96, vq_100, vq_101, vq_110, vq_111, vq_112, vq_113, vq_114, vq_200, vq_s1, vq_s2, vq_t1, vq_t2, vq_st, vq_r1, vq_sr, vq_ssr, vq_tsr, vq_v1, vq_v2, vq_e, vq_nln, vq_nli, vq_nlr, vq_nlf, vq_nlu, vq_isAr, vq_isAf, vq_isAu, vq_di, vq_dr, vq_df, vq_du, vq_dl, vq_sf, vq_f1, ie_m2_m1, ie_m2_0, ie_m2_1, ie_m2_2, ie_m2_3, ie_m2_4, ie_m2_8, ie_m2_20, ie_m1_m2, ie_m1_0, ie_m1_1, ie_m1_2, ie_m1_3, ie_m1_4, ie_m1_8, ie_m1_20, ie_0_m2, ie_0_m1, ie_0_1, ie_0_2, ie_0_3, ie_0_4, ie_0_8, ie_0_20, ie_1_m2, ie_1_m1, ie_1_0, ie_1_2, ie_1_3, ie_1_4, ie_1_8, ie_1_20, ie_2_m2, ie_2_m1, ie_2_0, ie_2_1, ie_2_3, ie_2_4, ie_2_8, ie_2_20, ie_3_m2, ie_3_m1, ie_3_0, ie_3_1, ie_3_2, ie_3_4, ie_3_8, ie_3_20, ie_4_m2, ie_4_m1, ie_4_0, ie_4_1, ie_4_2, ie_4_3, ie_4_8, ie_4_20, ie_8_m2, ie_8_m1, ie_8_0, ie_8_1, ie_8_2, ie_8_3, ie_8_4, ie_8_20, ie_20_m2, ie_20_m1, ie_20_0, ie_20_1, ie_20_2, ie_20_3, ie_20_4, ie_20_8, am_ne1, am_ne2, am_I_wI, am_L_wL, am_P_wP, Nat.reduceEqDiff, false_and, if_false, if_true, vq_rr, vq_rn, vq_li, vq_ll, vq_lar, vq_laf, vq_lan, vq_arr, vq_d0, vq_p0, vq_ps, am_get_0, am_get_s, am_set_0, am_set_s, am_rf_none, am_rf_some, am_S_wI, am_S_wL, am_S_wP, am_L_wI, am_P_wI, am_I_wL, am_P_wL, am_I_wP, am_L_wP, am_N_wI, am_N_wL, am_N_wP, am_ok_l, am_push_n, am_push_s, am_ent_nil, am_ent_i, am_ent_r, am_ent_f, am_ent_n, am_ent_l, not_true_eq_false, not_false_eq_true, false_implies, true_implies, implies_true, Int32.reduceAdd, Int32.reduceLT, Int32.reduceLE, true_or, or_true, eq_self, List.replicate_succ, List.replicate_zero, Nat.reduceSub, Nat.reduceAdd, Nat.reduceLeDiff, Nat.add_one_sub_one, Nat.add_sub_cancel, true_and, and_true, Nat.le_add_left, Nat.zero_sub, Nat.sub_zero, Nat.sub_self, Nat.add_zero, Nat.zero_add, l93, k93_0, k93_1, k93_4, k93_5, k93_8, k93_11, k93_14, k93_15, k93_17, k93_20, k93_21, k93_22, k93_25, k93_28, k93_31, k93_32, k93_35, k93_36, k93_39, k93_42, k93_43, k93_44, k93_45, k93_46, k93_47, k93_48, k93_49, k93_50, k93_51, k93_52, k93_55, k93_56, k93_59, k93_62, k93_65, k93_66, k93_69, k93_70, k93_73, k93_76, k93_79, k93_82, k93_83, e2.1, e2.2.1, s0, p4, p2, hD.1, g3]
    refine ⟨fun z => absurd z (nI_ge (by omega) (by omega)), fun _ => ⟨fun z => ?_, fun z => ?_⟩⟩
    · rw [if_neg z] at hV
      have := hK h2 e2 (by rw [← hV]; exact dy) (by rw [← hV]; exact ok)
      rw [← hV] at this
      exact this
    · rw [if_pos z] at hV
      obtain ⟨x, x1, x2, x3⟩ := dy.2.2.2.2.2.1
      have gd : sp_gd (am_I h2 (S + 17 + 2)) (am_I h2 (S + 17 + 3)) (am_I h2 (S + 17 + 1) 4) := by
        rw [dy.1.2.2]; exact sp_gd_c dy.1.1 dy.1.2.1 (ok.1 z)
      have hkey : sp_keyN (fun r => (am_I h2 (S + 17 + 2) r + 1).toNatClampNeg) (fun r => (am_I h2 (S + 17 + 3) r).toNatClampNeg) (am_I h2 (S + 17 + 1) 4 + 1).toNatClampNeg = sp_K y.1 y.2.1 y.2.2.1 := by
        show sp_K _ _ _ = _
        rw [dy.1.2.2, sp_K_c dy.1.1 dy.1.2.1]
      have fin : ∀ h3, ((mv_harm h2 m n (am_I h2 (S + 17 + 2)) = 0 ∧ q_by h2 h3 m (S + 17) n x y.2.2.2.2.2.2.length (sp_keyN (fun r => (am_I h2 (S + 17 + 2) r + 1).toNatClampNeg) (fun r => (am_I h2 (S + 17 + 3) r).toNatClampNeg) (am_I h2 (S + 17 + 1) 4 + 1).toNatClampNeg)) ∨ (¬ mv_harm h2 m n (am_I h2 (S + 17 + 2)) = 0 ∧ q_byH h2 h3 m (S + 17) n x y.2.2.2.2.2.2.length (sp_keyN (fun r => (am_I h2 (S + 17 + 2) r + 1).toNatClampNeg) (fun r => (am_I h2 (S + 17 + 3) r).toNatClampNeg) (am_I h2 (S + 17 + 1) 4 + 1).toNatClampNeg))) → am_fq h2 h3 (X_day (S + 17)) (fun o => o = S + 17 + 7) → am_J l 93 (d + 5) rc rs 76 [some (.ref S), some (.int (nI N)), some (.int (nI g))] [] h3 K := by
        intro h3 hq3 f3
        have dn := dy_by hm2 dy ok z x1 x3 rfl hkey hq3
        have e3' : am_fq h h3 (X_dayS S) (fun o => o = S + 24) := e2.tr (f3.wk (fun o w => by unfold X_day at w; unfold X_dayS; omega) (fun o w => by omega)) (fun _ w => w) (fun _ w => w)
        rw [show S + 17 + 6 = S + 23 from rfl, i23, ds_by_eq u0 u1 u2 u3 u4 u6] at dn
        refine am_go 100 ?_
        simp only [vq_s, vq_0, vq_h, am_clr_eq, vq_1, vq_2, vq_3, vq_4, vq_5, vq_6, vq_7, vq_8, vq_9, vq_10, vq_11, vq_12, vq_13, vq_14, vq_15, vq_16, vq_17, vq_20, vq_21, vq_22, vq_23, vq_24, vq_25, vq_26, vq_27, vq_28, vq_29, vq_30, vq_31, vq_32, vq_33, vq_34, vq_35, vq_36, vq_37, vq_38, vq_39, vq_40, vq_41, vq_42, vq_43, vq_44, vq_45, vq_50, vq_51, vq_52, vq_53, vq_54, vq_55, vq_56, vq_57, vq_58, vq_59, vq_60, vq_61, vq_62, vq_63, vq_64, vq_70, vq_71, vq_72, vq_73, vq_74, vq_75, vq_76, vq_77, vq_78, vq_79, vq_80, vq_81, vq_85, vq_86, vq_87, vq_88, vq_89, vq_90, vq_91, vq_92, vq_93, vq_95, vq_96, vq_100, vq_101, vq_110, vq_111, vq_112, vq_113, vq_114, vq_200, vq_s1, vq_s2, vq_t1, vq_t2, vq_st, vq_r1, vq_sr, vq_ssr, vq_tsr, vq_v1, vq_v2, vq_e, vq_nln, vq_nli, vq_nlr, vq_nlf, vq_nlu, vq_isAr, vq_isAf, vq_isAu, vq_di, vq_dr, vq_df, vq_du, vq_dl, vq_sf, vq_f1, ie_m2_m1, ie_m2_0, ie_m2_1, ie_m2_2, ie_m2_3, ie_m2_4, ie_m2_8, ie_m2_20, ie_m1_m2, ie_m1_0, ie_m1_1, ie_m1_2, ie_m1_3, ie_m1_4, ie_m1_8, ie_m1_20, ie_0_m2, ie_0_m1, ie_0_1, ie_0_2, ie_0_3, ie_0_4, ie_0_8, ie_0_20, ie_1_m2, ie_1_m1, ie_1_0, ie_1_2, ie_1_3, ie_1_4, ie_1_8, ie_1_20, ie_2_m2, ie_2_m1, ie_2_0, ie_2_1, ie_2_3, ie_2_4, ie_2_8, ie_2_20, ie_3_m2, ie_3_m1, ie_3_0, ie_3_1, ie_3_2, ie_3_4, ie_3_8, ie_3_20, ie_4_m2, ie_4_m1, ie_4_0, ie_4_1, ie_4_2, ie_4_3, ie_4_8, ie_4_20, ie_8_m2, ie_8_m1, ie_8_0, ie_8_1, ie_8_2, ie_8_3, ie_8_4, ie_8_20, ie_20_m2, ie_20_m1, ie_20_0, ie_20_1, ie_20_2, ie_20_3, ie_20_4, ie_20_8, am_ne1, am_ne2, am_I_wI, am_L_wL, am_P_wP, Nat.reduceEqDiff, false_and, if_false, if_true, vq_rr, vq_rn, vq_li, vq_ll, vq_lar, vq_laf, vq_lan, vq_arr, vq_d0, vq_p0, vq_ps, am_get_0, am_get_s, am_set_0, am_set_s, am_rf_none, am_rf_some, am_S_wI, am_S_wL, am_S_wP, am_L_wI, am_P_wI, am_I_wL, am_P_wL, am_I_wP, am_L_wP, am_N_wI, am_N_wL, am_N_wP, am_ok_l, am_push_n, am_push_s, am_ent_nil, am_ent_i, am_ent_r, am_ent_f, am_ent_n, am_ent_l, not_true_eq_false, not_false_eq_true, false_implies, true_implies, implies_true, Int32.reduceAdd, Int32.reduceLT, Int32.reduceLE, true_or, or_true, eq_self, List.replicate_succ, List.replicate_zero, Nat.reduceSub, Nat.reduceAdd, Nat.reduceLeDiff, Nat.add_one_sub_one, Nat.add_sub_cancel, true_and, and_true, Nat.le_add_left, Nat.zero_sub, Nat.sub_zero, Nat.sub_self, Nat.add_zero, Nat.zero_add, l93, k93_0, k93_1, k93_4, k93_5, k93_8, k93_11, k93_14, k93_15, k93_17, k93_20, k93_21, k93_22, k93_25, k93_28, k93_31, k93_32, k93_35, k93_36, k93_39, k93_42, k93_43, k93_44, k93_45, k93_46, k93_47, k93_48, k93_49, k93_50, k93_51, k93_52, k93_55, k93_56, k93_59, k93_62, k93_65, k93_66, k93_69, k93_70, k93_73, k93_76, k93_79, k93_82, k93_83, nI_1]
        exact ih (g + 1) _ h3 rc rs (by omega) (by rw [ds_by_s]; omega) e3' dn (ds_by_ok hm hs ok z (by omega)) hV
      refine M_goBy (d := d) (hD.fq e2) hm2.1 hmS x1 x2 dy.2.2.2.2.1 ok.2.1 (sp_gd_fit gd) (fun w h3 q3 => ?_) (fun w h3 q3 => ?_)
      · simp only [am_ok_l, am_push_n]
        exact fin h3 (Or.inl ⟨w, q3⟩) q3.1
      · simp only [am_ok_l, am_push_n]
        exact fin h3 (Or.inr ⟨w, q3⟩) q3.1
end
