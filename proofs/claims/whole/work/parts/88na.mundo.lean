/-! the model's undo -/
section
variable {l : Am_L} {d : Nat} {h : Am_H} {M m n L : Nat} {K : Am_R → Am_H → Prop}
def q_mun (h h' : Am_H) (M b i : Nat) : Prop := am_fr h h' (fun q => q = M + 12) ∧ ∀ j, am_I h' (M + 12) j = if j < i then am_I h (M + 15) (b + j) else am_I h (M + 12) j
theorem N_undo_row {k : Nat} {v1 v2 v3 : Int32} (hM : is_Model h M) (hk3 : k < 300) (hK : ∀ h', q_mun h h' M (7 * k) 7 → am_J l 141 (d + 1) 0 0 64 [some (.ref M), some (.int v1), some (.int v2), some (.int v3), some (.int (nI k)), some (.int (nI 7))] [] h' K) : ∀ (j i : Nat) (h1 : Am_H), i + j = 7 → q_mun h h1 M (7 * k) i → am_J l 141 (d + 1) 0 0 64 [some (.ref M), some (.int v1), some (.int v2), some (.int v3), some (.int (nI k)), some (.int (nI i))] [] h1 K := by
  intro j
  induction j with
  | zero =>
    intro i h1 hi q
    have : i = 7 := by omega
    subst this
    exact hK h1 q
  | succ j ih =>
    intro i h1 hi q
    have hM2 := hM.fr q.1
    have hv : vp_in (nI (7 * k + i)) 2100 := vp_in_nI (by omega) (by omega)
    have hv7 : vp_in (nI i) 7 := vp_in_nI (by omega) (by omega)
    refine am_go 100 ?_
    simp only [vq_s, vq_0, vq_h, am_clr_eq, vq_1, vq_2, vq_3, vq_4, vq_5, vq_6, vq_7, vq_8, vq_9, vq_10, vq_11, vq_12, vq_13, vq_14, vq_15, vq_16, vq_17, vq_20, vq_21, vq_22, vq_23, vq_24, vq_25, vq_26, vq_27, vq_28, vq_29, vq_30, vq_31, vq_32, vq_33, vq_34, vq_35, vq_36, vq_37, vq_38, vq_39, vq_40, vq_41, vq_42, vq_43, vq_44, vq_45, vq_50, vq_51, vq_52, vq_53, vq_54, vq_55, vq_56, vq_57, vq_58, vq_59, vq_60, vq_61, vq_62, vq_63, vq_64, vq_70, vq_71, vq_72, vq_73, vq_74, vq_75, vq_76, vq_77, vq_78, vq_79, vq_80, vq_81, vq_85, vq_86, vq_87, vq_88, vq_89, vq_90, vq_91, vq_92, vq_93, vq_95, vq_96, vq_100, vq_101, vq_110, vq_111, vq_112, vq_113, vq_114, vq_200, vq_s1, vq_s2, vq_t1, vq_t2, vq_st, vq_r1, vq_sr, vq_ssr, vq_tsr, vq_v1, vq_v2, vq_e, vq_nln, vq_nli, vq_nlr, vq_nlf, vq_nlu, vq_isAr, vq_isAf, vq_isAu, vq_di, vq_dr, vq_df, vq_du, vq_dl, vq_sf, vq_f1, ie_m2_m1, ie_m2_0, ie_m2_1, ie_m2_2, ie_m2_3, ie_m2_4, ie_m2_8, ie_m2_20, ie_m1_m2, ie_m1_0, ie_m1_1, ie_m1_2, ie_m1_3, ie_m1_4, ie_m1_8, ie_m1_20, ie_0_m2, ie_0_m1, ie_0_1, ie_0_2, ie_0_3, ie_0_4, ie_0_8, ie_0_20, ie_1_m2, ie_1_m1, ie_1_0, ie_1_2, ie_1_3, ie_1_4, ie_1_8, ie_1_20, ie_2_m2, ie_2_m1, ie_2_0, ie_2_1, ie_2_3, ie_2_4, ie_2_8, ie_2_20, ie_3_m2, ie_3_m1, ie_3_0, ie_3_1, ie_3_2, ie_3_4, ie_3_8, ie_3_20, ie_4_m2, ie_4_m1, ie_4_0, ie_4_1, ie_4_2, ie_4_3, ie_4_8, ie_4_20, ie_8_m2, ie_8_m1, ie_8_0, ie_8_1, ie_8_2, ie_8_3, ie_8_4, ie_8_20, ie_20_m2, ie_20_m1, ie_20_0, ie_20_1, ie_20_2, ie_20_3, ie_20_4, ie_20_8, am_ne1, am_ne2, am_I_wI, am_L_wL, am_P_wP, Nat.reduceEqDiff, false_and, if_false, if_true, vq_rr, vq_rn, vq_li, vq_ll, vq_lar, vq_laf, vq_lan, vq_arr, vq_d0, vq_p0, vq_ps, am_get_0, am_get_s, am_set_0, am_set_s, am_rf_none, am_rf_some, am_S_wI, am_S_wL, am_S_wP, am_L_wI, am_P_wI, am_I_wL, am_P_wL, am_I_wP, am_L_wP, am_N_wI, am_N_wL, am_N_wP, am_ok_l, am_push_n, am_push_s, am_ent_nil, am_ent_i, am_ent_r, am_ent_f, am_ent_n, am_ent_l, not_true_eq_false, not_false_eq_true, false_implies, true_implies, implies_true, Int32.reduceAdd, Int32.reduceLT, Int32.reduceLE, true_or, or_true, eq_self, List.replicate_succ, List.replicate_zero, Nat.reduceSub, Nat.reduceAdd, Nat.reduceLeDiff, Nat.add_one_sub_one, Nat.add_sub_cancel, true_and, and_true, Nat.le_add_left, Nat.zero_sub, Nat.sub_zero, Nat.sub_self, Nat.add_zero, Nat.zero_add, l141, k141_0, k141_1, k141_2, k141_5, k141_6, k141_9, k141_10, k141_11, k141_14, k141_15, k141_16, k141_17, k141_20, k141_23, k141_24, k141_25, k141_26, k141_27, k141_28, k141_31, k141_32, k141_33, k141_36, k141_37, k141_38, k141_41, k141_42, k141_43, k141_46, k141_47, k141_48, k141_51, k141_52, k141_55, k141_58, k141_59, k141_61, k141_62, k141_64, k141_66, k141_68, k141_71, k141_72, k141_75, k141_77, k141_78, k141_81, k141_83, k141_85, k141_86, k141_88, k141_89, k141_90, k141_91, k141_94, k141_97, k141_98, k141_99, k141_102, k141_104, k141_105, k141_108, k141_109, k141_110, k141_113, k141_116, k141_119, k141_120, hM2.1, mp_rows hM2, ms_rows hM2, mp_now hM2, ms_now hM2, nI_7m, nI_add, nI_1, hv, hv7, nI_clamp (show 7 * k + i < 2 ^ 31 by omega), nI_clamp (show i < 2 ^ 31 by omega)]
    refine ⟨fun z => absurd z (by rw [show (7 : Int32) = nI 7 from rfl]; exact nI_ge (by omega) (by omega)), fun _ => ?_⟩
    refine ih (i + 1) _ (by omega) ⟨am_fr.w q.1 rfl, fun j => ?_⟩
    rw [am_I_wI, q.1.f (show ¬ M + 15 = M + 12 by omega)]
    by_cases e : j = i
    · rw [if_pos ⟨rfl, e⟩, if_pos (show j < i + 1 by omega), e]
    · rw [if_neg (fun w => e w.2), q.2]
      by_cases e2 : j < i
      · rw [if_pos e2, if_pos (show j < i + 1 by omega)]
      · rw [if_neg e2, if_neg (show ¬ j < i + 1 by omega)]
def X_und (M : Nat) : Nat → Prop := fun q => q = M ∨ q = M + 12
theorem N_undo_loop {N : Nat} {x : Int32} {Y : Dst} (hM : is_Model h M) (hN : N ≤ 300) (hK : ∀ h', am_fr h h' (X_und M) → fd_day h h' M → am_I h' M 2 = 0 → md_dy h' M Y → md_ok L n Y → K (.inl (some (.int (nI N)))) h') : ∀ (j g : Nat) (y : Dst) (h2 : Am_H) (v4 v5 : Option Value), g + j = N → j ≤ y.2.2.2.2.2.2.length → am_fr h h2 (X_und M) → fd_day h h2 M → am_I h2 M 2 = 0 → md_dy h2 M y → ds_ok y → md_ok L n y → ds_un j y = Y → am_J l 141 (d + 1) 0 0 26 [some (.ref M), some (.int x), some (.int (nI N)), some (.int (nI g)), v4, v5] [] h2 K := by
  intro j
  induction j with
  | zero =>
    intro g y h2 v4 v5 hg hj e2 fd c2 dy ok mk hY
    rw [ds_un] at hY
    subst hY
    refine am_go 100 ?_
    simp only [vq_s, vq_0, vq_h, am_clr_eq, vq_1, vq_2, vq_3, vq_4, vq_5, vq_6, vq_7, vq_8, vq_9, vq_10, vq_11, vq_12, vq_13, vq_14, vq_15, vq_16, vq_17, vq_20, vq_21, vq_22, vq_23, vq_24, vq_25, vq_26, vq_27, vq_28, vq_29, vq_30, vq_31, vq_32, vq_33, vq_34, vq_35, vq_36, vq_37, vq_38, vq_39, vq_40, vq_41, vq_42, vq_43, vq_44, vq_45, vq_50, vq_51, vq_52, vq_53, vq_54, vq_55, vq_56, vq_57, vq_58, vq_59, vq_60, vq_61, vq_62, vq_63, vq_64, vq_70, vq_71, vq_72, vq_73, vq_74, vq_75, vq_76, vq_77, vq_78, vq_79, vq_80, vq_81, vq_85, vq_86, vq_87, vq_88, vq_89, vq_90, vq_91, vq_92, vq_93, vq_95, vq_96, vq_100, vq_101, vq_110, vq_111, vq_112, vq_113, vq_114, vq_200, vq_s1, vq_s2, vq_t1, vq_t2, vq_st, vq_r1, vq_sr, vq_ssr, vq_tsr, vq_v1, vq_v2, vq_e, vq_nln, vq_nli, vq_nlr, vq_nlf, vq_nlu, vq_isAr, vq_isAf, vq_isAu, vq_di, vq_dr, vq_df, vq_du, vq_dl, vq_sf, vq_f1, ie_m2_m1, ie_m2_0, ie_m2_1, ie_m2_2, ie_m2_3, ie_m2_4, ie_m2_8, ie_m2_20, ie_m1_m2, ie_m1_0, ie_m1_1, ie_m1_2, ie_m1_3, ie_m1_4, ie_m1_8, ie_m1_20, ie_0_m2, ie_0_m1, ie_0_1, ie_0_2, ie_0_3, ie_0_4, ie_0_8, ie_0_20, ie_1_m2, ie_1_m1, ie_1_0, ie_1_2, ie_1_3, ie_1_4, ie_1_8, ie_1_20, ie_2_m2, ie_2_m1, ie_2_0, ie_2_1, ie_2_3, ie_2_4, ie_2_8, ie_2_20, ie_3_m2, ie_3_m1, ie_3_0, ie_3_1, ie_3_2, ie_3_4, ie_3_8, ie_3_20, ie_4_m2, ie_4_m1, ie_4_0, ie_4_1, ie_4_2, ie_4_3, ie_4_8, ie_4_20, ie_8_m2, ie_8_m1, ie_8_0, ie_8_1, ie_8_2, ie_8_3, ie_8_4, ie_8_20, ie_20_m2, ie_20_m1, ie_20_0, ie_20_1, ie_20_2, ie_20_3, ie_20_4, ie_20_8, am_ne1, am_ne2, am_I_wI, am_L_wL, am_P_wP, Nat.reduceEqDiff, false_and, if_false, if_true, vq_rr, vq_rn, vq_li, vq_ll, vq_lar, vq_laf, vq_lan, vq_arr, vq_d0, vq_p0, vq_ps, am_get_0, am_get_s, am_set_0, am_set_s, am_rf_none, am_rf_some, am_S_wI, am_S_wL, am_S_wP, am_L_wI, am_P_wI, am_I_wL, am_P_wL, am_I_wP, am_L_wP, am_N_wI, am_N_wL, am_N_wP, am_ok_l, am_push_n, am_push_s, am_ent_nil, am_ent_i, am_ent_r, am_ent_f, am_ent_n, am_ent_l, not_true_eq_false, not_false_eq_true, false_implies, true_implies, implies_true, Int32.reduceAdd, Int32.reduceLT, Int32.reduceLE, true_or, or_true, eq_self, List.replicate_succ, List.replicate_zero, Nat.reduceSub, Nat.reduceAdd, Nat.reduceLeDiff, Nat.add_one_sub_one, Nat.add_sub_cancel, true_and, and_true, Nat.le_add_left, Nat.zero_sub, Nat.sub_zero, Nat.sub_self, Nat.add_zero, Nat.zero_add, l141, k141_0, k141_1, k141_2, k141_5, k141_6, k141_9, k141_10, k141_11, k141_14, k141_15, k141_16, k141_17, k141_20, k141_23, k141_24, k141_25, k141_26, k141_27, k141_28, k141_31, k141_32, k141_33, k141_36, k141_37, k141_38, k141_41, k141_42, k141_43, k141_46, k141_47, k141_48, k141_51, k141_52, k141_55, k141_58, k141_59, k141_61, k141_62, k141_64, k141_66, k141_68, k141_71, k141_72, k141_75, k141_77, k141_78, k141_81, k141_83, k141_85, k141_86, k141_88, k141_89, k141_90, k141_91, k141_94, k141_97, k141_98, k141_99, k141_102, k141_104, k141_105, k141_108, k141_109, k141_110, k141_113, k141_116, k141_119, k141_120, hM.1]
    exact ⟨fun _ => hK h2 e2 fd c2 dy mk, fun z => absurd (nI_le (by omega) (by omega)) z⟩
  | succ j ih =>
    intro g y h2 v4 v5 hg hj e2 fd c2 dy ok mk hY
    rw [ds_un] at hY
    cases hp : y.2.2.2.2.2.2 with
    | nil => rw [hp] at hj; simp at hj
    | cons k r =>
      have hM2 := hM.fr e2
      have o3 := ok.2.2.1
      have o2 := ok.2.1
      rw [hp, List.length_cons] at o3 o2
      obtain ⟨s, hs⟩ : ∃ s, y.2.2.2.2.2.1 = s + 1 := ⟨y.2.2.2.2.2.1 - 1, by omega⟩
      have s30 := ok.2.2.2.2
      have g25 : am_I h2 M 25 = nI (s + 1) := by rw [dy.2.2.2.1, hs]
      have g30 : am_I h2 M 30 = nI (r.length + 1) := by rw [dy.2.2.2.2.1, hp, List.length_cons]
      obtain ⟨b, hb⟩ : ∃ b, b = s % 300 := ⟨_, rfl⟩
      have hr : nI s - nI s / 300 * 300 = nI b := by rw [hb]; exact nI_rem (b := 300) (by omega) (by omega)
      have hc3 : ¬ (300 : Int32) = 0 := by decide
      have hb3 : b < 300 := by rw [hb]; exact Nat.mod_lt _ (by omega)
      have hv : vp_in (nI b) 300 := vp_in_nI hb3 (by omega)
      have hck : (nI b).toNatClampNeg = b := nI_clamp (by omega)
      refine am_go 100 ?_
      simp only [vq_s, vq_0, vq_h, am_clr_eq, vq_1, vq_2, vq_3, vq_4, vq_5, vq_6, vq_7, vq_8, vq_9, vq_10, vq_11, vq_12, vq_13, vq_14, vq_15, vq_16, vq_17, vq_20, vq_21, vq_22, vq_23, vq_24, vq_25, vq_26, vq_27, vq_28, vq_29, vq_30, vq_31, vq_32, vq_33, vq_34, vq_35, vq_36, vq_37, vq_38, vq_39, vq_40, vq_41, vq_42, vq_43, vq_44, vq_45, vq_50, vq_51, vq_52, vq_53, vq_54, vq_55, vq_56, vq_57, vq_58, vq_59, vq_60, vq_61, vq_62, vq_63, vq_64, vq_70, vq_71, vq_72, vq_73, vq_74, vq_75, vq_76, vq_77, vq_78, vq_79, vq_80, vq_81, vq_85, vq_86, vq_87, vq_88, vq_89, vq_90, vq_91, vq_92, vq_93, vq_95, vq_96, vq_100, vq_101, vq_110, vq_111, vq_112, vq_113, vq_114, vq_200, vq_s1, vq_s2, vq_t1, vq_t2, vq_st, vq_r1, vq_sr, vq_ssr, vq_tsr, vq_v1, vq_v2, vq_e, vq_nln, vq_nli, vq_nlr, vq_nlf, vq_nlu, vq_isAr, vq_isAf, vq_isAu, vq_di, vq_dr, vq_df, vq_du, vq_dl, vq_sf, vq_f1, ie_m2_m1, ie_m2_0, ie_m2_1, ie_m2_2, ie_m2_3, ie_m2_4, ie_m2_8, ie_m2_20, ie_m1_m2, ie_m1_0, ie_m1_1, ie_m1_2, ie_m1_3, ie_m1_4, ie_m1_8, ie_m1_20, ie_0_m2, ie_0_m1, ie_0_1, ie_0_2, ie_0_3, ie_0_4, ie_0_8, ie_0_20, ie_1_m2, ie_1_m1, ie_1_0, ie_1_2, ie_1_3, ie_1_4, ie_1_8, ie_1_20, ie_2_m2, ie_2_m1, ie_2_0, ie_2_1, ie_2_3, ie_2_4, ie_2_8, ie_2_20, ie_3_m2, ie_3_m1, ie_3_0, ie_3_1, ie_3_2, ie_3_4, ie_3_8, ie_3_20, ie_4_m2, ie_4_m1, ie_4_0, ie_4_1, ie_4_2, ie_4_3, ie_4_8, ie_4_20, ie_8_m2, ie_8_m1, ie_8_0, ie_8_1, ie_8_2, ie_8_3, ie_8_4, ie_8_20, ie_20_m2, ie_20_m1, ie_20_0, ie_20_1, ie_20_2, ie_20_3, ie_20_4, ie_20_8, am_ne1, am_ne2, am_I_wI, am_L_wL, am_P_wP, Nat.reduceEqDiff, false_and, if_false, if_true, vq_rr, vq_rn, vq_li, vq_ll, vq_lar, vq_laf, vq_lan, vq_arr, vq_d0, vq_p0, vq_ps, am_get_0, am_get_s, am_set_0, am_set_s, am_rf_none, am_rf_some, am_S_wI, am_S_wL, am_S_wP, am_L_wI, am_P_wI, am_I_wL, am_P_wL, am_I_wP, am_L_wP, am_N_wI, am_N_wL, am_N_wP, am_ok_l, am_push_n, am_push_s, am_ent_nil, am_ent_i, am_ent_r, am_ent_f, am_ent_n, am_ent_l, not_true_eq_false, not_false_eq_true, false_implies, true_implies, implies_true, Int32.reduceAdd, Int32.reduceLT, Int32.reduceLE, true_or, or_true, eq_self, List.replicate_succ, List.replicate_zero, Nat.reduceSub, Nat.reduceAdd, Nat.reduceLeDiff, Nat.add_one_sub_one, Nat.add_sub_cancel, true_and, and_true, Nat.le_add_left, Nat.zero_sub, Nat.sub_zero, Nat.sub_self, Nat.add_zero, Nat.zero_add, l141, k141_0, k141_1, k141_2, k141_5, k141_6, k141_9, k141_10, k141_11, k141_14, k141_15, k141_16, k141_17, k141_20, k141_23, k141_24, k141_25, k141_26, k141_27, k141_28, k141_31, k141_32, k141_33, k141_36, k141_37, k141_38, k141_41, k141_42, k141_43, k141_46, k141_47, k141_48, k141_51, k141_52, k141_55, k141_58, k141_59, k141_61, k141_62, k141_64, k141_66, k141_68, k141_71, k141_72, k141_75, k141_77, k141_78, k141_81, k141_83, k141_85, k141_86, k141_88, k141_89, k141_90, k141_91, k141_94, k141_97, k141_98, k141_99, k141_102, k141_104, k141_105, k141_108, k141_109, k141_110, k141_113, k141_116, k141_119, k141_120, hM2.1, g25, g30, nI_pred, am_I_wI, hr, hc3, and_self, if_true, Nat.reduceEqDiff, and_false, if_false]
      refine ⟨fun z => absurd z (nI_ge (by omega) (by omega)), fun _ => ?_⟩
      obtain ⟨h3, hh3⟩ : ∃ h3, h3 = am_wI (am_wI h2 M 25 (nI s)) M 30 (nI r.length) := ⟨_, rfl⟩
      rw [← hh3]
      have e3' : am_fr h2 h3 (X_und M) := by rw [hh3]; exact am_fr.w (am_fr.w am_fr.rf (Or.inl rfl)) (Or.inl rfl)
      have R3 : ∀ q, q ≠ M → am_I h3 q = am_I h2 q := fun q hq => by funext j; rw [hh3, am_I_wI, if_neg (fun w => hq w.1), am_I_wI, if_neg (fun w => hq w.1)]
      have A3 : ∀ i, am_I h3 M i = if i = 30 then nI r.length else if i = 25 then nI s else am_I h2 M i := fun i => by
        rw [hh3, am_I_wI]
        by_cases w : i = 30
        · rw [if_pos ⟨rfl, w⟩, if_pos w]
        · rw [if_neg (fun u => w u.2), if_neg w, am_I_wI]
          by_cases w2 : i = 25
          · rw [if_pos ⟨rfl, w2⟩, if_pos w2]
          · rw [if_neg (fun u => w2 u.2), if_neg w2]
      clear hh3
      have hM3 := hM2.fr e3'
      refine N_undo_row (d := d) hM3 hb3 (fun h4 q4 => ?_) 7 0 h3 (by omega) ⟨am_fr.rf, fun j => by rw [if_neg (by omega)]⟩
      have hM4 := hM3.fr q4.1
      refine am_go 100 ?_
      simp only [vq_s, vq_0, vq_h, am_clr_eq, vq_1, vq_2, vq_3, vq_4, vq_5, vq_6, vq_7, vq_8, vq_9, vq_10, vq_11, vq_12, vq_13, vq_14, vq_15, vq_16, vq_17, vq_20, vq_21, vq_22, vq_23, vq_24, vq_25, vq_26, vq_27, vq_28, vq_29, vq_30, vq_31, vq_32, vq_33, vq_34, vq_35, vq_36, vq_37, vq_38, vq_39, vq_40, vq_41, vq_42, vq_43, vq_44, vq_45, vq_50, vq_51, vq_52, vq_53, vq_54, vq_55, vq_56, vq_57, vq_58, vq_59, vq_60, vq_61, vq_62, vq_63, vq_64, vq_70, vq_71, vq_72, vq_73, vq_74, vq_75, vq_76, vq_77, vq_78, vq_79, vq_80, vq_81, vq_85, vq_86, vq_87, vq_88, vq_89, vq_90, vq_91, vq_92, vq_93, vq_95, vq_96, vq_100, vq_101, vq_110, vq_111, vq_112, vq_113, vq_114, vq_200, vq_s1, vq_s2, vq_t1, vq_t2, vq_st, vq_r1, vq_sr, vq_ssr, vq_tsr, vq_v1, vq_v2, vq_e, vq_nln, vq_nli, vq_nlr, vq_nlf, vq_nlu, vq_isAr, vq_isAf, vq_isAu, vq_di, vq_dr, vq_df, vq_du, vq_dl, vq_sf, vq_f1, ie_m2_m1, ie_m2_0, ie_m2_1, ie_m2_2, ie_m2_3, ie_m2_4, ie_m2_8, ie_m2_20, ie_m1_m2, ie_m1_0, ie_m1_1, ie_m1_2, ie_m1_3, ie_m1_4, ie_m1_8, ie_m1_20, ie_0_m2, ie_0_m1, ie_0_1, ie_0_2, ie_0_3, ie_0_4, ie_0_8, ie_0_20, ie_1_m2, ie_1_m1, ie_1_0, ie_1_2, ie_1_3, ie_1_4, ie_1_8, ie_1_20, ie_2_m2, ie_2_m1, ie_2_0, ie_2_1, ie_2_3, ie_2_4, ie_2_8, ie_2_20, ie_3_m2, ie_3_m1, ie_3_0, ie_3_1, ie_3_2, ie_3_4, ie_3_8, ie_3_20, ie_4_m2, ie_4_m1, ie_4_0, ie_4_1, ie_4_2, ie_4_3, ie_4_8, ie_4_20, ie_8_m2, ie_8_m1, ie_8_0, ie_8_1, ie_8_2, ie_8_3, ie_8_4, ie_8_20, ie_20_m2, ie_20_m1, ie_20_0, ie_20_1, ie_20_2, ie_20_3, ie_20_4, ie_20_8, am_ne1, am_ne2, am_I_wI, am_L_wL, am_P_wP, Nat.reduceEqDiff, false_and, if_false, if_true, vq_rr, vq_rn, vq_li, vq_ll, vq_lar, vq_laf, vq_lan, vq_arr, vq_d0, vq_p0, vq_ps, am_get_0, am_get_s, am_set_0, am_set_s, am_rf_none, am_rf_some, am_S_wI, am_S_wL, am_S_wP, am_L_wI, am_P_wI, am_I_wL, am_P_wL, am_I_wP, am_L_wP, am_N_wI, am_N_wL, am_N_wP, am_ok_l, am_push_n, am_push_s, am_ent_nil, am_ent_i, am_ent_r, am_ent_f, am_ent_n, am_ent_l, not_true_eq_false, not_false_eq_true, false_implies, true_implies, implies_true, Int32.reduceAdd, Int32.reduceLT, Int32.reduceLE, true_or, or_true, eq_self, List.replicate_succ, List.replicate_zero, Nat.reduceSub, Nat.reduceAdd, Nat.reduceLeDiff, Nat.add_one_sub_one, Nat.add_sub_cancel, true_and, and_true, Nat.le_add_left, Nat.zero_sub, Nat.sub_zero, Nat.sub_self, Nat.add_zero, Nat.zero_add, l141, k141_0, k141_1, k141_2, k141_5, k141_6, k141_9, k141_10, k141_11, k141_14, k141_15, k141_16, k141_17, k141_20, k141_23, k141_24, k141_25, k141_26, k141_27, k141_28, k141_31, k141_32, k141_33, k141_36, k141_37, k141_38, k141_41, k141_42, k141_43, k141_46, k141_47, k141_48, k141_51, k141_52, k141_55, k141_58, k141_59, k141_61, k141_62, k141_64, k141_66, k141_68, k141_71, k141_72, k141_75, k141_77, k141_78, k141_81, k141_83, k141_85, k141_86, k141_88, k141_89, k141_90, k141_91, k141_94, k141_97, k141_98, k141_99, k141_102, k141_104, k141_105, k141_108, k141_109, k141_110, k141_113, k141_116, k141_119, k141_120, hM4.1, mp_ores hM4, ms_ores hM4, hv, hck, nI_1]
      refine ⟨fun _ => ?_, fun z => absurd (by decide) z⟩
      have R4 : ∀ q, q ≠ M + 12 → am_I h4 q = am_I h3 q := fun q hq => q4.1.f hq
      obtain ⟨⟨c1, c2'⟩, c3⟩ := dy.2.2.2.2.2 0 k (by rw [hp]; rfl)
      rw [hs, Nat.sub_zero, Nat.add_sub_cancel, ← hb] at c1 c2' c3
      have dn : ds_back y = (dk_at k.1, dk_lf k.1, dk_ls k.1, k.2, 0, s, r) := by
        unfold ds_back
        rw [hp]
        dsimp only
        rw [hs, Nat.add_sub_cancel]
      obtain ⟨h5, hh5⟩ : ∃ h5, h5 = am_wI (am_wI h4 M 26 (am_I h4 (M + 16) b)) M 27 0 := ⟨_, rfl⟩
      rw [← hh5]
      have e5 : am_fr h4 h5 (X_und M) := by rw [hh5]; exact am_fr.w (am_fr.w am_fr.rf (Or.inl rfl)) (Or.inl rfl)
      have R5 : ∀ q, q ≠ M → am_I h5 q = am_I h4 q := fun q hq => by funext j; rw [hh5, am_I_wI, if_neg (fun w => hq w.1), am_I_wI, if_neg (fun w => hq w.1)]
      have A5 : ∀ i, am_I h5 M i = if i = 27 then 0 else if i = 26 then k.2 else if i = 30 then nI r.length else if i = 25 then nI s else am_I h2 M i := fun i => by
        rw [hh5, am_I_wI]
        by_cases w : i = 27
        · rw [if_pos ⟨rfl, w⟩, if_pos w]
        · rw [if_neg (fun u => w u.2), if_neg w, am_I_wI]
          by_cases w2 : i = 26
          · rw [if_pos ⟨rfl, w2⟩, if_pos w2, R4 _ (by omega), R3 _ (by omega)]; exact c3
          · rw [if_neg (fun u => w2 u.2), if_neg w2, R4 M (by omega), A3]
      clear hh5
      have ef : am_fr h h5 (X_und M) := ((e2.tr e3' (fun _ w => w)).tr (q4.1.wk (fun q w => Or.inr w)) (fun _ w => w)).tr e5 (fun _ w => w)
      refine ih (g + 1) _ h5 _ _ (by omega) ?_ ef (fun i i1 i2 i3 i4 i5 => ?_) ?_ ?_ (ds_back_ok ok) (md_ok_back mk) hY
      · rw [dn]
        rw [hp, List.length_cons] at hj
        show j ≤ r.length
        omega
      · rw [A5, if_neg i4, if_neg i3, if_neg i5, if_neg i2]; exact fd i i1 i2 i3 i4 i5
      · rw [A5, if_neg (by omega), if_neg (by omega), if_neg (by omega), if_neg (by omega)]; exact c2
      · rw [dn]
        have r5 : ∀ i, i < 7 → am_I h5 (M + 12) i = am_I h2 (M + 15) (7 * b + i) := fun i hi => by
          rw [R5 _ (by omega), q4.2, if_pos hi, R3 _ (by omega)]
        refine ⟨⟨fun q hq => ⟨?_, ?_⟩, ?_⟩, ?_, ?_, ?_, ?_, fun i k2 hk2 => ?_⟩
        · rw [r5 q (by omega)]; exact (c1 q hq).1
        · rw [r5 (3 + q) (by omega)]; exact (c1 q hq).2
        · rw [r5 6 (by omega)]; exact c2'
        · rw [A5, if_neg (by omega), if_pos rfl]
        · rw [A5, if_pos rfl]
        · rw [A5, if_neg (by omega), if_neg (by omega), if_neg (by omega), if_pos rfl]
        · rw [A5, if_neg (by omega), if_neg (by omega), if_pos rfl]
        · have hk2 : r[i]? = some k2 := hk2
          have := dy.2.2.2.2.2 (i + 1) k2 (by rw [hp]; exact hk2)
          rw [hs, show s + 1 - 1 - (i + 1) = s - 1 - i by omega] at this
          unfold md_kr at *
          rw [R5 _ (show M + 15 ≠ M by omega), R5 _ (show M + 16 ≠ M by omega), R4 _ (show M + 15 ≠ M + 12 by omega), R4 _ (show M + 16 ≠ M + 12 by omega), R3 _ (show M + 15 ≠ M by omega), R3 _ (show M + 16 ≠ M by omega)]
          exact this
theorem N_undo {x : Int32} {y : Dst} (hM : is_Model h M) (dy : md_dy h M y) (ok : ds_ok y) (mk : md_ok L n y) (hK : ∀ N, N ≤ y.2.2.2.2.2.2.length → (¬ x < 0 ∧ nI N = (if nI y.2.2.2.2.2.2.length < x then nI y.2.2.2.2.2.2.length else x)) → ∀ h', am_fr h h' (X_und M) → fd_day h h' M → am_I h' M 2 = 0 → md_dy h' M (ds_un N y) → md_ok L n (ds_un N y) → K (.inl (some (.int (nI N)))) h') (hX : x < 0 → K (.inl (some (.int 0))) (am_wI (am_wI h M 2 0) M 2 1)) : am_M l (d + 1) 0 0 141 [.ref M, .int x] h K := by
  have e1 : am_fr h (am_wI h M 2 0) (X_und M) := am_fr.w am_fr.rf (Or.inl rfl)
  have hM1 := hM.fr e1
  have f1 : ∀ i, i ≠ 2 → am_I (am_wI h M 2 0) M i = am_I h M i := fun i hi => by rw [am_I_wI, if_neg (fun w => hi w.2)]
  have f10 : ∀ q, q ≠ M → am_I (am_wI h M 2 0) q = am_I h q := fun q hq => by funext j; rw [am_I_wI, if_neg (fun w => hq w.1)]
  have g30 : am_I (am_wI h M 2 0) M 30 = nI y.2.2.2.2.2.2.length := by rw [f1 30 (by omega)]; exact dy.2.2.2.2.1
  have l3 := ok.2.1
  refine am_enter (mi := 141) (am_ckP_all 141 (by decide)) (Nat.le_of_ble_eq_true rfl) (by decide) ?_
  refine am_go 100 ?_
  simp only [vq_s, vq_0, vq_h, am_clr_eq, vq_1, vq_2, vq_3, vq_4, vq_5, vq_6, vq_7, vq_8, vq_9, vq_10, vq_11, vq_12, vq_13, vq_14, vq_15, vq_16, vq_17, vq_20, vq_21, vq_22, vq_23, vq_24, vq_25, vq_26, vq_27, vq_28, vq_29, vq_30, vq_31, vq_32, vq_33, vq_34, vq_35, vq_36, vq_37, vq_38, vq_39, vq_40, vq_41, vq_42, vq_43, vq_44, vq_45, vq_50, vq_51, vq_52, vq_53, vq_54, vq_55, vq_56, vq_57, vq_58, vq_59, vq_60, vq_61, vq_62, vq_63, vq_64, vq_70, vq_71, vq_72, vq_73, vq_74, vq_75, vq_76, vq_77, vq_78, vq_79, vq_80, vq_81, vq_85, vq_86, vq_87, vq_88, vq_89, vq_90, vq_91, vq_92, vq_93, vq_95, vq_96, vq_100, vq_101, vq_110, vq_111, vq_112, vq_113, vq_114, vq_200, vq_s1, vq_s2, vq_t1, vq_t2, vq_st, vq_r1, vq_sr, vq_ssr, vq_tsr, vq_v1, vq_v2, vq_e, vq_nln, vq_nli, vq_nlr, vq_nlf, vq_nlu, vq_isAr, vq_isAf, vq_isAu, vq_di, vq_dr, vq_df, vq_du, vq_dl, vq_sf, vq_f1, ie_m2_m1, ie_m2_0, ie_m2_1, ie_m2_2, ie_m2_3, ie_m2_4, ie_m2_8, ie_m2_20, ie_m1_m2, ie_m1_0, ie_m1_1, ie_m1_2, ie_m1_3, ie_m1_4, ie_m1_8, ie_m1_20, ie_0_m2, ie_0_m1, ie_0_1, ie_0_2, ie_0_3, ie_0_4, ie_0_8, ie_0_20, ie_1_m2, ie_1_m1, ie_1_0, ie_1_2, ie_1_3, ie_1_4, ie_1_8, ie_1_20, ie_2_m2, ie_2_m1, ie_2_0, ie_2_1, ie_2_3, ie_2_4, ie_2_8, ie_2_20, ie_3_m2, ie_3_m1, ie_3_0, ie_3_1, ie_3_2, ie_3_4, ie_3_8, ie_3_20, ie_4_m2, ie_4_m1, ie_4_0, ie_4_1, ie_4_2, ie_4_3, ie_4_8, ie_4_20, ie_8_m2, ie_8_m1, ie_8_0, ie_8_1, ie_8_2, ie_8_3, ie_8_4, ie_8_20, ie_20_m2, ie_20_m1, ie_20_0, ie_20_1, ie_20_2, ie_20_3, ie_20_4, ie_20_8, am_ne1, am_ne2, am_I_wI, am_L_wL, am_P_wP, Nat.reduceEqDiff, false_and, if_false, if_true, vq_rr, vq_rn, vq_li, vq_ll, vq_lar, vq_laf, vq_lan, vq_arr, vq_d0, vq_p0, vq_ps, am_get_0, am_get_s, am_set_0, am_set_s, am_rf_none, am_rf_some, am_S_wI, am_S_wL, am_S_wP, am_L_wI, am_P_wI, am_I_wL, am_P_wL, am_I_wP, am_L_wP, am_N_wI, am_N_wL, am_N_wP, am_ok_l, am_push_n, am_push_s, am_ent_nil, am_ent_i, am_ent_r, am_ent_f, am_ent_n, am_ent_l, not_true_eq_false, not_false_eq_true, false_implies, true_implies, implies_true, Int32.reduceAdd, Int32.reduceLT, Int32.reduceLE, true_or, or_true, eq_self, List.replicate_succ, List.replicate_zero, Nat.reduceSub, Nat.reduceAdd, Nat.reduceLeDiff, Nat.add_one_sub_one, Nat.add_sub_cancel, true_and, and_true, Nat.le_add_left, Nat.zero_sub, Nat.sub_zero, Nat.sub_self, Nat.add_zero, Nat.zero_add, l141, k141_0, k141_1, k141_2, k141_5, k141_6, k141_9, k141_10, k141_11, k141_14, k141_15, k141_16, k141_17, k141_20, k141_23, k141_24, k141_25, k141_26, k141_27, k141_28, k141_31, k141_32, k141_33, k141_36, k141_37, k141_38, k141_41, k141_42, k141_43, k141_46, k141_47, k141_48, k141_51, k141_52, k141_55, k141_58, k141_59, k141_61, k141_62, k141_64, k141_66, k141_68, k141_71, k141_72, k141_75, k141_77, k141_78, k141_81, k141_83, k141_85, k141_86, k141_88, k141_89, k141_90, k141_91, k141_94, k141_97, k141_98, k141_99, k141_102, k141_104, k141_105, k141_108, k141_109, k141_110, k141_113, k141_116, k141_119, k141_120, hM.1, dy.2.2.2.2.1]
  refine ⟨fun z => ?_, fun z => ?_⟩
  · have hz : ¬ x < 0 := Int32.not_lt.mpr z
    obtain ⟨N, hN, e⟩ : ∃ N, N ≤ y.2.2.2.2.2.2.length ∧ nI N = (if nI y.2.2.2.2.2.2.length < x then nI y.2.2.2.2.2.2.length else x) := by
      by_cases w : nI y.2.2.2.2.2.2.length < x
      · exact ⟨_, Nat.le_refl _, by rw [if_pos w]⟩
      · obtain ⟨r, hr, e⟩ := in_nI (n := y.2.2.2.2.2.2.length + 1) hz (by
          rw [Int32.lt_iff_toInt_lt, nI_toInt (by omega)]
          have := Int32.le_iff_toInt_le.mp (Int32.not_lt.mp w)
          rw [nI_toInt (by omega)] at this
          omega) (by omega)
        exact ⟨r, by omega, by rw [if_neg w, e]⟩
    rw [← e]
    refine N_undo_loop (Y := ds_un N y) hM (by omega) (fun h' a1 a2 a3 a4 a5 => hK N hN ⟨hz, e⟩ h' a1 a2 a3 a4 a5) N 0 y _ _ _ (by omega) hN e1 (fun i i1 _ _ _ _ => f1 i i1) (by rw [am_I_wI, if_pos ⟨rfl, rfl⟩]) ?_ ok mk rfl
    unfold md_dy row_in md_kr
    rw [f10 _ (show M + 12 ≠ M by omega), f10 _ (show M + 15 ≠ M by omega), f10 _ (show M + 16 ≠ M by omega), f1 _ (by omega), f1 _ (by omega), f1 _ (by omega), f1 _ (by omega)]
    exact dy
  · refine N_fail hM1 ?_
    simp only [am_ok_l, am_push_s]
    refine am_go 100 ?_
    simp only [vq_s, vq_0, vq_h, am_clr_eq, vq_1, vq_2, vq_3, vq_4, vq_5, vq_6, vq_7, vq_8, vq_9, vq_10, vq_11, vq_12, vq_13, vq_14, vq_15, vq_16, vq_17, vq_20, vq_21, vq_22, vq_23, vq_24, vq_25, vq_26, vq_27, vq_28, vq_29, vq_30, vq_31, vq_32, vq_33, vq_34, vq_35, vq_36, vq_37, vq_38, vq_39, vq_40, vq_41, vq_42, vq_43, vq_44, vq_45, vq_50, vq_51, vq_52, vq_53, vq_54, vq_55, vq_56, vq_57, vq_58, vq_59, vq_60, vq_61, vq_62, vq_63, vq_64, vq_70, vq_71, vq_72, vq_73, vq_74, vq_75, vq_76, vq_77, vq_78, vq_79, vq_80, vq_81, vq_85, vq_86, vq_87, vq_88, vq_89, vq_90, vq_91, vq_92, vq_93, vq_95, vq_96, vq_100, vq_101, vq_110, vq_111, vq_112, vq_113, vq_114, vq_200, vq_s1, vq_s2, vq_t1, vq_t2, vq_st, vq_r1, vq_sr, vq_ssr, vq_tsr, vq_v1, vq_v2, vq_e, vq_nln, vq_nli, vq_nlr, vq_nlf, vq_nlu, vq_isAr, vq_isAf, vq_isAu, vq_di, vq_dr, vq_df, vq_du, vq_dl, vq_sf, vq_f1, ie_m2_m1, ie_m2_0, ie_m2_1, ie_m2_2, ie_m2_3, ie_m2_4, ie_m2_8, ie_m2_20, ie_m1_m2, ie_m1_0, ie_m1_1, ie_m1_2, ie_m1_3, ie_m1_4, ie_m1_8, ie_m1_20, ie_0_m2, ie_0_m1, ie_0_1, ie_0_2, ie_0_3, ie_0_4, ie_0_8, ie_0_20, ie_1_m2, ie_1_m1, ie_1_0, ie_1_2, ie_1_3, ie_1_4, ie_1_8, ie_1_20, ie_2_m2, ie_2_m1, ie_2_0, ie_2_1, ie_2_3, ie_2_4, ie_2_8, ie_2_20, ie_3_m2, ie_3_m1, ie_3_0, ie_3_1, ie_3_2, ie_3_4, ie_3_8, ie_3_20, ie_4_m2, ie_4_m1, ie_4_0, ie_4_1, ie_4_2, ie_4_3, ie_4_8, ie_4_20, ie_8_m2, ie_8_m1, ie_8_0, ie_8_1, ie_8_2, ie_8_3, ie_8_4, ie_8_20, ie_20_m2, ie_20_m1, ie_20_0, ie_20_1, ie_20_2, ie_20_3, ie_20_4, ie_20_8, am_ne1, am_ne2, am_I_wI, am_L_wL, am_P_wP, Nat.reduceEqDiff, false_and, if_false, if_true, vq_rr, vq_rn, vq_li, vq_ll, vq_lar, vq_laf, vq_lan, vq_arr, vq_d0, vq_p0, vq_ps, am_get_0, am_get_s, am_set_0, am_set_s, am_rf_none, am_rf_some, am_S_wI, am_S_wL, am_S_wP, am_L_wI, am_P_wI, am_I_wL, am_P_wL, am_I_wP, am_L_wP, am_N_wI, am_N_wL, am_N_wP, am_ok_l, am_push_n, am_push_s, am_ent_nil, am_ent_i, am_ent_r, am_ent_f, am_ent_n, am_ent_l, not_true_eq_false, not_false_eq_true, false_implies, true_implies, implies_true, Int32.reduceAdd, Int32.reduceLT, Int32.reduceLE, true_or, or_true, eq_self, List.replicate_succ, List.replicate_zero, Nat.reduceSub, Nat.reduceAdd, Nat.reduceLeDiff, Nat.add_one_sub_one, Nat.add_sub_cancel, true_and, and_true, Nat.le_add_left, Nat.zero_sub, Nat.sub_zero, Nat.sub_self, Nat.add_zero, Nat.zero_add, l141, k141_0, k141_1, k141_2, k141_5, k141_6, k141_9, k141_10, k141_11, k141_14, k141_15, k141_16, k141_17, k141_20, k141_23, k141_24, k141_25, k141_26, k141_27, k141_28, k141_31, k141_32, k141_33, k141_36, k141_37, k141_38, k141_41, k141_42, k141_43, k141_46, k141_47, k141_48, k141_51, k141_52, k141_55, k141_58, k141_59, k141_61, k141_62, k141_64, k141_66, k141_68, k141_71, k141_72, k141_75, k141_77, k141_78, k141_81, k141_83, k141_85, k141_86, k141_88, k141_89, k141_90, k141_91, k141_94, k141_97, k141_98, k141_99, k141_102, k141_104, k141_105, k141_108, k141_109, k141_110, k141_113, k141_116, k141_119, k141_120]
    exact hX (Int32.not_le.mp z)
end
