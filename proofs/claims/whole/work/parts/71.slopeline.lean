/-! Tape: slopeLine, needsLine, fastLine -/
def rec_in (h : Am_H) (m : Nat) (R : Mrec) : Prop := (∀ k, k < 5 → am_I h m k = nI (R 0 k)) ∧ ∀ r, r < R 0 4 → am_I h (m + 1) r = nI (R 1 r) ∧ am_I h (m + 2) r = nI (R 2 r) ∧ am_I h (m + 3) r = nI (R 2 r) - nI (R 3 r) ∧ am_I h (m + 4) r = nI (R 4 r) ∧ am_I h (m + 5) r = nI (R 5 r) ∧ am_I h (m + 6) r = nI (R 6 r)
def X_m (m : Nat) : Nat → Prop := fun q => m ≤ q ∧ q ≤ m + 6
theorem rec_in.of {h h' : Am_H} {m : Nat} {R : Mrec} (a : rec_in h m R) (e : ∀ i, i ≤ 6 → am_I h' (m + i) = am_I h (m + i)) : rec_in h' m R := by
  have e0 := e 0 (by omega)
  have e1 := e 1 (by omega)
  have e2 := e 2 (by omega)
  have e3 := e 3 (by omega)
  have e4 := e 4 (by omega)
  have e5 := e 5 (by omega)
  have e6 := e 6 (by omega)
  rw [Nat.add_zero] at e0
  unfold rec_in
  rw [e0, e1, e2, e3, e4, e5, e6]
  exact a
theorem rec_in.t {h h' : Am_H} {m T : Nat} {R : Mrec} {S : Nat → Prop} (a : rec_in h m R) (e : tp_f h h' T S) (hT : T + 1 < m) : rec_in h' m R := a.of (fun i _ => e.1.f (by omega))
theorem rec_in.w {h : Am_H} {m k v : Nat} {R : Mrec} (a : rec_in h m R) (hk : k < 4) : rec_in (am_wI h m k (nI v)) m (ru R 0 k v) := by
  refine ⟨fun j hj => ?_, fun r hr => ?_⟩
  · rw [am_I_wI, ru]
    by_cases z : j = k
    · rw [if_pos ⟨rfl, z⟩, if_pos ⟨rfl, z⟩]
    · rw [if_neg (fun w => z w.2), if_neg (fun w => z w.2)]; exact a.1 j hj
  · have hr2 : r < R 0 4 := by
      have : ru R 0 k v 0 4 = R 0 4 := by rw [ru, if_neg (by omega)]
      rw [this] at hr; exact hr
    have := a.2 r hr2
    have n : ∀ o, 1 ≤ o → ru R 0 k v o r = R o r := fun o ho => by rw [ru, if_neg (by omega)]
    simp only [am_I_wI, n 1 (by omega), n 2 (by omega), n 3 (by omega), n 4 (by omega), n 5 (by omega), n 6 (by omega)]
    rw [if_neg (by omega), if_neg (by omega), if_neg (by omega), if_neg (by omega), if_neg (by omega), if_neg (by omega)]
    exact this
/-- what a line leaves -/
def q_ln (h h' : Am_H) (T m : Nat) (P : Pr (Mrec × Tok)) (ch : Nat → Int32) (len : Nat) (x : Int32) : Prop := match P with
  | .inl q => x = 0 ∧ am_I h' T 7 = nI q.1 ∧ am_I h' T 8 = nI q.2
  | .inr r => x = 1 ∧ tp_s h' T ch len r.2 ∧ rec_in h' m r.1 ∧ am_I h' T 7 = am_I h T 7 ∧ am_I h' T 8 = am_I h T 8
theorem p_num2 (ch : Nat → Int32) (t : Tok) (lo hi : Nat) : p_num ch t lo hi 2 = Pr.bd (p_num ch t lo hi 1) fun v => if v % 2 ≠ 0 then .inl (2, t.2.1) else .inr v := by
  unfold p_num
  by_cases z : t.1 ≠ 2
  · rw [if_pos z, if_pos z]; rfl
  · rw [if_neg z, if_neg z]
    by_cases y : 3 < t.2.2 - t.2.1
    · rw [if_pos y, if_pos y]; rfl
    · rw [if_neg y, if_neg y]
      generalize nv ch t.2.1 (t.2.2 - t.2.1) = v
      by_cases w : v < lo ∨ hi < v ∨ v % 1 ≠ 0
      · rw [if_pos w, if_pos (by omega)]; rfl
      · rw [if_neg w, Pr.bd_r]
        by_cases u : v % 2 ≠ 0
        · rw [if_pos u, if_pos (by omega)]
        · rw [if_neg u, if_neg (by omega)]
theorem sl_rem : ∀ v, v ≤ 20 → nI v - nI v / 2 * 2 = nI (v % 2) := by decide +kernel
theorem sl_min : ∀ v, v ≤ 20 → 4 ≤ v → (if nI v / 2 - 1 < 3 then nI v / 2 - 1 else 3) = nI (min 3 (v / 2 - 1)) := by decide +kernel
section
variable {l : Am_L} {d : Nat} {h : Am_H} {T m len : Nat} {ch : Nat → Int32} {t : Tok} {R : Mrec} {K : Am_R → Am_H → Prop}
theorem M_slopeLine (hm : is_Mine h m) (hTm : T + 1 < m) (a : tp_s h T ch len t) (hR : rec_in h m R) (hK : ∀ h' x, tl_f h h' T (X_m m) → q_ln h h' T m (p_slope ch len R t) ch len x → K (.inl (some (.int x))) h') : am_M l (d + 5) 0 0 69 [.ref T, .ref m] h K := by
  have hXm : X_m m m := ⟨Nat.le_refl _, by omega⟩
  have n7 : ¬ S_tok 7 := by unfold S_tok; omega
  have n8 : ¬ S_tok 8 := by unfold S_tok; omega
  refine am_enter (mi := 69) (am_ckP_all 69 (by decide)) (Nat.le_of_ble_eq_true rfl) ?_
  unfold p_slope at hK
  rw [p_num2] at hK
  refine am_go 100 ?_
  simp only [vq_s, vq_0, vq_h, am_clr_eq, vq_1, vq_2, vq_3, vq_4, vq_5, vq_6, vq_7, vq_8, vq_9, vq_10, vq_11, vq_12, vq_13, vq_14, vq_15, vq_16, vq_17, vq_20, vq_21, vq_22, vq_23, vq_24, vq_25, vq_26, vq_27, vq_28, vq_29, vq_30, vq_31, vq_32, vq_33, vq_34, vq_35, vq_36, vq_37, vq_38, vq_39, vq_40, vq_41, vq_42, vq_43, vq_44, vq_45, vq_50, vq_51, vq_52, vq_53, vq_54, vq_55, vq_56, vq_57, vq_58, vq_59, vq_60, vq_61, vq_62, vq_63, vq_64, vq_70, vq_71, vq_72, vq_73, vq_74, vq_75, vq_76, vq_77, vq_78, vq_79, vq_80, vq_81, vq_85, vq_86, vq_87, vq_88, vq_89, vq_90, vq_91, vq_92, vq_93, vq_95, vq_96, vq_100, vq_101, vq_110, vq_111, vq_112, vq_113, vq_114, vq_200, vq_s1, vq_s2, vq_t1, vq_t2, vq_st, vq_r1, vq_sr, vq_ssr, vq_tsr, vq_v1, vq_v2, vq_e, vq_nln, vq_nli, vq_nlr, vq_nlf, vq_nlu, vq_isAr, vq_isAf, vq_isAu, vq_di, vq_dr, vq_df, vq_du, vq_dl, vq_sf, vq_f1, ie_m2_m1, ie_m2_0, ie_m2_1, ie_m2_2, ie_m2_3, ie_m2_4, ie_m2_8, ie_m2_20, ie_m1_m2, ie_m1_0, ie_m1_1, ie_m1_2, ie_m1_3, ie_m1_4, ie_m1_8, ie_m1_20, ie_0_m2, ie_0_m1, ie_0_1, ie_0_2, ie_0_3, ie_0_4, ie_0_8, ie_0_20, ie_1_m2, ie_1_m1, ie_1_0, ie_1_2, ie_1_3, ie_1_4, ie_1_8, ie_1_20, ie_2_m2, ie_2_m1, ie_2_0, ie_2_1, ie_2_3, ie_2_4, ie_2_8, ie_2_20, ie_3_m2, ie_3_m1, ie_3_0, ie_3_1, ie_3_2, ie_3_4, ie_3_8, ie_3_20, ie_4_m2, ie_4_m1, ie_4_0, ie_4_1, ie_4_2, ie_4_3, ie_4_8, ie_4_20, ie_8_m2, ie_8_m1, ie_8_0, ie_8_1, ie_8_2, ie_8_3, ie_8_4, ie_8_20, ie_20_m2, ie_20_m1, ie_20_0, ie_20_1, ie_20_2, ie_20_3, ie_20_4, ie_20_8, am_ne1, am_ne2, am_I_wI, am_L_wL, am_P_wP, Nat.reduceEqDiff, false_and, if_false, if_true, vq_rr, vq_rn, vq_li, vq_ll, vq_lar, vq_laf, vq_lan, vq_arr, vq_d0, vq_p0, vq_ps, am_get_0, am_get_s, am_set_0, am_set_s, am_rf_none, am_rf_some, am_S_wI, am_S_wL, am_S_wP, am_L_wI, am_P_wI, am_I_wL, am_P_wL, am_I_wP, am_L_wP, am_N_wI, am_N_wL, am_N_wP, am_ok_l, am_push_n, am_push_s, am_ent_nil, am_ent_i, am_ent_r, am_ent_f, am_ent_n, am_ent_l, not_true_eq_false, not_false_eq_true, false_implies, true_implies, implies_true, Int32.reduceAdd, Int32.reduceLT, Int32.reduceLE, true_or, or_true, eq_self, List.replicate_succ, List.replicate_zero, Nat.reduceSub, Nat.reduceAdd, Nat.reduceLeDiff, Nat.add_one_sub_one, Nat.add_sub_cancel, true_and, and_true, Nat.le_add_left, Nat.zero_sub, Nat.sub_zero, Nat.sub_self, Nat.add_zero, Nat.zero_add, l69, k69_0, k69_1, k69_4, k69_5, k69_6, k69_8, k69_11, k69_14, k69_15, k69_16, k69_17, k69_20, k69_21, k69_22, k69_25, k69_26, k69_27, k69_30, k69_31, k69_32, k69_33, k69_36, k69_39, k69_40, k69_43, k69_44, k69_46, k69_49, k69_52, k69_53, k69_56, k69_57, k69_58, k69_59, k69_60, k69_63, k69_64, k69_65, k69_66, k69_67, k69_70, k69_73, k69_76, k69_77, k69_78, k69_79, k69_80, k69_83, k69_86, k69_87, k69_90, k69_91, k69_94, a.1.1]
  refine M_nx (d := d + 3) a (fun h1 e1 s1 => ?_)
  simp only [am_ok_l, am_push_n]
  refine am_go 100 ?_
  simp only [vq_s, vq_0, vq_h, am_clr_eq, vq_1, vq_2, vq_3, vq_4, vq_5, vq_6, vq_7, vq_8, vq_9, vq_10, vq_11, vq_12, vq_13, vq_14, vq_15, vq_16, vq_17, vq_20, vq_21, vq_22, vq_23, vq_24, vq_25, vq_26, vq_27, vq_28, vq_29, vq_30, vq_31, vq_32, vq_33, vq_34, vq_35, vq_36, vq_37, vq_38, vq_39, vq_40, vq_41, vq_42, vq_43, vq_44, vq_45, vq_50, vq_51, vq_52, vq_53, vq_54, vq_55, vq_56, vq_57, vq_58, vq_59, vq_60, vq_61, vq_62, vq_63, vq_64, vq_70, vq_71, vq_72, vq_73, vq_74, vq_75, vq_76, vq_77, vq_78, vq_79, vq_80, vq_81, vq_85, vq_86, vq_87, vq_88, vq_89, vq_90, vq_91, vq_92, vq_93, vq_95, vq_96, vq_100, vq_101, vq_110, vq_111, vq_112, vq_113, vq_114, vq_200, vq_s1, vq_s2, vq_t1, vq_t2, vq_st, vq_r1, vq_sr, vq_ssr, vq_tsr, vq_v1, vq_v2, vq_e, vq_nln, vq_nli, vq_nlr, vq_nlf, vq_nlu, vq_isAr, vq_isAf, vq_isAu, vq_di, vq_dr, vq_df, vq_du, vq_dl, vq_sf, vq_f1, ie_m2_m1, ie_m2_0, ie_m2_1, ie_m2_2, ie_m2_3, ie_m2_4, ie_m2_8, ie_m2_20, ie_m1_m2, ie_m1_0, ie_m1_1, ie_m1_2, ie_m1_3, ie_m1_4, ie_m1_8, ie_m1_20, ie_0_m2, ie_0_m1, ie_0_1, ie_0_2, ie_0_3, ie_0_4, ie_0_8, ie_0_20, ie_1_m2, ie_1_m1, ie_1_0, ie_1_2, ie_1_3, ie_1_4, ie_1_8, ie_1_20, ie_2_m2, ie_2_m1, ie_2_0, ie_2_1, ie_2_3, ie_2_4, ie_2_8, ie_2_20, ie_3_m2, ie_3_m1, ie_3_0, ie_3_1, ie_3_2, ie_3_4, ie_3_8, ie_3_20, ie_4_m2, ie_4_m1, ie_4_0, ie_4_1, ie_4_2, ie_4_3, ie_4_8, ie_4_20, ie_8_m2, ie_8_m1, ie_8_0, ie_8_1, ie_8_2, ie_8_3, ie_8_4, ie_8_20, ie_20_m2, ie_20_m1, ie_20_0, ie_20_1, ie_20_2, ie_20_3, ie_20_4, ie_20_8, am_ne1, am_ne2, am_I_wI, am_L_wL, am_P_wP, Nat.reduceEqDiff, false_and, if_false, if_true, vq_rr, vq_rn, vq_li, vq_ll, vq_lar, vq_laf, vq_lan, vq_arr, vq_d0, vq_p0, vq_ps, am_get_0, am_get_s, am_set_0, am_set_s, am_rf_none, am_rf_some, am_S_wI, am_S_wL, am_S_wP, am_L_wI, am_P_wI, am_I_wL, am_P_wL, am_I_wP, am_L_wP, am_N_wI, am_N_wL, am_N_wP, am_ok_l, am_push_n, am_push_s, am_ent_nil, am_ent_i, am_ent_r, am_ent_f, am_ent_n, am_ent_l, not_true_eq_false, not_false_eq_true, false_implies, true_implies, implies_true, Int32.reduceAdd, Int32.reduceLT, Int32.reduceLE, true_or, or_true, eq_self, List.replicate_succ, List.replicate_zero, Nat.reduceSub, Nat.reduceAdd, Nat.reduceLeDiff, Nat.add_one_sub_one, Nat.add_sub_cancel, true_and, and_true, Nat.le_add_left, Nat.zero_sub, Nat.sub_zero, Nat.sub_self, Nat.add_zero, Nat.zero_add, l69, k69_0, k69_1, k69_4, k69_5, k69_6, k69_8, k69_11, k69_14, k69_15, k69_16, k69_17, k69_20, k69_21, k69_22, k69_25, k69_26, k69_27, k69_30, k69_31, k69_32, k69_33, k69_36, k69_39, k69_40, k69_43, k69_44, k69_46, k69_49, k69_52, k69_53, k69_56, k69_57, k69_58, k69_59, k69_60, k69_63, k69_64, k69_65, k69_66, k69_67, k69_70, k69_73, k69_76, k69_77, k69_78, k69_79, k69_80, k69_83, k69_86, k69_87, k69_90, k69_91, k69_94, s1.1.1]
  refine M_num (d := d + 3) (lo := 4) (hi := 20) rfl rfl (by omega) (by omega) s1 (fun h2 q e2 s2 hp g7 g8 => ?_) (fun h2 v e2 s2 hp v1 v2 g6 g7 g8 => ?_)
  · simp only [am_ok_l, am_push_s]
    refine am_go 100 ?_
    simp only [vq_s, vq_0, vq_h, am_clr_eq, vq_1, vq_2, vq_3, vq_4, vq_5, vq_6, vq_7, vq_8, vq_9, vq_10, vq_11, vq_12, vq_13, vq_14, vq_15, vq_16, vq_17, vq_20, vq_21, vq_22, vq_23, vq_24, vq_25, vq_26, vq_27, vq_28, vq_29, vq_30, vq_31, vq_32, vq_33, vq_34, vq_35, vq_36, vq_37, vq_38, vq_39, vq_40, vq_41, vq_42, vq_43, vq_44, vq_45, vq_50, vq_51, vq_52, vq_53, vq_54, vq_55, vq_56, vq_57, vq_58, vq_59, vq_60, vq_61, vq_62, vq_63, vq_64, vq_70, vq_71, vq_72, vq_73, vq_74, vq_75, vq_76, vq_77, vq_78, vq_79, vq_80, vq_81, vq_85, vq_86, vq_87, vq_88, vq_89, vq_90, vq_91, vq_92, vq_93, vq_95, vq_96, vq_100, vq_101, vq_110, vq_111, vq_112, vq_113, vq_114, vq_200, vq_s1, vq_s2, vq_t1, vq_t2, vq_st, vq_r1, vq_sr, vq_ssr, vq_tsr, vq_v1, vq_v2, vq_e, vq_nln, vq_nli, vq_nlr, vq_nlf, vq_nlu, vq_isAr, vq_isAf, vq_isAu, vq_di, vq_dr, vq_df, vq_du, vq_dl, vq_sf, vq_f1, ie_m2_m1, ie_m2_0, ie_m2_1, ie_m2_2, ie_m2_3, ie_m2_4, ie_m2_8, ie_m2_20, ie_m1_m2, ie_m1_0, ie_m1_1, ie_m1_2, ie_m1_3, ie_m1_4, ie_m1_8, ie_m1_20, ie_0_m2, ie_0_m1, ie_0_1, ie_0_2, ie_0_3, ie_0_4, ie_0_8, ie_0_20, ie_1_m2, ie_1_m1, ie_1_0, ie_1_2, ie_1_3, ie_1_4, ie_1_8, ie_1_20, ie_2_m2, ie_2_m1, ie_2_0, ie_2_1, ie_2_3, ie_2_4, ie_2_8, ie_2_20, ie_3_m2, ie_3_m1, ie_3_0, ie_3_1, ie_3_2, ie_3_4, ie_3_8, ie_3_20, ie_4_m2, ie_4_m1, ie_4_0, ie_4_1, ie_4_2, ie_4_3, ie_4_8, ie_4_20, ie_8_m2, ie_8_m1, ie_8_0, ie_8_1, ie_8_2, ie_8_3, ie_8_4, ie_8_20, ie_20_m2, ie_20_m1, ie_20_0, ie_20_1, ie_20_2, ie_20_3, ie_20_4, ie_20_8, am_ne1, am_ne2, am_I_wI, am_L_wL, am_P_wP, Nat.reduceEqDiff, false_and, if_false, if_true, vq_rr, vq_rn, vq_li, vq_ll, vq_lar, vq_laf, vq_lan, vq_arr, vq_d0, vq_p0, vq_ps, am_get_0, am_get_s, am_set_0, am_set_s, am_rf_none, am_rf_some, am_S_wI, am_S_wL, am_S_wP, am_L_wI, am_P_wI, am_I_wL, am_P_wL, am_I_wP, am_L_wP, am_N_wI, am_N_wL, am_N_wP, am_ok_l, am_push_n, am_push_s, am_ent_nil, am_ent_i, am_ent_r, am_ent_f, am_ent_n, am_ent_l, not_true_eq_false, not_false_eq_true, false_implies, true_implies, implies_true, Int32.reduceAdd, Int32.reduceLT, Int32.reduceLE, true_or, or_true, eq_self, List.replicate_succ, List.replicate_zero, Nat.reduceSub, Nat.reduceAdd, Nat.reduceLeDiff, Nat.add_one_sub_one, Nat.add_sub_cancel, true_and, and_true, Nat.le_add_left, Nat.zero_sub, Nat.sub_zero, Nat.sub_self, Nat.add_zero, Nat.zero_add, l69, k69_0, k69_1, k69_4, k69_5, k69_6, k69_8, k69_11, k69_14, k69_15, k69_16, k69_17, k69_20, k69_21, k69_22, k69_25, k69_26, k69_27, k69_30, k69_31, k69_32, k69_33, k69_36, k69_39, k69_40, k69_43, k69_44, k69_46, k69_49, k69_52, k69_53, k69_56, k69_57, k69_58, k69_59, k69_60, k69_63, k69_64, k69_65, k69_66, k69_67, k69_70, k69_73, k69_76, k69_77, k69_78, k69_79, k69_80, k69_83, k69_86, k69_87, k69_90, k69_91, k69_94]
    rw [hp] at hK
    exact hK h2 0 ((tl_f.tp e1 S_tok_any).t e2 S_num_any) ⟨rfl, g7, g8⟩
  rw [hp, Pr.bd_r] at hK
  simp only [am_ok_l, am_push_s]
  have f2 : tl_f h h2 T (X_m m) := (tl_f.tp e1 S_tok_any).t e2 S_num_any
  have hm2 : is_Mine h2 m := hm.fr f2.1
  have r2 : rec_in h2 m R := (hR.t e1 hTm).t e2 hTm
  refine am_go 100 ?_
  simp only [vq_s, vq_0, vq_h, am_clr_eq, vq_1, vq_2, vq_3, vq_4, vq_5, vq_6, vq_7, vq_8, vq_9, vq_10, vq_11, vq_12, vq_13, vq_14, vq_15, vq_16, vq_17, vq_20, vq_21, vq_22, vq_23, vq_24, vq_25, vq_26, vq_27, vq_28, vq_29, vq_30, vq_31, vq_32, vq_33, vq_34, vq_35, vq_36, vq_37, vq_38, vq_39, vq_40, vq_41, vq_42, vq_43, vq_44, vq_45, vq_50, vq_51, vq_52, vq_53, vq_54, vq_55, vq_56, vq_57, vq_58, vq_59, vq_60, vq_61, vq_62, vq_63, vq_64, vq_70, vq_71, vq_72, vq_73, vq_74, vq_75, vq_76, vq_77, vq_78, vq_79, vq_80, vq_81, vq_85, vq_86, vq_87, vq_88, vq_89, vq_90, vq_91, vq_92, vq_93, vq_95, vq_96, vq_100, vq_101, vq_110, vq_111, vq_112, vq_113, vq_114, vq_200, vq_s1, vq_s2, vq_t1, vq_t2, vq_st, vq_r1, vq_sr, vq_ssr, vq_tsr, vq_v1, vq_v2, vq_e, vq_nln, vq_nli, vq_nlr, vq_nlf, vq_nlu, vq_isAr, vq_isAf, vq_isAu, vq_di, vq_dr, vq_df, vq_du, vq_dl, vq_sf, vq_f1, ie_m2_m1, ie_m2_0, ie_m2_1, ie_m2_2, ie_m2_3, ie_m2_4, ie_m2_8, ie_m2_20, ie_m1_m2, ie_m1_0, ie_m1_1, ie_m1_2, ie_m1_3, ie_m1_4, ie_m1_8, ie_m1_20, ie_0_m2, ie_0_m1, ie_0_1, ie_0_2, ie_0_3, ie_0_4, ie_0_8, ie_0_20, ie_1_m2, ie_1_m1, ie_1_0, ie_1_2, ie_1_3, ie_1_4, ie_1_8, ie_1_20, ie_2_m2, ie_2_m1, ie_2_0, ie_2_1, ie_2_3, ie_2_4, ie_2_8, ie_2_20, ie_3_m2, ie_3_m1, ie_3_0, ie_3_1, ie_3_2, ie_3_4, ie_3_8, ie_3_20, ie_4_m2, ie_4_m1, ie_4_0, ie_4_1, ie_4_2, ie_4_3, ie_4_8, ie_4_20, ie_8_m2, ie_8_m1, ie_8_0, ie_8_1, ie_8_2, ie_8_3, ie_8_4, ie_8_20, ie_20_m2, ie_20_m1, ie_20_0, ie_20_1, ie_20_2, ie_20_3, ie_20_4, ie_20_8, am_ne1, am_ne2, am_I_wI, am_L_wL, am_P_wP, Nat.reduceEqDiff, false_and, if_false, if_true, vq_rr, vq_rn, vq_li, vq_ll, vq_lar, vq_laf, vq_lan, vq_arr, vq_d0, vq_p0, vq_ps, am_get_0, am_get_s, am_set_0, am_set_s, am_rf_none, am_rf_some, am_S_wI, am_S_wL, am_S_wP, am_L_wI, am_P_wI, am_I_wL, am_P_wL, am_I_wP, am_L_wP, am_N_wI, am_N_wL, am_N_wP, am_ok_l, am_push_n, am_push_s, am_ent_nil, am_ent_i, am_ent_r, am_ent_f, am_ent_n, am_ent_l, not_true_eq_false, not_false_eq_true, false_implies, true_implies, implies_true, Int32.reduceAdd, Int32.reduceLT, Int32.reduceLE, true_or, or_true, eq_self, List.replicate_succ, List.replicate_zero, Nat.reduceSub, Nat.reduceAdd, Nat.reduceLeDiff, Nat.add_one_sub_one, Nat.add_sub_cancel, true_and, and_true, Nat.le_add_left, Nat.zero_sub, Nat.sub_zero, Nat.sub_self, Nat.add_zero, Nat.zero_add, l69, k69_0, k69_1, k69_4, k69_5, k69_6, k69_8, k69_11, k69_14, k69_15, k69_16, k69_17, k69_20, k69_21, k69_22, k69_25, k69_26, k69_27, k69_30, k69_31, k69_32, k69_33, k69_36, k69_39, k69_40, k69_43, k69_44, k69_46, k69_49, k69_52, k69_53, k69_56, k69_57, k69_58, k69_59, k69_60, k69_63, k69_64, k69_65, k69_66, k69_67, k69_70, k69_73, k69_76, k69_77, k69_78, k69_79, k69_80, k69_83, k69_86, k69_87, k69_90, k69_91, k69_94, s2.1.1, g6, sl_rem v v2, hm2.1]
  trace_state
  sorry
end
