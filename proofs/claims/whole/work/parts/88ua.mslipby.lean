/-! the model's slipBy -/
section
variable {l : Am_L} {d : Nat} {h : Am_H} {M m n x : Nat} {K : Am_R → Am_H → Prop}
/-- of each rope how many slips there are -/
def sl_n (h : Am_H) (m B r : Nat) : Nat := if B.testBit r = true then (am_I h (m + 5) r).toNatClampNeg + 1 else 1
def q_msl (h h' : Am_H) (m x B c k : Nat) : Prop := am_fr h h' (fun q => q = x) ∧ ∀ i, am_I h' x i = if 3 + k ≤ i ∧ i < 6 ∧ B.testBit (i - 3) = true then am_I h (m + 4) (i - 3) + nI (dg (sl_n h m B) c (i - 3)) else am_I h x i
theorem N_slipBy_loop {B c : Nat} (hM : is_Model h M) (hm : mdm h M m n) (hn : n ≤ 3) (hx : am_S h x = (2, 7)) (hxM : M + 9 < x) (hmx : m + 6 < M) (hB : B < 8) (hBn : ∀ r, n ≤ r → B.testBit r = false) (hc : c < 2 ^ 31) (hsl : ∀ r, r < n → ∃ s, am_I h (m + 5) r = nI s ∧ s ≤ 3) (hK : ∀ h', q_msl h h' m x B c 0 → K (.inl none) h') : ∀ (j : Nat) (hk : Am_H), j ≤ n → q_msl h hk m x B c j → am_J l 150 d 0 0 13 [some (.ref M), some (.ref x), some (.int (nI B)), some (.int (nI c)), some (.int (nI (if j = 0 then dg_l (sl_n h m B) c 0 / sl_n h m B 0 else dg_l (sl_n h m B) c (j - 1)))), some (.int (nI j - 1))] [] hk K := by
  intro j
  induction j with
  | zero =>
    intro hk _ q
    refine am_go 100 ?_
    simp only [vq_s, vq_0, vq_h, am_clr_eq, vq_1, vq_2, vq_3, vq_4, vq_5, vq_6, vq_7, vq_8, vq_9, vq_10, vq_11, vq_12, vq_13, vq_14, vq_15, vq_16, vq_17, vq_20, vq_21, vq_22, vq_23, vq_24, vq_25, vq_26, vq_27, vq_28, vq_29, vq_30, vq_31, vq_32, vq_33, vq_34, vq_35, vq_36, vq_37, vq_38, vq_39, vq_40, vq_41, vq_42, vq_43, vq_44, vq_45, vq_50, vq_51, vq_52, vq_53, vq_54, vq_55, vq_56, vq_57, vq_58, vq_59, vq_60, vq_61, vq_62, vq_63, vq_64, vq_70, vq_71, vq_72, vq_73, vq_74, vq_75, vq_76, vq_77, vq_78, vq_79, vq_80, vq_81, vq_85, vq_86, vq_87, vq_88, vq_89, vq_90, vq_91, vq_92, vq_93, vq_95, vq_96, vq_100, vq_101, vq_110, vq_111, vq_112, vq_113, vq_114, vq_200, vq_s1, vq_s2, vq_t1, vq_t2, vq_st, vq_r1, vq_sr, vq_ssr, vq_tsr, vq_v1, vq_v2, vq_e, vq_nln, vq_nli, vq_nlr, vq_nlf, vq_nlu, vq_isAr, vq_isAf, vq_isAu, vq_di, vq_dr, vq_df, vq_du, vq_dl, vq_sf, vq_f1, ie_m2_m1, ie_m2_0, ie_m2_1, ie_m2_2, ie_m2_3, ie_m2_4, ie_m2_8, ie_m2_20, ie_m1_m2, ie_m1_0, ie_m1_1, ie_m1_2, ie_m1_3, ie_m1_4, ie_m1_8, ie_m1_20, ie_0_m2, ie_0_m1, ie_0_1, ie_0_2, ie_0_3, ie_0_4, ie_0_8, ie_0_20, ie_1_m2, ie_1_m1, ie_1_0, ie_1_2, ie_1_3, ie_1_4, ie_1_8, ie_1_20, ie_2_m2, ie_2_m1, ie_2_0, ie_2_1, ie_2_3, ie_2_4, ie_2_8, ie_2_20, ie_3_m2, ie_3_m1, ie_3_0, ie_3_1, ie_3_2, ie_3_4, ie_3_8, ie_3_20, ie_4_m2, ie_4_m1, ie_4_0, ie_4_1, ie_4_2, ie_4_3, ie_4_8, ie_4_20, ie_8_m2, ie_8_m1, ie_8_0, ie_8_1, ie_8_2, ie_8_3, ie_8_4, ie_8_20, ie_20_m2, ie_20_m1, ie_20_0, ie_20_1, ie_20_2, ie_20_3, ie_20_4, ie_20_8, am_ne1, am_ne2, am_I_wI, am_L_wL, am_P_wP, Nat.reduceEqDiff, false_and, if_false, if_true, vq_rr, vq_rn, vq_li, vq_ll, vq_lar, vq_laf, vq_lan, vq_arr, vq_d0, vq_p0, vq_ps, am_get_0, am_get_s, am_set_0, am_set_s, am_rf_none, am_rf_some, am_S_wI, am_S_wL, am_S_wP, am_L_wI, am_P_wI, am_I_wL, am_P_wL, am_I_wP, am_L_wP, am_N_wI, am_N_wL, am_N_wP, am_ok_l, am_push_n, am_push_s, am_ent_nil, am_ent_i, am_ent_r, am_ent_f, am_ent_n, am_ent_l, not_true_eq_false, not_false_eq_true, false_implies, true_implies, implies_true, Int32.reduceAdd, Int32.reduceLT, Int32.reduceLE, true_or, or_true, eq_self, List.replicate_succ, List.replicate_zero, Nat.reduceSub, Nat.reduceAdd, Nat.reduceLeDiff, Nat.add_one_sub_one, Nat.add_sub_cancel, true_and, and_true, Nat.le_add_left, Nat.zero_sub, Nat.sub_zero, Nat.sub_self, Nat.add_zero, Nat.zero_add, l150, k150_0, k150_1, k150_3, k150_4, k150_7, k150_8, k150_9, k150_10, k150_11, k150_13, k150_15, k150_18, k150_19, k150_21, k150_22, k150_23, k150_24, k150_27, k150_30, k150_31, k150_32, k150_34, k150_35, k150_36, k150_39, k150_41, k150_42, k150_44, k150_45, k150_48, k150_50, k150_51, k150_52, k150_53, k150_54, k150_55, k150_56, k150_58, k150_59, k150_62, k150_64, k150_65, k150_66, k150_67, k150_68, k150_70, k150_73, k150_76]
    exact ⟨fun _ => hK _ q, fun z => absurd (by decide) z⟩
  | succ p ih =>
    intro hk hj q
    have hM2 := hM.fr q.1
    have hm2 := hm.fr q.1 (fun i _ _ => by omega) (fun i _ => by omega)
    have hx2 : am_S hk x = (2, 7) := by rw [q.1.1]; exact hx
    have hv6 : vp_in (nI p) 6 := vp_in_nI (by omega) (by omega)
    have hv7 : vp_in (nI (3 + p)) 7 := vp_in_nI (by omega) (by omega)
    obtain ⟨s, es, hs⟩ := hsl p (by omega)
    have eg : am_I hk (M + 7) p = am_I h (m + 4) p := by rw [q.1.f (by omega)]; exact (hm.2 p (by omega)).2.2.2.1
    have esl : am_I hk (M + 8) p = nI s := by rw [q.1.f (by omega), (hm.2 p (by omega)).2.2.2.2.1]; exact es
    have hne7 : (M + 7 = x) = False := eq_false (by omega)
    have hne8 : (M + 8 = x) = False := eq_false (by omega)
    have en : sl_n h m B p = if B.testBit p = true then s + 1 else 1 := by unfold sl_n; rw [es, nI_clamp (by omega)]
    have el : nI (if p + 1 = 0 then dg_l (sl_n h m B) c 0 / sl_n h m B 0 else dg_l (sl_n h m B) c (p + 1 - 1)) = nI (dg_l (sl_n h m B) c p) := by rw [if_neg (by omega), Nat.add_sub_cancel]
    have hdl : dg_l (sl_n h m B) c p < 2 ^ 31 := by
      unfold dg_l
      have a1 := Nat.div_le_self c (sl_n h m B 2)
      have a2 := Nat.div_le_self (c / sl_n h m B 2) (sl_n h m B 1)
      split
      · exact hc
      · split <;> omega
    have nxt : nI (dg_l (sl_n h m B) c p / sl_n h m B p) = nI (if p = 0 then dg_l (sl_n h m B) c 0 / sl_n h m B 0 else dg_l (sl_n h m B) c (p - 1)) := by
      rcases (show p = 0 ∨ p = 1 ∨ p = 2 by omega) with rfl | rfl | rfl
      · rw [if_pos rfl]
      · rw [if_neg (by omega)]
        show nI ((if (1 : Nat) = 2 then _ else if (1 : Nat) = 1 then _ else _) / _) = nI (if (0 : Nat) = 2 then _ else if (0 : Nat) = 1 then _ else _)
        rw [if_neg (by omega), if_pos rfl, if_neg (by omega), if_neg (by omega)]
      · rw [if_neg (by omega)]
        show nI ((if (2 : Nat) = 2 then _ else _) / _) = nI (if (1 : Nat) = 2 then _ else if (1 : Nat) = 1 then _ else _)
        rw [if_pos rfl, if_neg (by omega), if_pos rfl]
    have hr1 : nI (dg_l (sl_n h m B) c p) - nI (dg_l (sl_n h m B) c p) / nI (s + 1) * nI (s + 1) = nI (dg_l (sl_n h m B) c p % (s + 1)) := nI_rem hdl (by omega)
    have hr2 := hr1
    have hd1 : nI (dg_l (sl_n h m B) c p) / nI (s + 1) = nI (dg_l (sl_n h m B) c p / (s + 1)) := nI_div hdl (by omega)
    rw [hd1] at hr2
    have hm1 : nI p + -1 = nI p - 1 := by rw [Int32.sub_eq_add_neg]
    have hs0 : ¬ nI (s + 1) = 0 := nI_ne0 (by omega) (by omega)
    rw [el, nI_pred]
    refine am_go 100 ?_
    simp only [vq_s, vq_0, vq_h, am_clr_eq, vq_1, vq_2, vq_3, vq_4, vq_5, vq_6, vq_7, vq_8, vq_9, vq_10, vq_11, vq_12, vq_13, vq_14, vq_15, vq_16, vq_17, vq_20, vq_21, vq_22, vq_23, vq_24, vq_25, vq_26, vq_27, vq_28, vq_29, vq_30, vq_31, vq_32, vq_33, vq_34, vq_35, vq_36, vq_37, vq_38, vq_39, vq_40, vq_41, vq_42, vq_43, vq_44, vq_45, vq_50, vq_51, vq_52, vq_53, vq_54, vq_55, vq_56, vq_57, vq_58, vq_59, vq_60, vq_61, vq_62, vq_63, vq_64, vq_70, vq_71, vq_72, vq_73, vq_74, vq_75, vq_76, vq_77, vq_78, vq_79, vq_80, vq_81, vq_85, vq_86, vq_87, vq_88, vq_89, vq_90, vq_91, vq_92, vq_93, vq_95, vq_96, vq_100, vq_101, vq_110, vq_111, vq_112, vq_113, vq_114, vq_200, vq_s1, vq_s2, vq_t1, vq_t2, vq_st, vq_r1, vq_sr, vq_ssr, vq_tsr, vq_v1, vq_v2, vq_e, vq_nln, vq_nli, vq_nlr, vq_nlf, vq_nlu, vq_isAr, vq_isAf, vq_isAu, vq_di, vq_dr, vq_df, vq_du, vq_dl, vq_sf, vq_f1, ie_m2_m1, ie_m2_0, ie_m2_1, ie_m2_2, ie_m2_3, ie_m2_4, ie_m2_8, ie_m2_20, ie_m1_m2, ie_m1_0, ie_m1_1, ie_m1_2, ie_m1_3, ie_m1_4, ie_m1_8, ie_m1_20, ie_0_m2, ie_0_m1, ie_0_1, ie_0_2, ie_0_3, ie_0_4, ie_0_8, ie_0_20, ie_1_m2, ie_1_m1, ie_1_0, ie_1_2, ie_1_3, ie_1_4, ie_1_8, ie_1_20, ie_2_m2, ie_2_m1, ie_2_0, ie_2_1, ie_2_3, ie_2_4, ie_2_8, ie_2_20, ie_3_m2, ie_3_m1, ie_3_0, ie_3_1, ie_3_2, ie_3_4, ie_3_8, ie_3_20, ie_4_m2, ie_4_m1, ie_4_0, ie_4_1, ie_4_2, ie_4_3, ie_4_8, ie_4_20, ie_8_m2, ie_8_m1, ie_8_0, ie_8_1, ie_8_2, ie_8_3, ie_8_4, ie_8_20, ie_20_m2, ie_20_m1, ie_20_0, ie_20_1, ie_20_2, ie_20_3, ie_20_4, ie_20_8, am_ne1, am_ne2, am_I_wI, am_L_wL, am_P_wP, Nat.reduceEqDiff, false_and, if_false, if_true, vq_rr, vq_rn, vq_li, vq_ll, vq_lar, vq_laf, vq_lan, vq_arr, vq_d0, vq_p0, vq_ps, am_get_0, am_get_s, am_set_0, am_set_s, am_rf_none, am_rf_some, am_S_wI, am_S_wL, am_S_wP, am_L_wI, am_P_wI, am_I_wL, am_P_wL, am_I_wP, am_L_wP, am_N_wI, am_N_wL, am_N_wP, am_ok_l, am_push_n, am_push_s, am_ent_nil, am_ent_i, am_ent_r, am_ent_f, am_ent_n, am_ent_l, not_true_eq_false, not_false_eq_true, false_implies, true_implies, implies_true, Int32.reduceAdd, Int32.reduceLT, Int32.reduceLE, true_or, or_true, eq_self, List.replicate_succ, List.replicate_zero, Nat.reduceSub, Nat.reduceAdd, Nat.reduceLeDiff, Nat.add_one_sub_one, Nat.add_sub_cancel, true_and, and_true, Nat.le_add_left, Nat.zero_sub, Nat.sub_zero, Nat.sub_self, Nat.add_zero, Nat.zero_add, l150, k150_0, k150_1, k150_3, k150_4, k150_7, k150_8, k150_9, k150_10, k150_11, k150_13, k150_15, k150_18, k150_19, k150_21, k150_22, k150_23, k150_24, k150_27, k150_30, k150_31, k150_32, k150_34, k150_35, k150_36, k150_39, k150_41, k150_42, k150_44, k150_45, k150_48, k150_50, k150_51, k150_52, k150_53, k150_54, k150_55, k150_56, k150_58, k150_59, k150_62, k150_64, k150_65, k150_66, k150_67, k150_68, k150_70, k150_73, k150_76, hM2.1, mp_glass hM2, ms_glass hM2, mp_slips hM2, ms_slips hM2, hx2, hv6, hv7, nI_3, nI_1, nI_clamp (show p < 2 ^ 31 by omega), nI_clamp (show 3 + p < 2 ^ 31 by omega), eg, esl, hne7, hne8, hr2, hd1, hs0, hm1]
    refine ⟨fun z => absurd z (nI_nn (by omega)), fun _ => ⟨fun z => ?_, fun z => ?_⟩⟩
    · have tb : B.testBit p = true := by
        cases ht : B.testBit p
        · exact absurd ((bt_at B hB p (by omega)).mpr ht) z
        · rfl
      rw [if_pos tb] at en
      rw [en] at nxt
      rw [nxt]
      refine ih _ (by omega) ⟨am_fr.w q.1 rfl, fun i => ?_⟩
      rw [am_I_wI]
      by_cases w : i = 3 + p
      · subst w
        have e3 : 3 + p - 3 = p := by omega
        rw [if_pos ⟨rfl, rfl⟩, if_pos (show 3 + p ≤ 3 + p ∧ 3 + p < 6 ∧ B.testBit (3 + p - 3) = true from ⟨Nat.le_refl _, by omega, by rw [e3]; exact tb⟩), e3, dg, en]
      · rw [if_neg (fun u => w u.2), q.2]
        by_cases u : 3 + (p + 1) ≤ i ∧ i < 6 ∧ B.testBit (i - 3) = true
        · rw [if_pos u, if_pos (show 3 + p ≤ i ∧ i < 6 ∧ B.testBit (i - 3) = true from ⟨by omega, u.2⟩)]
        · rw [if_neg u, if_neg (fun v => u ⟨by omega, v.2⟩)]
    · have tb : B.testBit p = false := (bt_at B hB p (by omega)).mp z
      rw [if_neg (by rw [tb]; decide)] at en
      rw [en, Nat.div_one] at nxt
      rw [nxt]
      refine ih hk (by omega) ⟨q.1, fun i => ?_⟩
      rw [q.2]
      by_cases w : i = 3 + p
      · subst w
        have e3 : 3 + p - 3 = p := by omega
        rw [if_neg (by omega), if_neg (fun v => by rw [e3, tb] at v; exact absurd v.2.2 (by decide))]
      · by_cases u : 3 + (p + 1) ≤ i ∧ i < 6 ∧ B.testBit (i - 3) = true
        · rw [if_pos u, if_pos (show 3 + p ≤ i ∧ i < 6 ∧ B.testBit (i - 3) = true from ⟨by omega, u.2⟩)]
        · rw [if_neg u, if_neg (fun v => u ⟨by omega, v.2⟩)]
theorem N_slipBy {B c : Nat} (hM : is_Model h M) (hm : mdm h M m n) (hn : n ≤ 3) (hx : am_S h x = (2, 7)) (hxM : M + 9 < x) (hmx : m + 6 < M) (hB : B < 8) (hBn : ∀ r, n ≤ r → B.testBit r = false) (hc : c < 2 ^ 31) (hsl : ∀ r, r < n → ∃ s, am_I h (m + 5) r = nI s ∧ s ≤ 3) (hK : ∀ h', q_msl h h' m x B c 0 → K (.inl none) h') : am_M l d 0 0 150 [.ref M, .ref x, .int (nI B), .int (nI c)] h K := by
  refine am_enter (mi := 150) (am_ckP_all 150 (by decide)) (Nat.le_of_ble_eq_true rfl) (by decide) ?_
  refine am_go 100 ?_
  simp only [vq_s, vq_0, vq_h, am_clr_eq, vq_1, vq_2, vq_3, vq_4, vq_5, vq_6, vq_7, vq_8, vq_9, vq_10, vq_11, vq_12, vq_13, vq_14, vq_15, vq_16, vq_17, vq_20, vq_21, vq_22, vq_23, vq_24, vq_25, vq_26, vq_27, vq_28, vq_29, vq_30, vq_31, vq_32, vq_33, vq_34, vq_35, vq_36, vq_37, vq_38, vq_39, vq_40, vq_41, vq_42, vq_43, vq_44, vq_45, vq_50, vq_51, vq_52, vq_53, vq_54, vq_55, vq_56, vq_57, vq_58, vq_59, vq_60, vq_61, vq_62, vq_63, vq_64, vq_70, vq_71, vq_72, vq_73, vq_74, vq_75, vq_76, vq_77, vq_78, vq_79, vq_80, vq_81, vq_85, vq_86, vq_87, vq_88, vq_89, vq_90, vq_91, vq_92, vq_93, vq_95, vq_96, vq_100, vq_101, vq_110, vq_111, vq_112, vq_113, vq_114, vq_200, vq_s1, vq_s2, vq_t1, vq_t2, vq_st, vq_r1, vq_sr, vq_ssr, vq_tsr, vq_v1, vq_v2, vq_e, vq_nln, vq_nli, vq_nlr, vq_nlf, vq_nlu, vq_isAr, vq_isAf, vq_isAu, vq_di, vq_dr, vq_df, vq_du, vq_dl, vq_sf, vq_f1, ie_m2_m1, ie_m2_0, ie_m2_1, ie_m2_2, ie_m2_3, ie_m2_4, ie_m2_8, ie_m2_20, ie_m1_m2, ie_m1_0, ie_m1_1, ie_m1_2, ie_m1_3, ie_m1_4, ie_m1_8, ie_m1_20, ie_0_m2, ie_0_m1, ie_0_1, ie_0_2, ie_0_3, ie_0_4, ie_0_8, ie_0_20, ie_1_m2, ie_1_m1, ie_1_0, ie_1_2, ie_1_3, ie_1_4, ie_1_8, ie_1_20, ie_2_m2, ie_2_m1, ie_2_0, ie_2_1, ie_2_3, ie_2_4, ie_2_8, ie_2_20, ie_3_m2, ie_3_m1, ie_3_0, ie_3_1, ie_3_2, ie_3_4, ie_3_8, ie_3_20, ie_4_m2, ie_4_m1, ie_4_0, ie_4_1, ie_4_2, ie_4_3, ie_4_8, ie_4_20, ie_8_m2, ie_8_m1, ie_8_0, ie_8_1, ie_8_2, ie_8_3, ie_8_4, ie_8_20, ie_20_m2, ie_20_m1, ie_20_0, ie_20_1, ie_20_2, ie_20_3, ie_20_4, ie_20_8, am_ne1, am_ne2, am_I_wI, am_L_wL, am_P_wP, Nat.reduceEqDiff, false_and, if_false, if_true, vq_rr, vq_rn, vq_li, vq_ll, vq_lar, vq_laf, vq_lan, vq_arr, vq_d0, vq_p0, vq_ps, am_get_0, am_get_s, am_set_0, am_set_s, am_rf_none, am_rf_some, am_S_wI, am_S_wL, am_S_wP, am_L_wI, am_P_wI, am_I_wL, am_P_wL, am_I_wP, am_L_wP, am_N_wI, am_N_wL, am_N_wP, am_ok_l, am_push_n, am_push_s, am_ent_nil, am_ent_i, am_ent_r, am_ent_f, am_ent_n, am_ent_l, not_true_eq_false, not_false_eq_true, false_implies, true_implies, implies_true, Int32.reduceAdd, Int32.reduceLT, Int32.reduceLE, true_or, or_true, eq_self, List.replicate_succ, List.replicate_zero, Nat.reduceSub, Nat.reduceAdd, Nat.reduceLeDiff, Nat.add_one_sub_one, Nat.add_sub_cancel, true_and, and_true, Nat.le_add_left, Nat.zero_sub, Nat.sub_zero, Nat.sub_self, Nat.add_zero, Nat.zero_add, l150, k150_0, k150_1, k150_3, k150_4, k150_7, k150_8, k150_9, k150_10, k150_11, k150_13, k150_15, k150_18, k150_19, k150_21, k150_22, k150_23, k150_24, k150_27, k150_30, k150_31, k150_32, k150_34, k150_35, k150_36, k150_39, k150_41, k150_42, k150_44, k150_45, k150_48, k150_50, k150_51, k150_52, k150_53, k150_54, k150_55, k150_56, k150_58, k150_59, k150_62, k150_64, k150_65, k150_66, k150_67, k150_68, k150_70, k150_73, k150_76, hM.1, mp_told hM, ms_told hM, v2_10, cm_2, hm.1.2.2.1]
  have n1 : ∀ r, n ≤ r → sl_n h m B r = 1 := fun r hr => by unfold sl_n; rw [if_neg (by rw [hBn r hr]; decide)]
  have e : nI c = nI (if n = 0 then dg_l (sl_n h m B) c 0 / sl_n h m B 0 else dg_l (sl_n h m B) c (n - 1)) := by
    rcases (show n = 0 ∨ n = 1 ∨ n = 2 ∨ n = 3 by omega) with rfl | rfl | rfl | rfl
    · rw [if_pos rfl]
      show nI c = nI ((if (0 : Nat) = 2 then _ else if (0 : Nat) = 1 then _ else _) / _)
      rw [if_neg (by omega), if_neg (by omega), n1 2 (by omega), n1 1 (by omega), n1 0 (by omega), Nat.div_one, Nat.div_one, Nat.div_one]
    · rw [if_neg (by omega)]
      show nI c = nI (if (0 : Nat) = 2 then _ else if (0 : Nat) = 1 then _ else _)
      rw [if_neg (by omega), if_neg (by omega), n1 2 (by omega), n1 1 (by omega), Nat.div_one, Nat.div_one]
    · rw [if_neg (by omega)]
      show nI c = nI (if (1 : Nat) = 2 then _ else if (1 : Nat) = 1 then _ else _)
      rw [if_neg (by omega), if_pos rfl, n1 2 (by omega), Nat.div_one]
    · rw [if_neg (by omega)]
      show nI c = nI (if (2 : Nat) = 2 then _ else _)
      rw [if_pos rfl]
  have g := N_slipBy_loop (l := l) (d := d) (K := K) hM hm hn hx hxM hmx hB hBn hc hsl hK n h (Nat.le_refl _) ⟨am_fr.rf, fun i => ?_⟩
  · rw [← e] at g
    exact g
  · by_cases w : 3 + n ≤ i ∧ i < 6 ∧ B.testBit (i - 3) = true
    · exact absurd w.2.2 (by rw [hBn (i - 3) (by omega)]; decide)
    · rw [if_neg w]
end
