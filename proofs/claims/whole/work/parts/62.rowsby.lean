/-! Fitter.rowsFrom, rowsByTurns -/
section
variable {l : Am_L} {d : Nat} {h : Am_H} {m c n T L : Nat} {K : Am_R → Am_H → Prop}
theorem fw_c {h : Am_H} {m n : Nat} {told : Nat → Int32} {e : Nat} (hn : n ≤ 3) : ∀ (j s : Nat) (f g f' g' : Nat → Int32) (x : Int32), e3 f f' → e3 g g' → (match fw h m n told e j s f g x, fw h m n told e j s f' g' x with
  | .inl a, .inl b => a = b
  | .inr (a, p), .inr (b, q) => a = b ∧ d3 p q
  | _, _ => False) := by
  intro j
  induction j with
  | zero => intro s f g f' g' x _ _; rw [fw, fw]
  | succ j ih =>
    intro s f g f' g' x ef eg
    have dp := mv_pass_c (h := h) (m := m) (x := x) ef eg hn
    rw [fw, fw, mv_harm_c ef hn, mv_arr_c ef hn, dp.2.2]
    by_cases z : s ≤ e ∧ s < 201
    · rw [if_pos z, if_pos z]
      by_cases y : mv_harm h m n f' = 0 ∧ mv_arr h m n f' = told s
      · rw [if_pos y, if_pos y]
        by_cases w : (mv_pass h m n f' g' x).2.2.2 = 0
        · rw [if_pos w, if_pos w]
          exact ih (s + 1) _ _ _ _ _ dp.1 dp.2.1
        · rw [if_neg w, if_neg w]
          exact ⟨rfl, dp⟩
      · rw [if_neg y, if_neg y]
    · rw [if_neg z, if_neg z]
theorem fw_s {h : Am_H} {m n : Nat} {told : Nat → Int32} {e : Nat} (j s : Nat) (f g : Nat → Int32) (x : Int32) : fw h m n told e (j + 1) s f g x = (if s ≤ e ∧ s < 201 then (if mv_harm h m n f = 0 ∧ mv_arr h m n f = told s then (if (mv_pass h m n f g x).2.2.2 = 0 then fw h m n told e j (s + 1) (mv_pass h m n f g x).1 (mv_pass h m n f g x).2.1 (mv_pass h m n f g x).2.2.1 else .inr (s, mv_pass h m n f g x)) else .inl 0) else .inl 1) := by rw [fw]
theorem fw_fu {h : Am_H} {m n : Nat} {told : Nat → Int32} {e : Nat} : ∀ (j s : Nat) (f g : Nat → Int32) (x : Int32), 202 ≤ s + j → fw h m n told e (j + 1) s f g x = fw h m n told e j s f g x := by
  intro j
  induction j with
  | zero => intro s f g x hs; rw [fw_s 0, if_neg (by omega)]; rfl
  | succ j ih =>
    intro s f g x hs
    rw [fw_s (j + 1), ih (s + 1) _ _ _ (by omega)]
    exact (fw_s j s f g x).symm
theorem fw_fi {h : Am_H} {m n : Nat} {told : Nat → Int32} {e : Nat} (i j s : Nat) (f g : Nat → Int32) (x : Int32) (hs : 202 ≤ s + j) : fw h m n told e (j + i) s f g x = fw h m n told e j s f g x := by
  induction i with
  | zero => rfl
  | succ i ih => rw [← Nat.add_assoc, fw_fu _ _ _ _ _ (by omega), ih]
theorem M_rowsFrom {k key s0 de t e : Nat} (hk : H_bt l k) (hT : is_Fitter h T) (hm : is_Good h m n L) (hmT : m + 6 < T) (hkey : gk key) (hs0 : s0 ≤ 200) (he : am_I h T 2 = nI e) (he2 : e ≤ 200) (ht : am_I h T 3 = nI t) (ht2 : t ≤ 20001) (hde : k + de = 41) (hK : ∀ h' x, q_fit h h' T t (FT h m n (am_I h (T + 6)) e k key s0) x → K (.inl (some (.int x))) h') : am_M l (d + 2 * k + 6) 0 0 29 [.ref T, .ref m, .long (lN key), .int (nI s0), .int (nI de)] h K := by
  refine am_enter (mi := 29) (am_ckP_all 29 (by decide)) (Nat.le_of_ble_eq_true rfl) (by decide) ?_
  refine am_go 100 ?_
  simp only [vq_s, vq_0, vq_h, am_clr_eq, vq_1, vq_2, vq_3, vq_4, vq_5, vq_6, vq_7, vq_8, vq_9, vq_10, vq_11, vq_12, vq_13, vq_14, vq_15, vq_16, vq_17, vq_20, vq_21, vq_22, vq_23, vq_24, vq_25, vq_26, vq_27, vq_28, vq_29, vq_30, vq_31, vq_32, vq_33, vq_34, vq_35, vq_36, vq_37, vq_38, vq_39, vq_40, vq_41, vq_42, vq_43, vq_44, vq_45, vq_50, vq_51, vq_52, vq_53, vq_54, vq_55, vq_56, vq_57, vq_58, vq_59, vq_60, vq_61, vq_62, vq_63, vq_64, vq_70, vq_71, vq_72, vq_73, vq_74, vq_75, vq_76, vq_77, vq_78, vq_79, vq_80, vq_81, vq_85, vq_86, vq_87, vq_88, vq_89, vq_90, vq_91, vq_92, vq_93, vq_95, vq_96, vq_100, vq_101, vq_110, vq_111, vq_112, vq_113, vq_114, vq_200, vq_s1, vq_s2, vq_t1, vq_t2, vq_st, vq_r1, vq_sr, vq_ssr, vq_tsr, vq_v1, vq_v2, vq_e, vq_nln, vq_nli, vq_nlr, vq_nlf, vq_nlu, vq_isAr, vq_isAf, vq_isAu, vq_di, vq_dr, vq_df, vq_du, vq_dl, vq_sf, vq_f1, ie_m2_m1, ie_m2_0, ie_m2_1, ie_m2_2, ie_m2_3, ie_m2_4, ie_m2_8, ie_m2_20, ie_m1_m2, ie_m1_0, ie_m1_1, ie_m1_2, ie_m1_3, ie_m1_4, ie_m1_8, ie_m1_20, ie_0_m2, ie_0_m1, ie_0_1, ie_0_2, ie_0_3, ie_0_4, ie_0_8, ie_0_20, ie_1_m2, ie_1_m1, ie_1_0, ie_1_2, ie_1_3, ie_1_4, ie_1_8, ie_1_20, ie_2_m2, ie_2_m1, ie_2_0, ie_2_1, ie_2_3, ie_2_4, ie_2_8, ie_2_20, ie_3_m2, ie_3_m1, ie_3_0, ie_3_1, ie_3_2, ie_3_4, ie_3_8, ie_3_20, ie_4_m2, ie_4_m1, ie_4_0, ie_4_1, ie_4_2, ie_4_3, ie_4_8, ie_4_20, ie_8_m2, ie_8_m1, ie_8_0, ie_8_1, ie_8_2, ie_8_3, ie_8_4, ie_8_20, ie_20_m2, ie_20_m1, ie_20_0, ie_20_1, ie_20_2, ie_20_3, ie_20_4, ie_20_8, am_ne1, am_ne2, am_I_wI, am_L_wL, am_P_wP, Nat.reduceEqDiff, false_and, if_false, if_true, vq_rr, vq_rn, vq_li, vq_ll, vq_lar, vq_laf, vq_lan, vq_arr, vq_d0, vq_p0, vq_ps, am_get_0, am_get_s, am_set_0, am_set_s, am_rf_none, am_rf_some, am_S_wI, am_S_wL, am_S_wP, am_L_wI, am_P_wI, am_I_wL, am_P_wL, am_I_wP, am_L_wP, am_N_wI, am_N_wL, am_N_wP, am_ok_l, am_push_n, am_push_s, am_ent_nil, am_ent_i, am_ent_r, am_ent_f, am_ent_n, am_ent_l, not_true_eq_false, not_false_eq_true, false_implies, true_implies, implies_true, Int32.reduceAdd, Int32.reduceLT, Int32.reduceLE, true_or, or_true, eq_self, List.replicate_succ, List.replicate_zero, Nat.reduceSub, Nat.reduceAdd, Nat.reduceLeDiff, Nat.add_one_sub_one, Nat.add_sub_cancel, true_and, and_true, Nat.le_add_left, Nat.zero_sub, Nat.sub_zero, Nat.sub_self, Nat.add_zero, Nat.zero_add, l29, k29_0, k29_1, k29_4, k29_5, k29_8, k29_10, k29_11, k29_12, k29_14, k29_16, k29_17, k29_20, k29_23, k29_25, k29_26, k29_29, k29_30, k29_33, k29_34, k29_37, k29_38, k29_41, k29_44, k29_45, k29_48, k29_51, k29_52, k29_55, k29_57, k29_58, k29_61, k29_62, k29_63, k29_64, k29_67, k29_70, k29_73, k29_74, k29_75, k29_76, k29_79, k29_82, k29_84, k29_85, k29_88, k29_91, k29_93, k29_96, k29_97, k29_100, k29_103, k29_104, hT.1, hT.2.1.1, hT.2.2.2.1]
  refine M_take hkey.1 hT.2.2.2 fun h2 e2 q1 _ q3 => ?_
  simp only [Nat.add_assoc, Nat.reduceAdd] at e2 q1 q3
  simp only [am_ok_l, am_push_n]
  refine am_go 100 ?_
  simp only [vq_s, vq_0, vq_h, am_clr_eq, vq_1, vq_2, vq_3, vq_4, vq_5, vq_6, vq_7, vq_8, vq_9, vq_10, vq_11, vq_12, vq_13, vq_14, vq_15, vq_16, vq_17, vq_20, vq_21, vq_22, vq_23, vq_24, vq_25, vq_26, vq_27, vq_28, vq_29, vq_30, vq_31, vq_32, vq_33, vq_34, vq_35, vq_36, vq_37, vq_38, vq_39, vq_40, vq_41, vq_42, vq_43, vq_44, vq_45, vq_50, vq_51, vq_52, vq_53, vq_54, vq_55, vq_56, vq_57, vq_58, vq_59, vq_60, vq_61, vq_62, vq_63, vq_64, vq_70, vq_71, vq_72, vq_73, vq_74, vq_75, vq_76, vq_77, vq_78, vq_79, vq_80, vq_81, vq_85, vq_86, vq_87, vq_88, vq_89, vq_90, vq_91, vq_92, vq_93, vq_95, vq_96, vq_100, vq_101, vq_110, vq_111, vq_112, vq_113, vq_114, vq_200, vq_s1, vq_s2, vq_t1, vq_t2, vq_st, vq_r1, vq_sr, vq_ssr, vq_tsr, vq_v1, vq_v2, vq_e, vq_nln, vq_nli, vq_nlr, vq_nlf, vq_nlu, vq_isAr, vq_isAf, vq_isAu, vq_di, vq_dr, vq_df, vq_du, vq_dl, vq_sf, vq_f1, ie_m2_m1, ie_m2_0, ie_m2_1, ie_m2_2, ie_m2_3, ie_m2_4, ie_m2_8, ie_m2_20, ie_m1_m2, ie_m1_0, ie_m1_1, ie_m1_2, ie_m1_3, ie_m1_4, ie_m1_8, ie_m1_20, ie_0_m2, ie_0_m1, ie_0_1, ie_0_2, ie_0_3, ie_0_4, ie_0_8, ie_0_20, ie_1_m2, ie_1_m1, ie_1_0, ie_1_2, ie_1_3, ie_1_4, ie_1_8, ie_1_20, ie_2_m2, ie_2_m1, ie_2_0, ie_2_1, ie_2_3, ie_2_4, ie_2_8, ie_2_20, ie_3_m2, ie_3_m1, ie_3_0, ie_3_1, ie_3_2, ie_3_4, ie_3_8, ie_3_20, ie_4_m2, ie_4_m1, ie_4_0, ie_4_1, ie_4_2, ie_4_3, ie_4_8, ie_4_20, ie_8_m2, ie_8_m1, ie_8_0, ie_8_1, ie_8_2, ie_8_3, ie_8_4, ie_8_20, ie_20_m2, ie_20_m1, ie_20_0, ie_20_1, ie_20_2, ie_20_3, ie_20_4, ie_20_8, am_ne1, am_ne2, am_I_wI, am_L_wL, am_P_wP, Nat.reduceEqDiff, false_and, if_false, if_true, vq_rr, vq_rn, vq_li, vq_ll, vq_lar, vq_laf, vq_lan, vq_arr, vq_d0, vq_p0, vq_ps, am_get_0, am_get_s, am_set_0, am_set_s, am_rf_none, am_rf_some, am_S_wI, am_S_wL, am_S_wP, am_L_wI, am_P_wI, am_I_wL, am_P_wL, am_I_wP, am_L_wP, am_N_wI, am_N_wL, am_N_wP, am_ok_l, am_push_n, am_push_s, am_ent_nil, am_ent_i, am_ent_r, am_ent_f, am_ent_n, am_ent_l, not_true_eq_false, not_false_eq_true, false_implies, true_implies, implies_true, Int32.reduceAdd, Int32.reduceLT, Int32.reduceLE, true_or, or_true, eq_self, List.replicate_succ, List.replicate_zero, Nat.reduceSub, Nat.reduceAdd, Nat.reduceLeDiff, Nat.add_one_sub_one, Nat.add_sub_cancel, true_and, and_true, Nat.le_add_left, Nat.zero_sub, Nat.sub_zero, Nat.sub_self, Nat.add_zero, Nat.zero_add, l29, k29_0, k29_1, k29_4, k29_5, k29_8, k29_10, k29_11, k29_12, k29_14, k29_16, k29_17, k29_20, k29_23, k29_25, k29_26, k29_29, k29_30, k29_33, k29_34, k29_37, k29_38, k29_41, k29_44, k29_45, k29_48, k29_51, k29_52, k29_55, k29_57, k29_58, k29_61, k29_62, k29_63, k29_64, k29_67, k29_70, k29_73, k29_74, k29_75, k29_76, k29_79, k29_82, k29_84, k29_85, k29_88, k29_91, k29_93, k29_96, k29_97, k29_100, k29_103, k29_104, nI_1]
  have ea : e3 (am_I h2 (T + 2)) (dk_at key) := fun r hr => (q1 r hr).1
  have el : e3 (am_I h2 (T + 3)) (dk_lf key) := fun r hr => (q1 r hr).2
  have es : am_I h2 (T + 1) 4 = dk_ls key := by rw [q3, if_pos rfl]; rfl
  refine M_rowsFrom_loop (V := FT h m n (am_I h (T + 6)) e k key s0) hk hT hm hmT he he2 ht ht2 hde hK (201 - s0) (s0 + 1) h2 (by omega) (e2.wk (fun q z => by unfold X_cars; omega)) (by rw [es]; exact sp_gd_c ea el hkey.2) ?_
  rw [es, FT]
  have hc := fw_c (h := h) (m := m) (told := am_I h (T + 6)) (e := e) hm.1.2.1 (201 - s0) (s0 + 1) _ _ _ _ (dk_ls key) ea el
  have hf := fw_fi (h := h) (m := m) (n := n) (told := am_I h (T + 6)) (e := e) s0 (201 - s0) (s0 + 1) (dk_at key) (dk_lf key) (dk_ls key) (by omega)
  rw [show 201 - s0 + s0 = 201 by omega] at hf
  rw [hf]
  revert hc
  generalize fw h m n (am_I h (T + 6)) e (201 - s0) (s0 + 1) (am_I h2 (T + 2)) (am_I h2 (T + 3)) (dk_ls key) = a
  generalize fw h m n (am_I h (T + 6)) e (201 - s0) (s0 + 1) (dk_at key) (dk_lf key) (dk_ls key) = b
  rcases a with a | ⟨a, p⟩ <;> rcases b with b | ⟨b, q⟩ <;> intro hc <;> simp only at hc ⊢
  · rw [hc]
  · obtain ⟨rfl, hp1, hp2, hp3⟩ := hc
    rw [hp3, sp_K_c hp1 hp2]
end
