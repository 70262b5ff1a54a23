/-! Fitter.search -/
theorem fw_told {h : Am_H} {m n : Nat} {f f' : Nat → Int32} {e : Nat} (he : ∀ s, s < 201 → f s = f' s) : ∀ (j s : Nat) (a b : Nat → Int32) (x : Int32), fw h m n f e j s a b x = fw h m n f' e j s a b x := by
  intro j
  induction j with
  | zero => intro s a b x; rfl
  | succ j ih =>
    intro s a b x
    rw [fw_s, fw_s]
    by_cases z : s ≤ e ∧ s < 201
    · rw [if_pos z, if_pos z, he s z.2, ih]
    · rw [if_neg z, if_neg z]
theorem FB_told {h : Am_H} {m n : Nat} {f f' : Nat → Int32} {e : Nat} (he : ∀ s, s < 201 → f s = f' s) : ∀ (k key B s : Nat), FB h m n f e k key B s = FB h m n f' e k key B s := by
  intro k
  induction k with
  | zero => intro key B s; rfl
  | succ k ih =>
    intro key B s
    rw [FB, FB]
    congr 1
    funext slip
    rw [fw_told he]
    simp only [ih]
theorem FT_told {h : Am_H} {m n : Nat} {f f' : Nat → Int32} {e : Nat} (he : ∀ s, s < 201 → f s = f' s) (k key s : Nat) : FT h m n f e k key s = FT h m n f' e k key s := by
  unfold FT
  rw [fw_told he]
  simp only [FB_told he]
theorem FT_eq {h h' : Am_H} {m n : Nat} {told : Nat → Int32} {e : Nat} (e0 : am_I h' m = am_I h m) (e1 : am_I h' (m + 1) = am_I h (m + 1)) (e3 : am_I h' (m + 3) = am_I h (m + 3)) (e4 : am_I h' (m + 4) = am_I h (m + 4)) (e5 : am_I h' (m + 5) = am_I h (m + 5)) (e6 : am_I h' (m + 6) = am_I h (m + 6)) (k key s : Nat) : FT h' m n told e k key s = FT h m n told e k key s := by
  unfold FT
  rw [fw_eq e0 e1 e3 e4 e6]
  simp only [FB_eq e0 e1 e3 e4 e5 e6]
/-- the last told second -/
def d_end (h : Am_H) (D t : Nat) : Int32 := if t = 0 then 0 else am_I h (D + 10) (t - 1)
def X_fs (T : Nat) : Nat → Prop := fun q => T ≤ q ∧ q ≤ T + 6
section
variable {l : Am_L} {d : Nat} {h : Am_H} {m n T D L t e : Nat} {K : Am_R → Am_H → Prop}
theorem M_fsearch (hT : is_Fitter h T) (hm : is_Good h m n L) (hmT : m + 6 < T) (hD : is_Day h D) (hDT : D + 11 < T) (ht : t ≤ 8) (hx : am_I h D 11 = nI t) (hts : ∀ i, i < t → ∃ s, s < 201 ∧ am_I h (D + 10) i = nI s) (he : d_end h D t = nI e) (he2 : e ≤ 200) (hK : ∀ h', am_fr h h' (X_fs T) → K (.inl (some (.int (if 20000 < (FT h m n (fun s => sp_told (am_I h (D + 9)) (am_I h (D + 10)) s t) e 41 (k_first h m n) 0).2 then -2 else nI (FT h m n (fun s => sp_told (am_I h (D + 9)) (am_I h (D + 10)) s t) e 41 (k_first h m n) 0).1)))) h') : am_M l (d + 89) 0 0 28 [.ref T, .ref m, .ref D] h K := by
  have xm : ∀ i, i ≤ 6 → ¬ X_fs T (m + i) := fun i hi => by unfold X_fs; omega
  refine am_enter (mi := 28) (am_ckP_all 28 (by decide)) (Nat.le_of_ble_eq_true rfl) (by decide) ?_
  refine am_go 100 ?_
  simp only [vq_s, vq_0, vq_h, am_clr_eq, vq_1, vq_2, vq_3, vq_4, vq_5, vq_6, vq_7, vq_8, vq_9, vq_10, vq_11, vq_12, vq_13, vq_14, vq_15, vq_16, vq_17, vq_20, vq_21, vq_22, vq_23, vq_24, vq_25, vq_26, vq_27, vq_28, vq_29, vq_30, vq_31, vq_32, vq_33, vq_34, vq_35, vq_36, vq_37, vq_38, vq_39, vq_40, vq_41, vq_42, vq_43, vq_44, vq_45, vq_50, vq_51, vq_52, vq_53, vq_54, vq_55, vq_56, vq_57, vq_58, vq_59, vq_60, vq_61, vq_62, vq_63, vq_64, vq_70, vq_71, vq_72, vq_73, vq_74, vq_75, vq_76, vq_77, vq_78, vq_79, vq_80, vq_81, vq_85, vq_86, vq_87, vq_88, vq_89, vq_90, vq_91, vq_92, vq_93, vq_95, vq_96, vq_100, vq_101, vq_110, vq_111, vq_112, vq_113, vq_114, vq_200, vq_s1, vq_s2, vq_t1, vq_t2, vq_st, vq_r1, vq_sr, vq_ssr, vq_tsr, vq_v1, vq_v2, vq_e, vq_nln, vq_nli, vq_nlr, vq_nlf, vq_nlu, vq_isAr, vq_isAf, vq_isAu, vq_di, vq_dr, vq_df, vq_du, vq_dl, vq_sf, vq_f1, ie_m2_m1, ie_m2_0, ie_m2_1, ie_m2_2, ie_m2_3, ie_m2_4, ie_m2_8, ie_m2_20, ie_m1_m2, ie_m1_0, ie_m1_1, ie_m1_2, ie_m1_3, ie_m1_4, ie_m1_8, ie_m1_20, ie_0_m2, ie_0_m1, ie_0_1, ie_0_2, ie_0_3, ie_0_4, ie_0_8, ie_0_20, ie_1_m2, ie_1_m1, ie_1_0, ie_1_2, ie_1_3, ie_1_4, ie_1_8, ie_1_20, ie_2_m2, ie_2_m1, ie_2_0, ie_2_1, ie_2_3, ie_2_4, ie_2_8, ie_2_20, ie_3_m2, ie_3_m1, ie_3_0, ie_3_1, ie_3_2, ie_3_4, ie_3_8, ie_3_20, ie_4_m2, ie_4_m1, ie_4_0, ie_4_1, ie_4_2, ie_4_3, ie_4_8, ie_4_20, ie_8_m2, ie_8_m1, ie_8_0, ie_8_1, ie_8_2, ie_8_3, ie_8_4, ie_8_20, ie_20_m2, ie_20_m1, ie_20_0, ie_20_1, ie_20_2, ie_20_3, ie_20_4, ie_20_8, am_ne1, am_ne2, am_I_wI, am_L_wL, am_P_wP, Nat.reduceEqDiff, false_and, if_false, if_true, vq_rr, vq_rn, vq_li, vq_ll, vq_lar, vq_laf, vq_lan, vq_arr, vq_d0, vq_p0, vq_ps, am_get_0, am_get_s, am_set_0, am_set_s, am_rf_none, am_rf_some, am_S_wI, am_S_wL, am_S_wP, am_L_wI, am_P_wI, am_I_wL, am_P_wL, am_I_wP, am_L_wP, am_N_wI, am_N_wL, am_N_wP, am_ok_l, am_push_n, am_push_s, am_ent_nil, am_ent_i, am_ent_r, am_ent_f, am_ent_n, am_ent_l, not_true_eq_false, not_false_eq_true, false_implies, true_implies, implies_true, Int32.reduceAdd, Int32.reduceLT, Int32.reduceLE, true_or, or_true, eq_self, List.replicate_succ, List.replicate_zero, Nat.reduceSub, Nat.reduceAdd, Nat.reduceLeDiff, Nat.add_one_sub_one, Nat.add_sub_cancel, true_and, and_true, Nat.le_add_left, Nat.zero_sub, Nat.sub_zero, Nat.sub_self, Nat.add_zero, Nat.zero_add, l28, k28_0, k28_1, k28_2, k28_5, k28_8, k28_9, k28_10, k28_13, k28_16, k28_17, k28_18, k28_21, k28_22, k28_25, k28_26, k28_29, k28_30, k28_31, k28_32, k28_35, k28_38, k28_39, k28_40, k28_43, k28_44, k28_45, k28_48, k28_51, k28_54, k28_56, k28_59, k28_60, hT.1, hT.2.1.1, hT.2.1.2]
  refine ⟨hD.1, ?_⟩
  refine M_tellAll (d := d + 87) hD ht hx hT.2.2.1 (by omega) hts (fun h1 e1 g1 => ?_)
  simp only [am_ok_l, am_push_n]
  have F1 : am_fr h h1 (X_fs T) := e1.wk (fun q z => by unfold X_fs; omega)
  have hD1 := hD.fq (F1.q (fun _ => False))
  refine am_go 100 ?_
  simp only [vq_s, vq_0, vq_h, am_clr_eq, vq_1, vq_2, vq_3, vq_4, vq_5, vq_6, vq_7, vq_8, vq_9, vq_10, vq_11, vq_12, vq_13, vq_14, vq_15, vq_16, vq_17, vq_20, vq_21, vq_22, vq_23, vq_24, vq_25, vq_26, vq_27, vq_28, vq_29, vq_30, vq_31, vq_32, vq_33, vq_34, vq_35, vq_36, vq_37, vq_38, vq_39, vq_40, vq_41, vq_42, vq_43, vq_44, vq_45, vq_50, vq_51, vq_52, vq_53, vq_54, vq_55, vq_56, vq_57, vq_58, vq_59, vq_60, vq_61, vq_62, vq_63, vq_64, vq_70, vq_71, vq_72, vq_73, vq_74, vq_75, vq_76, vq_77, vq_78, vq_79, vq_80, vq_81, vq_85, vq_86, vq_87, vq_88, vq_89, vq_90, vq_91, vq_92, vq_93, vq_95, vq_96, vq_100, vq_101, vq_110, vq_111, vq_112, vq_113, vq_114, vq_200, vq_s1, vq_s2, vq_t1, vq_t2, vq_st, vq_r1, vq_sr, vq_ssr, vq_tsr, vq_v1, vq_v2, vq_e, vq_nln, vq_nli, vq_nlr, vq_nlf, vq_nlu, vq_isAr, vq_isAf, vq_isAu, vq_di, vq_dr, vq_df, vq_du, vq_dl, vq_sf, vq_f1, ie_m2_m1, ie_m2_0, ie_m2_1, ie_m2_2, ie_m2_3, ie_m2_4, ie_m2_8, ie_m2_20, ie_m1_m2, ie_m1_0, ie_m1_1, ie_m1_2, ie_m1_3, ie_m1_4, ie_m1_8, ie_m1_20, ie_0_m2, ie_0_m1, ie_0_1, ie_0_2, ie_0_3, ie_0_4, ie_0_8, ie_0_20, ie_1_m2, ie_1_m1, ie_1_0, ie_1_2, ie_1_3, ie_1_4, ie_1_8, ie_1_20, ie_2_m2, ie_2_m1, ie_2_0, ie_2_1, ie_2_3, ie_2_4, ie_2_8, ie_2_20, ie_3_m2, ie_3_m1, ie_3_0, ie_3_1, ie_3_2, ie_3_4, ie_3_8, ie_3_20, ie_4_m2, ie_4_m1, ie_4_0, ie_4_1, ie_4_2, ie_4_3, ie_4_8, ie_4_20, ie_8_m2, ie_8_m1, ie_8_0, ie_8_1, ie_8_2, ie_8_3, ie_8_4, ie_8_20, ie_20_m2, ie_20_m1, ie_20_0, ie_20_1, ie_20_2, ie_20_3, ie_20_4, ie_20_8, am_ne1, am_ne2, am_I_wI, am_L_wL, am_P_wP, Nat.reduceEqDiff, false_and, if_false, if_true, vq_rr, vq_rn, vq_li, vq_ll, vq_lar, vq_laf, vq_lan, vq_arr, vq_d0, vq_p0, vq_ps, am_get_0, am_get_s, am_set_0, am_set_s, am_rf_none, am_rf_some, am_S_wI, am_S_wL, am_S_wP, am_L_wI, am_P_wI, am_I_wL, am_P_wL, am_I_wP, am_L_wP, am_N_wI, am_N_wL, am_N_wP, am_ok_l, am_push_n, am_push_s, am_ent_nil, am_ent_i, am_ent_r, am_ent_f, am_ent_n, am_ent_l, not_true_eq_false, not_false_eq_true, false_implies, true_implies, implies_true, Int32.reduceAdd, Int32.reduceLT, Int32.reduceLE, true_or, or_true, eq_self, List.replicate_succ, List.replicate_zero, Nat.reduceSub, Nat.reduceAdd, Nat.reduceLeDiff, Nat.add_one_sub_one, Nat.add_sub_cancel, true_and, and_true, Nat.le_add_left, Nat.zero_sub, Nat.sub_zero, Nat.sub_self, Nat.add_zero, Nat.zero_add, l28, k28_0, k28_1, k28_2, k28_5, k28_8, k28_9, k28_10, k28_13, k28_16, k28_17, k28_18, k28_21, k28_22, k28_25, k28_26, k28_29, k28_30, k28_31, k28_32, k28_35, k28_38, k28_39, k28_40, k28_43, k28_44, k28_45, k28_48, k28_51, k28_54, k28_56, k28_59, k28_60, F1.1, F1.2.1, hT.1]
  refine ⟨hD.1, ?_⟩
  have hx1 : am_I h1 D 11 = nI t := (F1.2.2.2.2 D (by unfold X_fs; omega) 11).trans hx
  refine M_lastTime hD1 ht hx1 ?_
  have he1 : (if t = 0 then 0 else am_I h1 (D + 10) (t - 1)) = nI e := by
    rw [← he, d_end, F1.f (q := D + 10) (by unfold X_fs; omega)]
  rw [he1]
  simp only [am_ok_l, am_push_s]
  refine am_go 100 ?_
  simp only [vq_s, vq_0, vq_h, am_clr_eq, vq_1, vq_2, vq_3, vq_4, vq_5, vq_6, vq_7, vq_8, vq_9, vq_10, vq_11, vq_12, vq_13, vq_14, vq_15, vq_16, vq_17, vq_20, vq_21, vq_22, vq_23, vq_24, vq_25, vq_26, vq_27, vq_28, vq_29, vq_30, vq_31, vq_32, vq_33, vq_34, vq_35, vq_36, vq_37, vq_38, vq_39, vq_40, vq_41, vq_42, vq_43, vq_44, vq_45, vq_50, vq_51, vq_52, vq_53, vq_54, vq_55, vq_56, vq_57, vq_58, vq_59, vq_60, vq_61, vq_62, vq_63, vq_64, vq_70, vq_71, vq_72, vq_73, vq_74, vq_75, vq_76, vq_77, vq_78, vq_79, vq_80, vq_81, vq_85, vq_86, vq_87, vq_88, vq_89, vq_90, vq_91, vq_92, vq_93, vq_95, vq_96, vq_100, vq_101, vq_110, vq_111, vq_112, vq_113, vq_114, vq_200, vq_s1, vq_s2, vq_t1, vq_t2, vq_st, vq_r1, vq_sr, vq_ssr, vq_tsr, vq_v1, vq_v2, vq_e, vq_nln, vq_nli, vq_nlr, vq_nlf, vq_nlu, vq_isAr, vq_isAf, vq_isAu, vq_di, vq_dr, vq_df, vq_du, vq_dl, vq_sf, vq_f1, ie_m2_m1, ie_m2_0, ie_m2_1, ie_m2_2, ie_m2_3, ie_m2_4, ie_m2_8, ie_m2_20, ie_m1_m2, ie_m1_0, ie_m1_1, ie_m1_2, ie_m1_3, ie_m1_4, ie_m1_8, ie_m1_20, ie_0_m2, ie_0_m1, ie_0_1, ie_0_2, ie_0_3, ie_0_4, ie_0_8, ie_0_20, ie_1_m2, ie_1_m1, ie_1_0, ie_1_2, ie_1_3, ie_1_4, ie_1_8, ie_1_20, ie_2_m2, ie_2_m1, ie_2_0, ie_2_1, ie_2_3, ie_2_4, ie_2_8, ie_2_20, ie_3_m2, ie_3_m1, ie_3_0, ie_3_1, ie_3_2, ie_3_4, ie_3_8, ie_3_20, ie_4_m2, ie_4_m1, ie_4_0, ie_4_1, ie_4_2, ie_4_3, ie_4_8, ie_4_20, ie_8_m2, ie_8_m1, ie_8_0, ie_8_1, ie_8_2, ie_8_3, ie_8_4, ie_8_20, ie_20_m2, ie_20_m1, ie_20_0, ie_20_1, ie_20_2, ie_20_3, ie_20_4, ie_20_8, am_ne1, am_ne2, am_I_wI, am_L_wL, am_P_wP, Nat.reduceEqDiff, false_and, if_false, if_true, vq_rr, vq_rn, vq_li, vq_ll, vq_lar, vq_laf, vq_lan, vq_arr, vq_d0, vq_p0, vq_ps, am_get_0, am_get_s, am_set_0, am_set_s, am_rf_none, am_rf_some, am_S_wI, am_S_wL, am_S_wP, am_L_wI, am_P_wI, am_I_wL, am_P_wL, am_I_wP, am_L_wP, am_N_wI, am_N_wL, am_N_wP, am_ok_l, am_push_n, am_push_s, am_ent_nil, am_ent_i, am_ent_r, am_ent_f, am_ent_n, am_ent_l, not_true_eq_false, not_false_eq_true, false_implies, true_implies, implies_true, Int32.reduceAdd, Int32.reduceLT, Int32.reduceLE, true_or, or_true, eq_self, List.replicate_succ, List.replicate_zero, Nat.reduceSub, Nat.reduceAdd, Nat.reduceLeDiff, Nat.add_one_sub_one, Nat.add_sub_cancel, true_and, and_true, Nat.le_add_left, Nat.zero_sub, Nat.sub_zero, Nat.sub_self, Nat.add_zero, Nat.zero_add, l28, k28_0, k28_1, k28_2, k28_5, k28_8, k28_9, k28_10, k28_13, k28_16, k28_17, k28_18, k28_21, k28_22, k28_25, k28_26, k28_29, k28_30, k28_31, k28_32, k28_35, k28_38, k28_39, k28_40, k28_43, k28_44, k28_45, k28_48, k28_51, k28_54, k28_56, k28_59, k28_60, F1.1, F1.2.1, hT.1, hT.2.1.1, hT.2.2.2.1]
  have F2 : am_fr h (am_wI (am_wI h1 T 2 (nI e)) T 3 0) (X_fs T) := (F1.w ⟨Nat.le_refl _, by omega⟩).w ⟨Nat.le_refl _, by omega⟩
  have a2 : am_I (am_wI (am_wI h1 T 2 (nI e)) T 3 0) T 2 = nI e := by rw [am_I_wI, if_neg (by omega), am_I_wI, if_pos ⟨rfl, rfl⟩]
  have a3 : am_I (am_wI (am_wI h1 T 2 (nI e)) T 3 0) T 3 = nI 0 := by rw [am_I_wI, if_pos ⟨rfl, rfl⟩]; rfl
  have a6 : am_I (am_wI (am_wI h1 T 2 (nI e)) T 3 0) (T + 6) = am_I h1 (T + 6) := by
    funext j
    rw [am_I_wI, if_neg (by omega), am_I_wI, if_neg (by omega)]
  generalize am_wI (am_wI h1 T 2 (nI e)) T 3 0 = h2 at *
  have hT2 := hT.fq (F2.q (fun _ => False))
  have hm2 := hm.fq (F2.q (fun _ => False)) xm
  refine M_first hT2.2.2.2 hm2.1 (by omega) fun h3 q g => ?_
  obtain ⟨e3', q1, q2⟩ := q
  simp only [Nat.add_assoc, Nat.reduceAdd] at e3' q1 q2
  have F3 : am_fr h h3 (X_fs T) := F2.tr (e3'.wk (fun q z => by unfold X_fs; omega)) (fun _ z => z)
  have hT3 := hT.fq (F3.q (fun _ => False))
  have hm3 := hm.fq (F3.q (fun _ => False)) xm
  have u4 : am_I h2 (m + 4) = am_I h (m + 4) := F2.f (xm 4 (by omega))
  have b1 : e3 (am_I h3 (T + 2)) (fun _ => -1) := fun r hr => by rw [q1, if_pos hr]
  have b2 : e3 (am_I h3 (T + 3)) (fun r => if r < n then am_I h (m + 4) r else 0) := fun r hr => by rw [q2, if_pos hr, u4]
  have b3 : am_I h3 (T + 1) 4 = -1 := by rw [g, if_pos rfl]
  have gd3 : sp_gd (am_I h3 (T + 2)) (am_I h3 (T + 3)) (am_I h3 (T + 1) 4) := by rw [b3]; exact sp_gd_c b1 b2 (gd_first hm)
  have c2 : am_I h3 T 2 = nI e := (e3'.2.2.2.2 T (by omega) 2).trans a2
  have c3 : am_I h3 T 3 = nI 0 := (e3'.2.2.2.2 T (by omega) 3).trans a3
  have c6 : am_I h3 (T + 6) = am_I h1 (T + 6) := (e3'.f (by omega)).trans a6
  simp only [am_ok_l, am_push_n]
  refine am_go 100 ?_
  simp only [vq_s, vq_0, vq_h, am_clr_eq, vq_1, vq_2, vq_3, vq_4, vq_5, vq_6, vq_7, vq_8, vq_9, vq_10, vq_11, vq_12, vq_13, vq_14, vq_15, vq_16, vq_17, vq_20, vq_21, vq_22, vq_23, vq_24, vq_25, vq_26, vq_27, vq_28, vq_29, vq_30, vq_31, vq_32, vq_33, vq_34, vq_35, vq_36, vq_37, vq_38, vq_39, vq_40, vq_41, vq_42, vq_43, vq_44, vq_45, vq_50, vq_51, vq_52, vq_53, vq_54, vq_55, vq_56, vq_57, vq_58, vq_59, vq_60, vq_61, vq_62, vq_63, vq_64, vq_70, vq_71, vq_72, vq_73, vq_74, vq_75, vq_76, vq_77, vq_78, vq_79, vq_80, vq_81, vq_85, vq_86, vq_87, vq_88, vq_89, vq_90, vq_91, vq_92, vq_93, vq_95, vq_96, vq_100, vq_101, vq_110, vq_111, vq_112, vq_113, vq_114, vq_200, vq_s1, vq_s2, vq_t1, vq_t2, vq_st, vq_r1, vq_sr, vq_ssr, vq_tsr, vq_v1, vq_v2, vq_e, vq_nln, vq_nli, vq_nlr, vq_nlf, vq_nlu, vq_isAr, vq_isAf, vq_isAu, vq_di, vq_dr, vq_df, vq_du, vq_dl, vq_sf, vq_f1, ie_m2_m1, ie_m2_0, ie_m2_1, ie_m2_2, ie_m2_3, ie_m2_4, ie_m2_8, ie_m2_20, ie_m1_m2, ie_m1_0, ie_m1_1, ie_m1_2, ie_m1_3, ie_m1_4, ie_m1_8, ie_m1_20, ie_0_m2, ie_0_m1, ie_0_1, ie_0_2, ie_0_3, ie_0_4, ie_0_8, ie_0_20, ie_1_m2, ie_1_m1, ie_1_0, ie_1_2, ie_1_3, ie_1_4, ie_1_8, ie_1_20, ie_2_m2, ie_2_m1, ie_2_0, ie_2_1, ie_2_3, ie_2_4, ie_2_8, ie_2_20, ie_3_m2, ie_3_m1, ie_3_0, ie_3_1, ie_3_2, ie_3_4, ie_3_8, ie_3_20, ie_4_m2, ie_4_m1, ie_4_0, ie_4_1, ie_4_2, ie_4_3, ie_4_8, ie_4_20, ie_8_m2, ie_8_m1, ie_8_0, ie_8_1, ie_8_2, ie_8_3, ie_8_4, ie_8_20, ie_20_m2, ie_20_m1, ie_20_0, ie_20_1, ie_20_2, ie_20_3, ie_20_4, ie_20_8, am_ne1, am_ne2, am_I_wI, am_L_wL, am_P_wP, Nat.reduceEqDiff, false_and, if_false, if_true, vq_rr, vq_rn, vq_li, vq_ll, vq_lar, vq_laf, vq_lan, vq_arr, vq_d0, vq_p0, vq_ps, am_get_0, am_get_s, am_set_0, am_set_s, am_rf_none, am_rf_some, am_S_wI, am_S_wL, am_S_wP, am_L_wI, am_P_wI, am_I_wL, am_P_wL, am_I_wP, am_L_wP, am_N_wI, am_N_wL, am_N_wP, am_ok_l, am_push_n, am_push_s, am_ent_nil, am_ent_i, am_ent_r, am_ent_f, am_ent_n, am_ent_l, not_true_eq_false, not_false_eq_true, false_implies, true_implies, implies_true, Int32.reduceAdd, Int32.reduceLT, Int32.reduceLE, true_or, or_true, eq_self, List.replicate_succ, List.replicate_zero, Nat.reduceSub, Nat.reduceAdd, Nat.reduceLeDiff, Nat.add_one_sub_one, Nat.add_sub_cancel, true_and, and_true, Nat.le_add_left, Nat.zero_sub, Nat.sub_zero, Nat.sub_self, Nat.add_zero, Nat.zero_add, l28, k28_0, k28_1, k28_2, k28_5, k28_8, k28_9, k28_10, k28_13, k28_16, k28_17, k28_18, k28_21, k28_22, k28_25, k28_26, k28_29, k28_30, k28_31, k28_32, k28_35, k28_38, k28_39, k28_40, k28_43, k28_44, k28_45, k28_48, k28_51, k28_54, k28_56, k28_59, k28_60, hT3.1, hT3.2.1.1, hT3.2.2.2.1]
  refine M_key hT3.2.2.2 (sp_gd_fit gd3) ?_
  rw [show sp_keyN _ _ _ = k_first h m n from by
    show sp_K _ _ _ = _
    rw [b3, sp_K_c b1 b2]
    rfl]
  have hgk : gk (k_first h m n) := (gk_K (gd_first hm)).1
  simp only [am_ok_l, am_push_s]
  refine am_go 100 ?_
  simp only [vq_s, vq_0, vq_h, am_clr_eq, vq_1, vq_2, vq_3, vq_4, vq_5, vq_6, vq_7, vq_8, vq_9, vq_10, vq_11, vq_12, vq_13, vq_14, vq_15, vq_16, vq_17, vq_20, vq_21, vq_22, vq_23, vq_24, vq_25, vq_26, vq_27, vq_28, vq_29, vq_30, vq_31, vq_32, vq_33, vq_34, vq_35, vq_36, vq_37, vq_38, vq_39, vq_40, vq_41, vq_42, vq_43, vq_44, vq_45, vq_50, vq_51, vq_52, vq_53, vq_54, vq_55, vq_56, vq_57, vq_58, vq_59, vq_60, vq_61, vq_62, vq_63, vq_64, vq_70, vq_71, vq_72, vq_73, vq_74, vq_75, vq_76, vq_77, vq_78, vq_79, vq_80, vq_81, vq_85, vq_86, vq_87, vq_88, vq_89, vq_90, vq_91, vq_92, vq_93, vq_95, vq_96, vq_100, vq_101, vq_110, vq_111, vq_112, vq_113, vq_114, vq_200, vq_s1, vq_s2, vq_t1, vq_t2, vq_st, vq_r1, vq_sr, vq_ssr, vq_tsr, vq_v1, vq_v2, vq_e, vq_nln, vq_nli, vq_nlr, vq_nlf, vq_nlu, vq_isAr, vq_isAf, vq_isAu, vq_di, vq_dr, vq_df, vq_du, vq_dl, vq_sf, vq_f1, ie_m2_m1, ie_m2_0, ie_m2_1, ie_m2_2, ie_m2_3, ie_m2_4, ie_m2_8, ie_m2_20, ie_m1_m2, ie_m1_0, ie_m1_1, ie_m1_2, ie_m1_3, ie_m1_4, ie_m1_8, ie_m1_20, ie_0_m2, ie_0_m1, ie_0_1, ie_0_2, ie_0_3, ie_0_4, ie_0_8, ie_0_20, ie_1_m2, ie_1_m1, ie_1_0, ie_1_2, ie_1_3, ie_1_4, ie_1_8, ie_1_20, ie_2_m2, ie_2_m1, ie_2_0, ie_2_1, ie_2_3, ie_2_4, ie_2_8, ie_2_20, ie_3_m2, ie_3_m1, ie_3_0, ie_3_1, ie_3_2, ie_3_4, ie_3_8, ie_3_20, ie_4_m2, ie_4_m1, ie_4_0, ie_4_1, ie_4_2, ie_4_3, ie_4_8, ie_4_20, ie_8_m2, ie_8_m1, ie_8_0, ie_8_1, ie_8_2, ie_8_3, ie_8_4, ie_8_20, ie_20_m2, ie_20_m1, ie_20_0, ie_20_1, ie_20_2, ie_20_3, ie_20_4, ie_20_8, am_ne1, am_ne2, am_I_wI, am_L_wL, am_P_wP, Nat.reduceEqDiff, false_and, if_false, if_true, vq_rr, vq_rn, vq_li, vq_ll, vq_lar, vq_laf, vq_lan, vq_arr, vq_d0, vq_p0, vq_ps, am_get_0, am_get_s, am_set_0, am_set_s, am_rf_none, am_rf_some, am_S_wI, am_S_wL, am_S_wP, am_L_wI, am_P_wI, am_I_wL, am_P_wL, am_I_wP, am_L_wP, am_N_wI, am_N_wL, am_N_wP, am_ok_l, am_push_n, am_push_s, am_ent_nil, am_ent_i, am_ent_r, am_ent_f, am_ent_n, am_ent_l, not_true_eq_false, not_false_eq_true, false_implies, true_implies, implies_true, Int32.reduceAdd, Int32.reduceLT, Int32.reduceLE, true_or, or_true, eq_self, List.replicate_succ, List.replicate_zero, Nat.reduceSub, Nat.reduceAdd, Nat.reduceLeDiff, Nat.add_one_sub_one, Nat.add_sub_cancel, true_and, and_true, Nat.le_add_left, Nat.zero_sub, Nat.sub_zero, Nat.sub_self, Nat.add_zero, Nat.zero_add, l28, k28_0, k28_1, k28_2, k28_5, k28_8, k28_9, k28_10, k28_13, k28_16, k28_17, k28_18, k28_21, k28_22, k28_25, k28_26, k28_29, k28_30, k28_31, k28_32, k28_35, k28_38, k28_39, k28_40, k28_43, k28_44, k28_45, k28_48, k28_51, k28_54, k28_56, k28_59, k28_60, hT3.1]
  obtain ⟨w0, w1, w2, w3, w4, w5, w6⟩ := fq_stay (m := m) (F3.q (fun _ => False)) xm
  have hV : FT h3 m n (am_I h3 (T + 6)) e 41 (k_first h m n) 0 = FT h m n (fun s => sp_told (am_I h (D + 9)) (am_I h (D + 10)) s t) e 41 (k_first h m n) 0 := by
    rw [FT_eq w0 w1 w3 w4 w5 w6, c6]
    exact FT_told (fun s hs => g1 s hs) _ _ _
  refine M_rowsFrom (k := 41) (d := d) (s0 := 0) (de := 0) (t := 0) (e := e) (M_bt 41) hT3 hm3 hmT hgk (by omega) c2 he2 c3 (by omega) (by omega) (fun h4 x q => ?_)
  rw [hV] at q
  obtain ⟨r1, r2, t', r3, r4, r5, r6, r7⟩ := q
  have F4 : am_fr h h4 (X_fs T) := F3.tr (r1.wk (fun q z => by unfold X_fit at z; unfold X_fs; omega)) (fun _ z => z)
  have hT4 := hT.fq (F4.q (fun _ => False))
  simp only [am_ok_l, am_push_s]
  refine am_go 100 ?_
  simp only [vq_s, vq_0, vq_h, am_clr_eq, vq_1, vq_2, vq_3, vq_4, vq_5, vq_6, vq_7, vq_8, vq_9, vq_10, vq_11, vq_12, vq_13, vq_14, vq_15, vq_16, vq_17, vq_20, vq_21, vq_22, vq_23, vq_24, vq_25, vq_26, vq_27, vq_28, vq_29, vq_30, vq_31, vq_32, vq_33, vq_34, vq_35, vq_36, vq_37, vq_38, vq_39, vq_40, vq_41, vq_42, vq_43, vq_44, vq_45, vq_50, vq_51, vq_52, vq_53, vq_54, vq_55, vq_56, vq_57, vq_58, vq_59, vq_60, vq_61, vq_62, vq_63, vq_64, vq_70, vq_71, vq_72, vq_73, vq_74, vq_75, vq_76, vq_77, vq_78, vq_79, vq_80, vq_81, vq_85, vq_86, vq_87, vq_88, vq_89, vq_90, vq_91, vq_92, vq_93, vq_95, vq_96, vq_100, vq_101, vq_110, vq_111, vq_112, vq_113, vq_114, vq_200, vq_s1, vq_s2, vq_t1, vq_t2, vq_st, vq_r1, vq_sr, vq_ssr, vq_tsr, vq_v1, vq_v2, vq_e, vq_nln, vq_nli, vq_nlr, vq_nlf, vq_nlu, vq_isAr, vq_isAf, vq_isAu, vq_di, vq_dr, vq_df, vq_du, vq_dl, vq_sf, vq_f1, ie_m2_m1, ie_m2_0, ie_m2_1, ie_m2_2, ie_m2_3, ie_m2_4, ie_m2_8, ie_m2_20, ie_m1_m2, ie_m1_0, ie_m1_1, ie_m1_2, ie_m1_3, ie_m1_4, ie_m1_8, ie_m1_20, ie_0_m2, ie_0_m1, ie_0_1, ie_0_2, ie_0_3, ie_0_4, ie_0_8, ie_0_20, ie_1_m2, ie_1_m1, ie_1_0, ie_1_2, ie_1_3, ie_1_4, ie_1_8, ie_1_20, ie_2_m2, ie_2_m1, ie_2_0, ie_2_1, ie_2_3, ie_2_4, ie_2_8, ie_2_20, ie_3_m2, ie_3_m1, ie_3_0, ie_3_1, ie_3_2, ie_3_4, ie_3_8, ie_3_20, ie_4_m2, ie_4_m1, ie_4_0, ie_4_1, ie_4_2, ie_4_3, ie_4_8, ie_4_20, ie_8_m2, ie_8_m1, ie_8_0, ie_8_1, ie_8_2, ie_8_3, ie_8_4, ie_8_20, ie_20_m2, ie_20_m1, ie_20_0, ie_20_1, ie_20_2, ie_20_3, ie_20_4, ie_20_8, am_ne1, am_ne2, am_I_wI, am_L_wL, am_P_wP, Nat.reduceEqDiff, false_and, if_false, if_true, vq_rr, vq_rn, vq_li, vq_ll, vq_lar, vq_laf, vq_lan, vq_arr, vq_d0, vq_p0, vq_ps, am_get_0, am_get_s, am_set_0, am_set_s, am_rf_none, am_rf_some, am_S_wI, am_S_wL, am_S_wP, am_L_wI, am_P_wI, am_I_wL, am_P_wL, am_I_wP, am_L_wP, am_N_wI, am_N_wL, am_N_wP, am_ok_l, am_push_n, am_push_s, am_ent_nil, am_ent_i, am_ent_r, am_ent_f, am_ent_n, am_ent_l, not_true_eq_false, not_false_eq_true, false_implies, true_implies, implies_true, Int32.reduceAdd, Int32.reduceLT, Int32.reduceLE, true_or, or_true, eq_self, List.replicate_succ, List.replicate_zero, Nat.reduceSub, Nat.reduceAdd, Nat.reduceLeDiff, Nat.add_one_sub_one, Nat.add_sub_cancel, true_and, and_true, Nat.le_add_left, Nat.zero_sub, Nat.sub_zero, Nat.sub_self, Nat.add_zero, Nat.zero_add, l28, k28_0, k28_1, k28_2, k28_5, k28_8, k28_9, k28_10, k28_13, k28_16, k28_17, k28_18, k28_21, k28_22, k28_25, k28_26, k28_29, k28_30, k28_31, k28_32, k28_35, k28_38, k28_39, k28_40, k28_43, k28_44, k28_45, k28_48, k28_51, k28_54, k28_56, k28_59, k28_60, hT4.1, r3]
  have hK4 := hK h4 F4
  refine ⟨fun z => ?_, fun z => ?_⟩
  · have hz : t' ≤ 20000 := (nI_leI (b := 20000) (by omega) (by omega)).mp z
    have hz2 : ¬ 20000 < (FT h m n (fun s => sp_told (am_I h (D + 9)) (am_I h (D + 10)) s t) e 41 (k_first h m n) 0).2 := fun w => by have := r7 (by omega); omega
    rw [if_neg hz2] at hK4
    rw [(r6 (by omega)).1]
    exact hK4
  · have hz : 20000 < t' := Nat.lt_of_not_le fun w => z (nI_le (b := 20000) w (by omega))
    have hz2 : 20000 < (FT h m n (fun s => sp_told (am_I h (D + 9)) (am_I h (D + 10)) s t) e 41 (k_first h m n) 0).2 := Nat.lt_of_not_le fun w => by have := (r6 (by omega)).2; omega
    rw [if_pos hz2] at hK4
    exact hK4
end
