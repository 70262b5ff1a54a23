/-! the model's states: stateOf -/
def md_li (fo : Nat → Nat) (f : Nat) : Nat → Int32
  | 0 => -1
  | k + 1 => if fo k = f then nI k else md_li fo f k
theorem md_li_c {fo fo' : Nat → Nat} {f : Nat} : ∀ k, (∀ j, j < k → fo j = fo' j) → md_li fo f k = md_li fo' f k
  | 0, _ => rfl
  | k + 1, e => by rw [md_li, md_li, e k (by omega), md_li_c k (fun j hj => e j (by omega))]
theorem md_li_s (fo : Nat → Nat) (f : Nat) : ∀ k, (md_li fo f k = -1 ∧ ∀ j, j < k → fo j ≠ f) ∨ ∃ j, j < k ∧ md_li fo f k = nI j ∧ fo j = f ∧ ∀ i, j < i → i < k → fo i ≠ f
  | 0 => Or.inl ⟨rfl, fun j hj => by omega⟩
  | k + 1 => by
    rw [md_li]
    by_cases z : fo k = f
    · rw [if_pos z]
      exact Or.inr ⟨k, by omega, rfl, z, fun i a b => by omega⟩
    · rw [if_neg z]
      rcases md_li_s fo f k with ⟨a, b⟩ | ⟨j, a, b, c, e⟩
      · refine Or.inl ⟨a, fun j hj => ?_⟩
        by_cases y : j = k
        · rw [y]; exact z
        · exact b j (by omega)
      · refine Or.inr ⟨j, by omega, b, c, fun i h1 h2 => ?_⟩
        by_cases y : i = k
        · rw [y]; exact z
        · exact e i h1 (by omega)
theorem md_fo_c {f g : Nat → Int32} {s : Int32} : ∀ k, (∀ i, i < k → f i = g i) → md_fo f s k = md_fo g s k
  | 0, _ => rfl
  | k + 1, e => by rw [md_fo, md_fo, md_fo_c k (fun i hi => e i (by omega)), e k (by omega)]
theorem md_fold_c {f g : Nat → Int32} {s : Int32} (e : ∀ i, i < 7 → f i = g i) : md_fold f s = md_fold g s := by
  unfold md_fold
  rw [md_fo_c 7 e]
def st_fo (dec : Nat → Nat → Int32) (sec : Nat → Int32) (ks : List Nat) (k : Nat) : Nat := md_fold (dec (ks.getD k 0)) (sec (ks.getD k 0))
/-- the model's states are the keys ks, in the order of their coming -/
def st_in (h : Am_H) (M : Nat) (dec : Nat → Nat → Int32) (sec : Nat → Int32) (ks : List Nat) : Prop := ks.length ≤ 4000 ∧ am_I h M 37 = nI ks.length ∧ (∀ k, k < ks.length → (∀ i, i < 7 → am_I h (M + 17) (7 * k + i) = dec (ks.getD k 0) i) ∧ am_I h (M + 18) k = sec (ks.getD k 0) ∧ am_I h (M + 19) k = md_li (st_fo dec sec ks) (st_fo dec sec ks k) k) ∧ ∀ f, f < 16384 → am_I h (M + 20) f = md_li (st_fo dec sec ks) f ks.length
theorem st_in.of {h h' : Am_H} {M : Nat} {dec : Nat → Nat → Int32} {sec : Nat → Int32} {ks : List Nat} (a : st_in h M dec sec ks) (e37 : am_I h' M 37 = am_I h M 37) (e : ∀ q, M + 17 ≤ q → q ≤ M + 20 → am_I h' q = am_I h q) : st_in h' M dec sec ks := by
  unfold st_in
  rw [e37, e (M + 17) (by omega) (by omega), e (M + 18) (by omega) (by omega), e (M + 19) (by omega) (by omega), e (M + 20) (by omega) (by omega)]
  exact a
theorem getD_app {ks : List Nat} {x k : Nat} (hk : k < ks.length) : (ks ++ [x]).getD k 0 = ks.getD k 0 := by
  rw [List.getD_eq_getElem?_getD, List.getD_eq_getElem?_getD, List.getElem?_append_left hk]
theorem getD_last {ks : List Nat} {x : Nat} : (ks ++ [x]).getD ks.length 0 = x := by
  rw [List.getD_eq_getElem?_getD, List.getElem?_append_right (Nat.le_refl _), Nat.sub_self]
  rfl
theorem mem_getD {ks : List Nat} {x : Nat} : x ∈ ks ↔ ∃ k, k < ks.length ∧ ks.getD k 0 = x := by
  constructor
  · intro hx
    obtain ⟨k, hk, e⟩ := List.mem_iff_getElem.mp hx
    exact ⟨k, hk, by rw [List.getD_eq_getElem?_getD, List.getElem?_eq_getElem hk, e]; rfl⟩
  · rintro ⟨k, hk, e⟩
    rw [List.getD_eq_getElem?_getD, List.getElem?_eq_getElem hk] at e
    rw [← e]
    exact List.getElem_mem hk
section
variable {l : Am_L} {d : Nat} {h : Am_H} {M x : Nat} {K : Am_R → Am_H → Prop} {dec : Nat → Nat → Int32} {sec : Nat → Int32} {ks : List Nat}
theorem N_st_cmp {k : Nat} {s f : Int32} (hM : is_Model h M) (hk : k < 4000) (hx : am_S h x = (2, 7)) (hR : (∀ i, i < 7 → am_I h (M + 17) (7 * k + i) = am_I h x i) → K (.inl (some (.int (nI k)))) h) (hN : ¬ (∀ i, i < 7 → am_I h (M + 17) (7 * k + i) = am_I h x i) → ∀ v5 v6, am_J l 145 (d + 1) 0 0 14 [some (.ref M), some (.ref x), some (.int s), some (.int f), some (.int (am_I h (M + 19) k)), v5, v6] [] h K) : ∀ j i, i + j = 7 → (∀ i', i' < i → am_I h (M + 17) (7 * k + i') = am_I h x i') → am_J l 145 (d + 1) 0 0 41 [some (.ref M), some (.ref x), some (.int s), some (.int f), some (.int (nI k)), some (.int 1), some (.int (nI i))] [] h K := by
  have hv4 : vp_in (nI k) 4000 := vp_in_nI hk (by omega)
  intro j
  induction j with
  | zero =>
    intro i hi hq
    have : i = 7 := by omega
    subst this
    refine am_go 100 ?_
    simp only [vq_s, vq_0, vq_h, am_clr_eq, vq_1, vq_2, vq_3, vq_4, vq_5, vq_6, vq_7, vq_8, vq_9, vq_10, vq_11, vq_12, vq_13, vq_14, vq_15, vq_16, vq_17, vq_20, vq_21, vq_22, vq_23, vq_24, vq_25, vq_26, vq_27, vq_28, vq_29, vq_30, vq_31, vq_32, vq_33, vq_34, vq_35, vq_36, vq_37, vq_38, vq_39, vq_40, vq_41, vq_42, vq_43, vq_44, vq_45, vq_50, vq_51, vq_52, vq_53, vq_54, vq_55, vq_56, vq_57, vq_58, vq_59, vq_60, vq_61, vq_62, vq_63, vq_64, vq_70, vq_71, vq_72, vq_73, vq_74, vq_75, vq_76, vq_77, vq_78, vq_79, vq_80, vq_81, vq_85, vq_86, vq_87, vq_88, vq_89, vq_90, vq_91, vq_92, vq_93, vq_95, vq_96, vq_100, vq_101, vq_110, vq_111, vq_112, vq_113, vq_114, vq_200, vq_s1, vq_s2, vq_t1, vq_t2, vq_st, vq_r1, vq_sr, vq_ssr, vq_tsr, vq_v1, vq_v2, vq_e, vq_nln, vq_nli, vq_nlr, vq_nlf, vq_nlu, vq_isAr, vq_isAf, vq_isAu, vq_di, vq_dr, vq_df, vq_du, vq_dl, vq_sf, vq_f1, ie_m2_m1, ie_m2_0, ie_m2_1, ie_m2_2, ie_m2_3, ie_m2_4, ie_m2_8, ie_m2_20, ie_m1_m2, ie_m1_0, ie_m1_1, ie_m1_2, ie_m1_3, ie_m1_4, ie_m1_8, ie_m1_20, ie_0_m2, ie_0_m1, ie_0_1, ie_0_2, ie_0_3, ie_0_4, ie_0_8, ie_0_20, ie_1_m2, ie_1_m1, ie_1_0, ie_1_2, ie_1_3, ie_1_4, ie_1_8, ie_1_20, ie_2_m2, ie_2_m1, ie_2_0, ie_2_1, ie_2_3, ie_2_4, ie_2_8, ie_2_20, ie_3_m2, ie_3_m1, ie_3_0, ie_3_1, ie_3_2, ie_3_4, ie_3_8, ie_3_20, ie_4_m2, ie_4_m1, ie_4_0, ie_4_1, ie_4_2, ie_4_3, ie_4_8, ie_4_20, ie_8_m2, ie_8_m1, ie_8_0, ie_8_1, ie_8_2, ie_8_3, ie_8_4, ie_8_20, ie_20_m2, ie_20_m1, ie_20_0, ie_20_1, ie_20_2, ie_20_3, ie_20_4, ie_20_8, am_ne1, am_ne2, am_I_wI, am_L_wL, am_P_wP, Nat.reduceEqDiff, false_and, if_false, if_true, vq_rr, vq_rn, vq_li, vq_ll, vq_lar, vq_laf, vq_lan, vq_arr, vq_d0, vq_p0, vq_ps, am_get_0, am_get_s, am_set_0, am_set_s, am_rf_none, am_rf_some, am_S_wI, am_S_wL, am_S_wP, am_L_wI, am_P_wI, am_I_wL, am_P_wL, am_I_wP, am_L_wP, am_N_wI, am_N_wL, am_N_wP, am_ok_l, am_push_n, am_push_s, am_ent_nil, am_ent_i, am_ent_r, am_ent_f, am_ent_n, am_ent_l, not_true_eq_false, not_false_eq_true, false_implies, true_implies, implies_true, Int32.reduceAdd, Int32.reduceLT, Int32.reduceLE, true_or, or_true, eq_self, List.replicate_succ, List.replicate_zero, Nat.reduceSub, Nat.reduceAdd, Nat.reduceLeDiff, Nat.add_one_sub_one, Nat.add_sub_cancel, true_and, and_true, Nat.le_add_left, Nat.zero_sub, Nat.sub_zero, Nat.sub_self, Nat.add_zero, Nat.zero_add, l145, k145_0, k145_1, k145_2, k145_5, k145_6, k145_7, k145_10, k145_11, k145_12, k145_14, k145_16, k145_17, k145_20, k145_21, k145_24, k145_26, k145_27, k145_28, k145_31, k145_32, k145_35, k145_36, k145_38, k145_39, k145_41, k145_43, k145_46, k145_48, k145_50, k145_53, k145_54, k145_57, k145_59, k145_61, k145_62, k145_64, k145_65, k145_66, k145_67, k145_69, k145_70, k145_73, k145_74, k145_77, k145_78, k145_80, k145_83, k145_86, k145_88, k145_91, k145_93, k145_94, k145_95, k145_98, k145_100, k145_101, k145_103, k145_106, k145_107, k145_110, k145_113, k145_116, k145_117, k145_118, k145_121, k145_122, k145_123, k145_124, k145_127, k145_129, k145_130, k145_132, k145_134, k145_136, k145_139, k145_140, k145_143, k145_145, k145_147, k145_148, k145_150, k145_151, k145_152, k145_154, k145_155, k145_156, k145_159, k145_162, k145_163, k145_166, k145_168, k145_169, k145_170, k145_171, k145_174, k145_176, k145_177, k145_180, k145_181, k145_182, k145_183, k145_184, k145_187, k145_188, k145_190, k145_191, k145_192, k145_193, k145_196, k145_197, k145_198, k145_201, k145_203, hM.1]
    exact ⟨fun _ => hR hq, fun z => absurd (by decide) z⟩
  | succ j ih =>
    intro i hi hq
    have hv : vp_in (nI (7 * k + i)) 28000 := vp_in_nI (by omega) (by omega)
    have hv7 : vp_in (nI i) 7 := vp_in_nI (by omega) (by omega)
    refine am_go 100 ?_
    simp only [vq_s, vq_0, vq_h, am_clr_eq, vq_1, vq_2, vq_3, vq_4, vq_5, vq_6, vq_7, vq_8, vq_9, vq_10, vq_11, vq_12, vq_13, vq_14, vq_15, vq_16, vq_17, vq_20, vq_21, vq_22, vq_23, vq_24, vq_25, vq_26, vq_27, vq_28, vq_29, vq_30, vq_31, vq_32, vq_33, vq_34, vq_35, vq_36, vq_37, vq_38, vq_39, vq_40, vq_41, vq_42, vq_43, vq_44, vq_45, vq_50, vq_51, vq_52, vq_53, vq_54, vq_55, vq_56, vq_57, vq_58, vq_59, vq_60, vq_61, vq_62, vq_63, vq_64, vq_70, vq_71, vq_72, vq_73, vq_74, vq_75, vq_76, vq_77, vq_78, vq_79, vq_80, vq_81, vq_85, vq_86, vq_87, vq_88, vq_89, vq_90, vq_91, vq_92, vq_93, vq_95, vq_96, vq_100, vq_101, vq_110, vq_111, vq_112, vq_113, vq_114, vq_200, vq_s1, vq_s2, vq_t1, vq_t2, vq_st, vq_r1, vq_sr, vq_ssr, vq_tsr, vq_v1, vq_v2, vq_e, vq_nln, vq_nli, vq_nlr, vq_nlf, vq_nlu, vq_isAr, vq_isAf, vq_isAu, vq_di, vq_dr, vq_df, vq_du, vq_dl, vq_sf, vq_f1, ie_m2_m1, ie_m2_0, ie_m2_1, ie_m2_2, ie_m2_3, ie_m2_4, ie_m2_8, ie_m2_20, ie_m1_m2, ie_m1_0, ie_m1_1, ie_m1_2, ie_m1_3, ie_m1_4, ie_m1_8, ie_m1_20, ie_0_m2, ie_0_m1, ie_0_1, ie_0_2, ie_0_3, ie_0_4, ie_0_8, ie_0_20, ie_1_m2, ie_1_m1, ie_1_0, ie_1_2, ie_1_3, ie_1_4, ie_1_8, ie_1_20, ie_2_m2, ie_2_m1, ie_2_0, ie_2_1, ie_2_3, ie_2_4, ie_2_8, ie_2_20, ie_3_m2, ie_3_m1, ie_3_0, ie_3_1, ie_3_2, ie_3_4, ie_3_8, ie_3_20, ie_4_m2, ie_4_m1, ie_4_0, ie_4_1, ie_4_2, ie_4_3, ie_4_8, ie_4_20, ie_8_m2, ie_8_m1, ie_8_0, ie_8_1, ie_8_2, ie_8_3, ie_8_4, ie_8_20, ie_20_m2, ie_20_m1, ie_20_0, ie_20_1, ie_20_2, ie_20_3, ie_20_4, ie_20_8, am_ne1, am_ne2, am_I_wI, am_L_wL, am_P_wP, Nat.reduceEqDiff, false_and, if_false, if_true, vq_rr, vq_rn, vq_li, vq_ll, vq_lar, vq_laf, vq_lan, vq_arr, vq_d0, vq_p0, vq_ps, am_get_0, am_get_s, am_set_0, am_set_s, am_rf_none, am_rf_some, am_S_wI, am_S_wL, am_S_wP, am_L_wI, am_P_wI, am_I_wL, am_P_wL, am_I_wP, am_L_wP, am_N_wI, am_N_wL, am_N_wP, am_ok_l, am_push_n, am_push_s, am_ent_nil, am_ent_i, am_ent_r, am_ent_f, am_ent_n, am_ent_l, not_true_eq_false, not_false_eq_true, false_implies, true_implies, implies_true, Int32.reduceAdd, Int32.reduceLT, Int32.reduceLE, true_or, or_true, eq_self, List.replicate_succ, List.replicate_zero, Nat.reduceSub, Nat.reduceAdd, Nat.reduceLeDiff, Nat.add_one_sub_one, Nat.add_sub_cancel, true_and, and_true, Nat.le_add_left, Nat.zero_sub, Nat.sub_zero, Nat.sub_self, Nat.add_zero, Nat.zero_add, l145, k145_0, k145_1, k145_2, k145_5, k145_6, k145_7, k145_10, k145_11, k145_12, k145_14, k145_16, k145_17, k145_20, k145_21, k145_24, k145_26, k145_27, k145_28, k145_31, k145_32, k145_35, k145_36, k145_38, k145_39, k145_41, k145_43, k145_46, k145_48, k145_50, k145_53, k145_54, k145_57, k145_59, k145_61, k145_62, k145_64, k145_65, k145_66, k145_67, k145_69, k145_70, k145_73, k145_74, k145_77, k145_78, k145_80, k145_83, k145_86, k145_88, k145_91, k145_93, k145_94, k145_95, k145_98, k145_100, k145_101, k145_103, k145_106, k145_107, k145_110, k145_113, k145_116, k145_117, k145_118, k145_121, k145_122, k145_123, k145_124, k145_127, k145_129, k145_130, k145_132, k145_134, k145_136, k145_139, k145_140, k145_143, k145_145, k145_147, k145_148, k145_150, k145_151, k145_152, k145_154, k145_155, k145_156, k145_159, k145_162, k145_163, k145_166, k145_168, k145_169, k145_170, k145_171, k145_174, k145_176, k145_177, k145_180, k145_181, k145_182, k145_183, k145_184, k145_187, k145_188, k145_190, k145_191, k145_192, k145_193, k145_196, k145_197, k145_198, k145_201, k145_203, hM.1, mp_states hM, ms_states hM, hx, nI_7m, nI_add, nI_1, hv, hv7, nI_clamp (show 7 * k + i < 2 ^ 31 by omega), nI_clamp (show i < 2 ^ 31 by omega)]
    refine ⟨fun z => absurd z (by rw [show (7 : Int32) = nI 7 from rfl]; exact nI_ge (by omega) (by omega)), fun _ => ⟨fun z => ?_, fun z => ?_⟩⟩
    · refine am_go 100 ?_
      simp only [vq_s, vq_0, vq_h, am_clr_eq, vq_1, vq_2, vq_3, vq_4, vq_5, vq_6, vq_7, vq_8, vq_9, vq_10, vq_11, vq_12, vq_13, vq_14, vq_15, vq_16, vq_17, vq_20, vq_21, vq_22, vq_23, vq_24, vq_25, vq_26, vq_27, vq_28, vq_29, vq_30, vq_31, vq_32, vq_33, vq_34, vq_35, vq_36, vq_37, vq_38, vq_39, vq_40, vq_41, vq_42, vq_43, vq_44, vq_45, vq_50, vq_51, vq_52, vq_53, vq_54, vq_55, vq_56, vq_57, vq_58, vq_59, vq_60, vq_61, vq_62, vq_63, vq_64, vq_70, vq_71, vq_72, vq_73, vq_74, vq_75, vq_76, vq_77, vq_78, vq_79, vq_80, vq_81, vq_85, vq_86, vq_87, vq_88, vq_89, vq_90, vq_91, vq_92, vq_93, vq_95, vq_96, vq_100, vq_101, vq_110, vq_111, vq_112, vq_113, vq_114, vq_200, vq_s1, vq_s2, vq_t1, vq_t2, vq_st, vq_r1, vq_sr, vq_ssr, vq_tsr, vq_v1, vq_v2, vq_e, vq_nln, vq_nli, vq_nlr, vq_nlf, vq_nlu, vq_isAr, vq_isAf, vq_isAu, vq_di, vq_dr, vq_df, vq_du, vq_dl, vq_sf, vq_f1, ie_m2_m1, ie_m2_0, ie_m2_1, ie_m2_2, ie_m2_3, ie_m2_4, ie_m2_8, ie_m2_20, ie_m1_m2, ie_m1_0, ie_m1_1, ie_m1_2, ie_m1_3, ie_m1_4, ie_m1_8, ie_m1_20, ie_0_m2, ie_0_m1, ie_0_1, ie_0_2, ie_0_3, ie_0_4, ie_0_8, ie_0_20, ie_1_m2, ie_1_m1, ie_1_0, ie_1_2, ie_1_3, ie_1_4, ie_1_8, ie_1_20, ie_2_m2, ie_2_m1, ie_2_0, ie_2_1, ie_2_3, ie_2_4, ie_2_8, ie_2_20, ie_3_m2, ie_3_m1, ie_3_0, ie_3_1, ie_3_2, ie_3_4, ie_3_8, ie_3_20, ie_4_m2, ie_4_m1, ie_4_0, ie_4_1, ie_4_2, ie_4_3, ie_4_8, ie_4_20, ie_8_m2, ie_8_m1, ie_8_0, ie_8_1, ie_8_2, ie_8_3, ie_8_4, ie_8_20, ie_20_m2, ie_20_m1, ie_20_0, ie_20_1, ie_20_2, ie_20_3, ie_20_4, ie_20_8, am_ne1, am_ne2, am_I_wI, am_L_wL, am_P_wP, Nat.reduceEqDiff, false_and, if_false, if_true, vq_rr, vq_rn, vq_li, vq_ll, vq_lar, vq_laf, vq_lan, vq_arr, vq_d0, vq_p0, vq_ps, am_get_0, am_get_s, am_set_0, am_set_s, am_rf_none, am_rf_some, am_S_wI, am_S_wL, am_S_wP, am_L_wI, am_P_wI, am_I_wL, am_P_wL, am_I_wP, am_L_wP, am_N_wI, am_N_wL, am_N_wP, am_ok_l, am_push_n, am_push_s, am_ent_nil, am_ent_i, am_ent_r, am_ent_f, am_ent_n, am_ent_l, not_true_eq_false, not_false_eq_true, false_implies, true_implies, implies_true, Int32.reduceAdd, Int32.reduceLT, Int32.reduceLE, true_or, or_true, eq_self, List.replicate_succ, List.replicate_zero, Nat.reduceSub, Nat.reduceAdd, Nat.reduceLeDiff, Nat.add_one_sub_one, Nat.add_sub_cancel, true_and, and_true, Nat.le_add_left, Nat.zero_sub, Nat.sub_zero, Nat.sub_self, Nat.add_zero, Nat.zero_add, l145, k145_0, k145_1, k145_2, k145_5, k145_6, k145_7, k145_10, k145_11, k145_12, k145_14, k145_16, k145_17, k145_20, k145_21, k145_24, k145_26, k145_27, k145_28, k145_31, k145_32, k145_35, k145_36, k145_38, k145_39, k145_41, k145_43, k145_46, k145_48, k145_50, k145_53, k145_54, k145_57, k145_59, k145_61, k145_62, k145_64, k145_65, k145_66, k145_67, k145_69, k145_70, k145_73, k145_74, k145_77, k145_78, k145_80, k145_83, k145_86, k145_88, k145_91, k145_93, k145_94, k145_95, k145_98, k145_100, k145_101, k145_103, k145_106, k145_107, k145_110, k145_113, k145_116, k145_117, k145_118, k145_121, k145_122, k145_123, k145_124, k145_127, k145_129, k145_130, k145_132, k145_134, k145_136, k145_139, k145_140, k145_143, k145_145, k145_147, k145_148, k145_150, k145_151, k145_152, k145_154, k145_155, k145_156, k145_159, k145_162, k145_163, k145_166, k145_168, k145_169, k145_170, k145_171, k145_174, k145_176, k145_177, k145_180, k145_181, k145_182, k145_183, k145_184, k145_187, k145_188, k145_190, k145_191, k145_192, k145_193, k145_196, k145_197, k145_198, k145_201, k145_203, hM.1, mp_next hM, ms_next hM, hv4, nI_clamp (show k < 2 ^ 31 by omega)]
      exact hN (fun w => z (w i (by omega))) _ _
    · refine ih (i + 1) (by omega) (fun i' hi' => ?_)
      by_cases y : i' = i
      · rw [y]; exact z
      · exact hq i' (by omega)
end
