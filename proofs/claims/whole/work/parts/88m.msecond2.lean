/-! the model's second: the ring, the whole -/
section
variable {l : Am_L} {d : Nat} {h : Am_H} {M m n L : Nat} {K : Am_R → Am_H → Prop}
theorem nI_gt {n : Nat} (h0 : 0 < n) (h : n < 2 ^ 31) : 0 < nI n := by
  rw [show (0 : Int32) = nI 0 from rfl]; exact nI_lt h0 h
theorem nI_7m (a : Nat) : 7 * nI a = nI (7 * a) := nI_mul 7 a
def q_mring (h h' : Am_H) (M b i : Nat) : Prop := am_fr h h' (fun q => q = M + 15) ∧ ∀ j, am_I h' (M + 15) j = if b ≤ j ∧ j < b + i then am_I h (M + 12) (j - b) else am_I h (M + 15) j
theorem N_second_ring {k : Nat} (hM : is_Model h M) (hk3 : k < 300) (hK : ∀ h', q_mring h h' M (7 * k) 7 → am_J l 129 (d + 3) 0 0 11 [some (.ref M), some (.int (nI k)), some (.int (nI 7))] [] h' K) : ∀ (j i : Nat) (h1 : Am_H), i + j = 7 → q_mring h h1 M (7 * k) i → am_J l 129 (d + 3) 0 0 11 [some (.ref M), some (.int (nI k)), some (.int (nI i))] [] h1 K := by
  intro j
  induction j with
  | zero =>
    intro i h1 hi q
    have : i = 7 := by omega
    subst this
    exact hK h1 q
  | succ j ih =>
    intro i h1 hi q
    have hM2 := hM.fr q.1
    have hv : vp_in (nI (7 * k + i)) 2100 := vp_in_nI (by omega) (by omega)
    have hv7 : vp_in (nI i) 7 := vp_in_nI (by omega) (by omega)
    refine am_go 100 ?_
    simp only [vq_s, vq_0, vq_h, am_clr_eq, vq_1, vq_2, vq_3, vq_4, vq_5, vq_6, vq_7, vq_8, vq_9, vq_10, vq_11, vq_12, vq_13, vq_14, vq_15, vq_16, vq_17, vq_20, vq_21, vq_22, vq_23, vq_24, vq_25, vq_26, vq_27, vq_28, vq_29, vq_30, vq_31, vq_32, vq_33, vq_34, vq_35, vq_36, vq_37, vq_38, vq_39, vq_40, vq_41, vq_42, vq_43, vq_44, vq_45, vq_50, vq_51, vq_52, vq_53, vq_54, vq_55, vq_56, vq_57, vq_58, vq_59, vq_60, vq_61, vq_62, vq_63, vq_64, vq_70, vq_71, vq_72, vq_73, vq_74, vq_75, vq_76, vq_77, vq_78, vq_79, vq_80, vq_81, vq_85, vq_86, vq_87, vq_88, vq_89, vq_90, vq_91, vq_92, vq_93, vq_95, vq_96, vq_100, vq_101, vq_110, vq_111, vq_112, vq_113, vq_114, vq_200, vq_s1, vq_s2, vq_t1, vq_t2, vq_st, vq_r1, vq_sr, vq_ssr, vq_tsr, vq_v1, vq_v2, vq_e, vq_nln, vq_nli, vq_nlr, vq_nlf, vq_nlu, vq_isAr, vq_isAf, vq_isAu, vq_di, vq_dr, vq_df, vq_du, vq_dl, vq_sf, vq_f1, ie_m2_m1, ie_m2_0, ie_m2_1, ie_m2_2, ie_m2_3, ie_m2_4, ie_m2_8, ie_m2_20, ie_m1_m2, ie_m1_0, ie_m1_1, ie_m1_2, ie_m1_3, ie_m1_4, ie_m1_8, ie_m1_20, ie_0_m2, ie_0_m1, ie_0_1, ie_0_2, ie_0_3, ie_0_4, ie_0_8, ie_0_20, ie_1_m2, ie_1_m1, ie_1_0, ie_1_2, ie_1_3, ie_1_4, ie_1_8, ie_1_20, ie_2_m2, ie_2_m1, ie_2_0, ie_2_1, ie_2_3, ie_2_4, ie_2_8, ie_2_20, ie_3_m2, ie_3_m1, ie_3_0, ie_3_1, ie_3_2, ie_3_4, ie_3_8, ie_3_20, ie_4_m2, ie_4_m1, ie_4_0, ie_4_1, ie_4_2, ie_4_3, ie_4_8, ie_4_20, ie_8_m2, ie_8_m1, ie_8_0, ie_8_1, ie_8_2, ie_8_3, ie_8_4, ie_8_20, ie_20_m2, ie_20_m1, ie_20_0, ie_20_1, ie_20_2, ie_20_3, ie_20_4, ie_20_8, am_ne1, am_ne2, am_I_wI, am_L_wL, am_P_wP, Nat.reduceEqDiff, false_and, if_false, if_true, vq_rr, vq_rn, vq_li, vq_ll, vq_lar, vq_laf, vq_lan, vq_arr, vq_d0, vq_p0, vq_ps, am_get_0, am_get_s, am_set_0, am_set_s, am_rf_none, am_rf_some, am_S_wI, am_S_wL, am_S_wP, am_L_wI, am_P_wI, am_I_wL, am_P_wL, am_I_wP, am_L_wP, am_N_wI, am_N_wL, am_N_wP, am_ok_l, am_push_n, am_push_s, am_ent_nil, am_ent_i, am_ent_r, am_ent_f, am_ent_n, am_ent_l, not_true_eq_false, not_false_eq_true, false_implies, true_implies, implies_true, Int32.reduceAdd, Int32.reduceLT, Int32.reduceLE, true_or, or_true, eq_self, List.replicate_succ, List.replicate_zero, Nat.reduceSub, Nat.reduceAdd, Nat.reduceLeDiff, Nat.add_one_sub_one, Nat.add_sub_cancel, true_and, and_true, Nat.le_add_left, Nat.zero_sub, Nat.sub_zero, Nat.sub_self, Nat.add_zero, Nat.zero_add, l129, k129_0, k129_1, k129_4, k129_7, k129_8, k129_9, k129_10, k129_11, k129_12, k129_14, k129_17, k129_18, k129_21, k129_23, k129_24, k129_25, k129_26, k129_27, k129_28, k129_31, k129_32, k129_33, k129_34, k129_37, k129_40, k129_41, k129_44, k129_45, k129_46, k129_49, k129_50, k129_51, k129_54, k129_55, k129_58, k129_59, k129_60, k129_63, k129_66, k129_67, k129_68, k129_71, k129_72, k129_73, k129_76, k129_77, k129_78, k129_79, k129_82, k129_85, k129_88, k129_89, k129_92, k129_95, k129_96, k129_97, k129_98, k129_101, k129_102, k129_103, k129_104, k129_107, k129_110, k129_113, k129_114, k129_117, k129_118, k129_119, k129_122, k129_125, k129_126, k129_127, k129_128, k129_129, k129_132, k129_133, k129_134, k129_137, k129_138, k129_139, k129_142, k129_143, k129_146, k129_149, k129_150, k129_151, k129_154, k129_155, k129_156, k129_159, k129_160, k129_161, k129_164, k129_167, k129_170, hM2.1, mp_rows hM2, ms_rows hM2, mp_now hM2, ms_now hM2, nI_7m, nI_add, nI_1, hv, hv7, nI_clamp (show 7 * k + i < 2 ^ 31 by omega), nI_clamp (show i < 2 ^ 31 by omega)]
    refine ⟨fun z => absurd z (by rw [show (7 : Int32) = nI 7 from rfl]; exact nI_ge (by omega) (by omega)), fun _ => ?_⟩
    refine ih (i + 1) _ (by omega) ⟨am_fr.w q.1 rfl, fun j => ?_⟩
    rw [am_I_wI, q.1.f (show ¬ M + 12 = M + 15 by omega)]
    by_cases e : j = 7 * k + i
    · rw [if_pos ⟨rfl, e⟩, if_pos (show 7 * k ≤ j ∧ j < 7 * k + (i + 1) by omega), e, show 7 * k + i - 7 * k = i by omega]
    · rw [if_neg (fun w => e w.2), q.2]
      by_cases e2 : 7 * k ≤ j ∧ j < 7 * k + i
      · rw [if_pos e2, if_pos (show 7 * k ≤ j ∧ j < 7 * k + (i + 1) by omega)]
      · rw [if_neg e2, if_neg (show ¬ (7 * k ≤ j ∧ j < 7 * k + (i + 1)) by omega)]
def X_sec (M : Nat) : Nat → Prop := fun q => q = M ∨ q = M + 12 ∨ q = M + 14 ∨ q = M + 15 ∨ q = M + 16
theorem mdm.xs {h h' : Am_H} (a : mdm h M m n) (hmx : m + 6 < M) (e : am_fr h h' (X_sec M)) : mdm h' M m n := a.fr e (fun i _ _ => by unfold X_sec; omega) (fun i _ => by unfold X_sec; omega)
/-- the ring has a new row -/
theorem md_ring {h h' : Am_H} {M s : Nat} {past : List (Nat × Int32)} {y : Dst} (hgd : sp_gd y.1 y.2.1 y.2.2.1) (row : row_in h (M + 12) y.1 y.2.1 y.2.2.1) (hp : past.length ≤ s) (e15 : ∀ j, am_I h' (M + 15) j = if 7 * (s % 300) ≤ j ∧ j < 7 * (s % 300) + 7 then am_I h (M + 12) (j - 7 * (s % 300)) else am_I h (M + 15) j) (e16 : ∀ j, am_I h' (M + 16) j = if j = s % 300 then y.2.2.2.1 else am_I h (M + 16) j) (ho : ∀ i k, past[i]? = some k → md_kr h (M + 15) (7 * ((s - 1 - i) % 300)) k.1 ∧ am_I h (M + 16) ((s - 1 - i) % 300) = k.2) : ∀ i k, (((sp_K y.1 y.2.1 y.2.2.1, y.2.2.2.1) :: past).take 300)[i]? = some k → md_kr h' (M + 15) (7 * ((s + 1 - 1 - i) % 300)) k.1 ∧ am_I h' (M + 16) ((s + 1 - 1 - i) % 300) = k.2 := by
  intro i k hk
  obtain ⟨-, d1, d2, d3⟩ := gk_K hgd
  rw [List.getElem?_take] at hk
  split at hk
  · rename_i hi
    cases i with
    | zero =>
      rw [List.getElem?_cons_zero] at hk
      cases hk
      rw [Nat.sub_zero, Nat.add_sub_cancel]
      refine ⟨⟨fun r hr => ⟨?_, ?_⟩, ?_⟩, ?_⟩
      · rw [e15, if_pos (by omega), show 7 * (s % 300) + r - 7 * (s % 300) = r by omega, (row.1 r hr).1, d1 r hr]
      · rw [e15, if_pos (by omega), show 7 * (s % 300) + (3 + r) - 7 * (s % 300) = 3 + r by omega, (row.1 r hr).2, d2 r hr]
      · rw [e15, if_pos (by omega), show 7 * (s % 300) + 6 - 7 * (s % 300) = 6 by omega, row.2, d3]
      · rw [e16, if_pos rfl]
    | succ i =>
      rw [List.getElem?_cons_succ] at hk
      have hil : i < past.length := (List.getElem?_eq_some_iff.mp hk).1
      have e : s + 1 - 1 - (i + 1) = s - 1 - i := by omega
      have ne : (s - 1 - i) % 300 ≠ s % 300 := by omega
      obtain ⟨⟨c1, c2⟩, c3⟩ := ho i k hk
      rw [e]
      refine ⟨⟨fun r hr => ⟨?_, ?_⟩, ?_⟩, ?_⟩
      · rw [e15, if_neg (by omega)]; exact (c1 r hr).1
      · rw [e15, if_neg (by omega)]; exact (c1 r hr).2
      · rw [e15, if_neg (by omega)]; exact c2
      · rw [e16, if_neg ne]; exact c3
  · cases hk
set_option maxHeartbeats 1000000 in
theorem N_second {y : Dst} {sl : Nat → Int32} (hM : is_Model h M) (hm : mdm h M m n) (hg : is_Good h m n L) (hL4 : 0 < L) (hmx : m + 6 < M) (hk4 : md_k4 h m n) (hsl : ∀ r, r < n → am_I h (M + 13) r = sl r) (dy : md_dy h M y) (ok : ds_ok y) (h0 : y.2.2.2.2.1 = 0) (hgl : gl L n y.1) (hK : ∀ h', am_fr h h' (X_sec M) → (∀ i, i ≠ 25 → i ≠ 26 → i ≠ 27 → i ≠ 30 → am_I h' M i = am_I h M i) → md_dy h' M (ds_by h m n sl y) → K (.inl none) h') : am_M l (d + 4) 0 0 129 [.ref M] h K := by
  have hn := hg.1.2.1
  have hs30 := ok.2.2.2.2
  obtain ⟨k, hk⟩ : ∃ k, k = y.2.2.2.2.2.1 % 300 := ⟨_, rfl⟩
  have hr : nI y.2.2.2.2.2.1 - nI y.2.2.2.2.2.1 / 300 * 300 = nI k := by rw [hk]; exact nI_rem (b := 300) (by omega) (by omega)
  have hc3 : ¬ (300 : Int32) = 0 := by decide
  have hk3 : k < 300 := by rw [hk]; exact Nat.mod_lt _ (by omega)
  refine am_enter (mi := 129) (am_ckP_all 129 (by decide)) (Nat.le_of_ble_eq_true rfl) (by decide) ?_
  refine am_go 100 ?_
  simp only [vq_s, vq_0, vq_h, am_clr_eq, vq_1, vq_2, vq_3, vq_4, vq_5, vq_6, vq_7, vq_8, vq_9, vq_10, vq_11, vq_12, vq_13, vq_14, vq_15, vq_16, vq_17, vq_20, vq_21, vq_22, vq_23, vq_24, vq_25, vq_26, vq_27, vq_28, vq_29, vq_30, vq_31, vq_32, vq_33, vq_34, vq_35, vq_36, vq_37, vq_38, vq_39, vq_40, vq_41, vq_42, vq_43, vq_44, vq_45, vq_50, vq_51, vq_52, vq_53, vq_54, vq_55, vq_56, vq_57, vq_58, vq_59, vq_60, vq_61, vq_62, vq_63, vq_64, vq_70, vq_71, vq_72, vq_73, vq_74, vq_75, vq_76, vq_77, vq_78, vq_79, vq_80, vq_81, vq_85, vq_86, vq_87, vq_88, vq_89, vq_90, vq_91, vq_92, vq_93, vq_95, vq_96, vq_100, vq_101, vq_110, vq_111, vq_112, vq_113, vq_114, vq_200, vq_s1, vq_s2, vq_t1, vq_t2, vq_st, vq_r1, vq_sr, vq_ssr, vq_tsr, vq_v1, vq_v2, vq_e, vq_nln, vq_nli, vq_nlr, vq_nlf, vq_nlu, vq_isAr, vq_isAf, vq_isAu, vq_di, vq_dr, vq_df, vq_du, vq_dl, vq_sf, vq_f1, ie_m2_m1, ie_m2_0, ie_m2_1, ie_m2_2, ie_m2_3, ie_m2_4, ie_m2_8, ie_m2_20, ie_m1_m2, ie_m1_0, ie_m1_1, ie_m1_2, ie_m1_3, ie_m1_4, ie_m1_8, ie_m1_20, ie_0_m2, ie_0_m1, ie_0_1, ie_0_2, ie_0_3, ie_0_4, ie_0_8, ie_0_20, ie_1_m2, ie_1_m1, ie_1_0, ie_1_2, ie_1_3, ie_1_4, ie_1_8, ie_1_20, ie_2_m2, ie_2_m1, ie_2_0, ie_2_1, ie_2_3, ie_2_4, ie_2_8, ie_2_20, ie_3_m2, ie_3_m1, ie_3_0, ie_3_1, ie_3_2, ie_3_4, ie_3_8, ie_3_20, ie_4_m2, ie_4_m1, ie_4_0, ie_4_1, ie_4_2, ie_4_3, ie_4_8, ie_4_20, ie_8_m2, ie_8_m1, ie_8_0, ie_8_1, ie_8_2, ie_8_3, ie_8_4, ie_8_20, ie_20_m2, ie_20_m1, ie_20_0, ie_20_1, ie_20_2, ie_20_3, ie_20_4, ie_20_8, am_ne1, am_ne2, am_I_wI, am_L_wL, am_P_wP, Nat.reduceEqDiff, false_and, if_false, if_true, vq_rr, vq_rn, vq_li, vq_ll, vq_lar, vq_laf, vq_lan, vq_arr, vq_d0, vq_p0, vq_ps, am_get_0, am_get_s, am_set_0, am_set_s, am_rf_none, am_rf_some, am_S_wI, am_S_wL, am_S_wP, am_L_wI, am_P_wI, am_I_wL, am_P_wL, am_I_wP, am_L_wP, am_N_wI, am_N_wL, am_N_wP, am_ok_l, am_push_n, am_push_s, am_ent_nil, am_ent_i, am_ent_r, am_ent_f, am_ent_n, am_ent_l, not_true_eq_false, not_false_eq_true, false_implies, true_implies, implies_true, Int32.reduceAdd, Int32.reduceLT, Int32.reduceLE, true_or, or_true, eq_self, List.replicate_succ, List.replicate_zero, Nat.reduceSub, Nat.reduceAdd, Nat.reduceLeDiff, Nat.add_one_sub_one, Nat.add_sub_cancel, true_and, and_true, Nat.le_add_left, Nat.zero_sub, Nat.sub_zero, Nat.sub_self, Nat.add_zero, Nat.zero_add, l129, k129_0, k129_1, k129_4, k129_7, k129_8, k129_9, k129_10, k129_11, k129_12, k129_14, k129_17, k129_18, k129_21, k129_23, k129_24, k129_25, k129_26, k129_27, k129_28, k129_31, k129_32, k129_33, k129_34, k129_37, k129_40, k129_41, k129_44, k129_45, k129_46, k129_49, k129_50, k129_51, k129_54, k129_55, k129_58, k129_59, k129_60, k129_63, k129_66, k129_67, k129_68, k129_71, k129_72, k129_73, k129_76, k129_77, k129_78, k129_79, k129_82, k129_85, k129_88, k129_89, k129_92, k129_95, k129_96, k129_97, k129_98, k129_101, k129_102, k129_103, k129_104, k129_107, k129_110, k129_113, k129_114, k129_117, k129_118, k129_119, k129_122, k129_125, k129_126, k129_127, k129_128, k129_129, k129_132, k129_133, k129_134, k129_137, k129_138, k129_139, k129_142, k129_143, k129_146, k129_149, k129_150, k129_151, k129_154, k129_155, k129_156, k129_159, k129_160, k129_161, k129_164, k129_167, k129_170, hM.1, dy.2.2.2.1, hr, hc3]
  refine N_second_ring (d := d + 1) hM hk3 (fun h1 q1 => ?_) 7 0 h (by omega) ⟨am_fr.rf, fun j => by rw [if_neg (by omega)]⟩
  have hM1 := hM.fr q1.1
  have hv : vp_in (nI k) 300 := vp_in_nI hk3 (by omega)
  have hck : (nI k).toNatClampNeg = k := nI_clamp (by omega)
  have f0 : am_I h1 M = am_I h M := q1.1.f (by omega)
  have g25 : am_I h1 M 25 = nI y.2.2.2.2.2.1 := by rw [f0]; exact dy.2.2.2.1
  have g26 : am_I h1 M 26 = y.2.2.2.1 := by rw [f0]; exact dy.2.1
  have g30 : am_I h1 M 30 = nI y.2.2.2.2.2.2.length := by rw [f0]; exact dy.2.2.2.2.1
  have hne : (M = M + 16) = False := eq_false (by omega)
  refine am_go 100 ?_
  simp only [vq_s, vq_0, vq_h, am_clr_eq, vq_1, vq_2, vq_3, vq_4, vq_5, vq_6, vq_7, vq_8, vq_9, vq_10, vq_11, vq_12, vq_13, vq_14, vq_15, vq_16, vq_17, vq_20, vq_21, vq_22, vq_23, vq_24, vq_25, vq_26, vq_27, vq_28, vq_29, vq_30, vq_31, vq_32, vq_33, vq_34, vq_35, vq_36, vq_37, vq_38, vq_39, vq_40, vq_41, vq_42, vq_43, vq_44, vq_45, vq_50, vq_51, vq_52, vq_53, vq_54, vq_55, vq_56, vq_57, vq_58, vq_59, vq_60, vq_61, vq_62, vq_63, vq_64, vq_70, vq_71, vq_72, vq_73, vq_74, vq_75, vq_76, vq_77, vq_78, vq_79, vq_80, vq_81, vq_85, vq_86, vq_87, vq_88, vq_89, vq_90, vq_91, vq_92, vq_93, vq_95, vq_96, vq_100, vq_101, vq_110, vq_111, vq_112, vq_113, vq_114, vq_200, vq_s1, vq_s2, vq_t1, vq_t2, vq_st, vq_r1, vq_sr, vq_ssr, vq_tsr, vq_v1, vq_v2, vq_e, vq_nln, vq_nli, vq_nlr, vq_nlf, vq_nlu, vq_isAr, vq_isAf, vq_isAu, vq_di, vq_dr, vq_df, vq_du, vq_dl, vq_sf, vq_f1, ie_m2_m1, ie_m2_0, ie_m2_1, ie_m2_2, ie_m2_3, ie_m2_4, ie_m2_8, ie_m2_20, ie_m1_m2, ie_m1_0, ie_m1_1, ie_m1_2, ie_m1_3, ie_m1_4, ie_m1_8, ie_m1_20, ie_0_m2, ie_0_m1, ie_0_1, ie_0_2, ie_0_3, ie_0_4, ie_0_8, ie_0_20, ie_1_m2, ie_1_m1, ie_1_0, ie_1_2, ie_1_3, ie_1_4, ie_1_8, ie_1_20, ie_2_m2, ie_2_m1, ie_2_0, ie_2_1, ie_2_3, ie_2_4, ie_2_8, ie_2_20, ie_3_m2, ie_3_m1, ie_3_0, ie_3_1, ie_3_2, ie_3_4, ie_3_8, ie_3_20, ie_4_m2, ie_4_m1, ie_4_0, ie_4_1, ie_4_2, ie_4_3, ie_4_8, ie_4_20, ie_8_m2, ie_8_m1, ie_8_0, ie_8_1, ie_8_2, ie_8_3, ie_8_4, ie_8_20, ie_20_m2, ie_20_m1, ie_20_0, ie_20_1, ie_20_2, ie_20_3, ie_20_4, ie_20_8, am_ne1, am_ne2, am_I_wI, am_L_wL, am_P_wP, Nat.reduceEqDiff, false_and, if_false, if_true, vq_rr, vq_rn, vq_li, vq_ll, vq_lar, vq_laf, vq_lan, vq_arr, vq_d0, vq_p0, vq_ps, am_get_0, am_get_s, am_set_0, am_set_s, am_rf_none, am_rf_some, am_S_wI, am_S_wL, am_S_wP, am_L_wI, am_P_wI, am_I_wL, am_P_wL, am_I_wP, am_L_wP, am_N_wI, am_N_wL, am_N_wP, am_ok_l, am_push_n, am_push_s, am_ent_nil, am_ent_i, am_ent_r, am_ent_f, am_ent_n, am_ent_l, not_true_eq_false, not_false_eq_true, false_implies, true_implies, implies_true, Int32.reduceAdd, Int32.reduceLT, Int32.reduceLE, true_or, or_true, eq_self, List.replicate_succ, List.replicate_zero, Nat.reduceSub, Nat.reduceAdd, Nat.reduceLeDiff, Nat.add_one_sub_one, Nat.add_sub_cancel, true_and, and_true, Nat.le_add_left, Nat.zero_sub, Nat.sub_zero, Nat.sub_self, Nat.add_zero, Nat.zero_add, l129, k129_0, k129_1, k129_4, k129_7, k129_8, k129_9, k129_10, k129_11, k129_12, k129_14, k129_17, k129_18, k129_21, k129_23, k129_24, k129_25, k129_26, k129_27, k129_28, k129_31, k129_32, k129_33, k129_34, k129_37, k129_40, k129_41, k129_44, k129_45, k129_46, k129_49, k129_50, k129_51, k129_54, k129_55, k129_58, k129_59, k129_60, k129_63, k129_66, k129_67, k129_68, k129_71, k129_72, k129_73, k129_76, k129_77, k129_78, k129_79, k129_82, k129_85, k129_88, k129_89, k129_92, k129_95, k129_96, k129_97, k129_98, k129_101, k129_102, k129_103, k129_104, k129_107, k129_110, k129_113, k129_114, k129_117, k129_118, k129_119, k129_122, k129_125, k129_126, k129_127, k129_128, k129_129, k129_132, k129_133, k129_134, k129_137, k129_138, k129_139, k129_142, k129_143, k129_146, k129_149, k129_150, k129_151, k129_154, k129_155, k129_156, k129_159, k129_160, k129_161, k129_164, k129_167, k129_170, hM1.1, mp_ores hM1, ms_ores hM1, mp_now hM1, hv, hck, g25, g26, g30, nI_1]
  refine ⟨fun _ => ?_, fun z => absurd (by decide) z⟩
  have l3 := ok.2.1
  have hu : (if nI (y.2.2.2.2.2.2.length + 1) < 300 then nI (y.2.2.2.2.2.2.length + 1) else 300) = nI (((sp_K y.1 y.2.1 y.2.2.1, y.2.2.2.1) :: y.2.2.2.2.2.2).take 300).length := by
    rw [List.length_take, List.length_cons]
    by_cases z : nI (y.2.2.2.2.2.2.length + 1) < 300
    · have := (nI_ltI (b := 300) (by omega) (by omega)).mp z
      rw [if_pos z, Nat.min_eq_right (by omega)]
    · have : ¬ y.2.2.2.2.2.2.length + 1 < 300 := fun w => z (nI_lt (b := 300) w (by omega))
      rw [if_neg z, Nat.min_eq_left (by omega)]
      rfl
  rw [hu]
  obtain ⟨h2, hh2⟩ : ∃ h2, h2 = am_wI (am_wI (am_wI h1 (M + 16) k y.2.2.2.1) M 30 (nI (((sp_K y.1 y.2.1 y.2.2.1, y.2.2.2.1) :: y.2.2.2.2.2.2).take 300).length)) M 25 (nI (y.2.2.2.2.2.1 + 1)) := ⟨_, rfl⟩
  rw [← hh2]
  have e2 : am_fr h h2 (X_sec M) := by
    rw [hh2]
    exact am_fr.w (am_fr.w (am_fr.w (q1.1.wk (fun q w => by unfold X_sec; omega)) (by unfold X_sec; omega)) (by unfold X_sec; omega)) (by unfold X_sec; omega)
  have F12 : am_I h2 (M + 12) = am_I h (M + 12) := by
    funext j
    rw [hh2, am_I_wI, if_neg (by omega), am_I_wI, if_neg (by omega), am_I_wI, if_neg (by omega), q1.1.f (show ¬ M + 12 = M + 15 by omega)]
  have F15 : ∀ j, am_I h2 (M + 15) j = if 7 * k ≤ j ∧ j < 7 * k + 7 then am_I h (M + 12) (j - 7 * k) else am_I h (M + 15) j := fun j => by
    rw [hh2, am_I_wI, if_neg (by omega), am_I_wI, if_neg (by omega), am_I_wI, if_neg (by omega), q1.2]
  have F16 : ∀ j, am_I h2 (M + 16) j = if j = k then y.2.2.2.1 else am_I h (M + 16) j := fun j => by
    rw [hh2, am_I_wI, if_neg (by omega), am_I_wI, if_neg (by omega), am_I_wI, q1.1.f (show ¬ M + 16 = M + 15 by omega)]
    by_cases w : j = k
    · rw [if_pos ⟨rfl, w⟩, if_pos w]
    · rw [if_neg (fun u => w u.2), if_neg w]
  have FM : ∀ i, am_I h2 M i = if i = 25 then nI (y.2.2.2.2.2.1 + 1) else if i = 30 then nI (((sp_K y.1 y.2.1 y.2.2.1, y.2.2.2.1) :: y.2.2.2.2.2.2).take 300).length else am_I h M i := fun i => by
    rw [hh2, am_I_wI]
    by_cases w : i = 25
    · rw [if_pos ⟨rfl, w⟩, if_pos w]
    · rw [if_neg (fun u => w u.2), if_neg w, am_I_wI]
      by_cases w2 : i = 30
      · rw [if_pos ⟨rfl, w2⟩, if_pos w2]
      · rw [if_neg (fun u => w2 u.2), if_neg w2, am_I_wI, if_neg (by omega), f0]
  clear hh2
  have ring := md_ring (h := h) (h' := h2) (M := M) (s := y.2.2.2.2.2.1) (past := y.2.2.2.2.2.2) (ok.1 h0) dy.1 ok.2.2.1 (by rw [← hk]; exact F15) (by rw [← hk]; exact F16) dy.2.2.2.2.2
  have hM2 := hM.fr e2
  have hm2 := hm.xs hmx e2
  have fm : ∀ i, i ≤ 6 → am_I h2 (m + i) = am_I h (m + i) := fun i hi => e2.f (by unfold X_sec; omega)
  have fm0 : am_I h2 m = am_I h m := fm 0 (by omega)
  have b1 : e3 (am_I h (M + 12)) y.1 := fun r hr => (dy.1.1 r hr).1
  have b2 : e3 (fun r => am_I h (M + 12) (3 + r)) y.2.1 := fun r hr => (dy.1.1 r hr).2
  have eh : mv_harm h2 m n (am_I h2 (M + 12)) = mv_harm h m n y.1 := by
    rw [F12, mv_harm_eq fm0 (fm 1 (by omega)) (fm 3 (by omega)), mv_harm_c b1 hn]
  have k42 : md_k4 h2 m n := fun r hr => by rw [fm 1 (by omega)]; exact hk4 r hr
  have hL2 : am_I h2 m 0 = nI L := by rw [fm0]; exact hg.2.1
  have gl2 : gl L n (am_I h2 (M + 12)) := hgl.c (fun r hr => by rw [F12]; exact (b1 r (by omega)).symm)
  refine N_goOn hM2 hm2 hn (ms_now hM2) (by omega) (by omega) hmx k42 hL2 hg.2.2.1 (gl2.bd hL2 hg.2.2.1) (fun h3 q3 => ?_)
  rw [eh]
  simp only [am_ok_l, am_push_s]
  have e3' : am_fr h h3 (X_sec M) := e2.tr (q3.1.wk (fun q w => by unfold X_sec; omega)) (fun _ w => w)
  have hM3 := hM.fr e3'
  have GM : am_I h3 M = am_I h2 M := q3.1.f (by omega)
  have G15 : am_I h3 (M + 15) = am_I h2 (M + 15) := q3.1.f (by omega)
  have G16 : am_I h3 (M + 16) = am_I h2 (M + 16) := q3.1.f (by omega)
  have G12 : ∀ i, am_I h3 (M + 12) i = if i < n then mv_go h m n y.1 i else am_I h (M + 12) i := fun i => by
    rw [q3.2.2, F12, mv_go_eq fm0 (fm 1 (by omega)) (fm 3 (by omega))]
    by_cases w : i < n
    · rw [if_pos w, if_pos w]; exact mv_go_c b1 i (by omega)
    · rw [if_neg w, if_neg w]
  have ring3 : ∀ (h' : Am_H), am_I h' (M + 15) = am_I h3 (M + 15) → am_I h' (M + 16) = am_I h3 (M + 16) → ∀ i k, (((sp_K y.1 y.2.1 y.2.2.1, y.2.2.2.1) :: y.2.2.2.2.2.2).take 300)[i]? = some k → md_kr h' (M + 15) (7 * ((y.2.2.2.2.2.1 + 1 - 1 - i) % 300)) k.1 ∧ am_I h' (M + 16) ((y.2.2.2.2.2.1 + 1 - 1 - i) % 300) = k.2 := fun h' a b i k hk => by
    unfold md_kr
    rw [a, b, G15, G16]
    exact ring i k hk
  have y27 : am_I h M 27 = 0 := by rw [dy.2.2.1, h0]
  refine am_go 100 ?_
  simp only [vq_s, vq_0, vq_h, am_clr_eq, vq_1, vq_2, vq_3, vq_4, vq_5, vq_6, vq_7, vq_8, vq_9, vq_10, vq_11, vq_12, vq_13, vq_14, vq_15, vq_16, vq_17, vq_20, vq_21, vq_22, vq_23, vq_24, vq_25, vq_26, vq_27, vq_28, vq_29, vq_30, vq_31, vq_32, vq_33, vq_34, vq_35, vq_36, vq_37, vq_38, vq_39, vq_40, vq_41, vq_42, vq_43, vq_44, vq_45, vq_50, vq_51, vq_52, vq_53, vq_54, vq_55, vq_56, vq_57, vq_58, vq_59, vq_60, vq_61, vq_62, vq_63, vq_64, vq_70, vq_71, vq_72, vq_73, vq_74, vq_75, vq_76, vq_77, vq_78, vq_79, vq_80, vq_81, vq_85, vq_86, vq_87, vq_88, vq_89, vq_90, vq_91, vq_92, vq_93, vq_95, vq_96, vq_100, vq_101, vq_110, vq_111, vq_112, vq_113, vq_114, vq_200, vq_s1, vq_s2, vq_t1, vq_t2, vq_st, vq_r1, vq_sr, vq_ssr, vq_tsr, vq_v1, vq_v2, vq_e, vq_nln, vq_nli, vq_nlr, vq_nlf, vq_nlu, vq_isAr, vq_isAf, vq_isAu, vq_di, vq_dr, vq_df, vq_du, vq_dl, vq_sf, vq_f1, ie_m2_m1, ie_m2_0, ie_m2_1, ie_m2_2, ie_m2_3, ie_m2_4, ie_m2_8, ie_m2_20, ie_m1_m2, ie_m1_0, ie_m1_1, ie_m1_2, ie_m1_3, ie_m1_4, ie_m1_8, ie_m1_20, ie_0_m2, ie_0_m1, ie_0_1, ie_0_2, ie_0_3, ie_0_4, ie_0_8, ie_0_20, ie_1_m2, ie_1_m1, ie_1_0, ie_1_2, ie_1_3, ie_1_4, ie_1_8, ie_1_20, ie_2_m2, ie_2_m1, ie_2_0, ie_2_1, ie_2_3, ie_2_4, ie_2_8, ie_2_20, ie_3_m2, ie_3_m1, ie_3_0, ie_3_1, ie_3_2, ie_3_4, ie_3_8, ie_3_20, ie_4_m2, ie_4_m1, ie_4_0, ie_4_1, ie_4_2, ie_4_3, ie_4_8, ie_4_20, ie_8_m2, ie_8_m1, ie_8_0, ie_8_1, ie_8_2, ie_8_3, ie_8_4, ie_8_20, ie_20_m2, ie_20_m1, ie_20_0, ie_20_1, ie_20_2, ie_20_3, ie_20_4, ie_20_8, am_ne1, am_ne2, am_I_wI, am_L_wL, am_P_wP, Nat.reduceEqDiff, false_and, if_false, if_true, vq_rr, vq_rn, vq_li, vq_ll, vq_lar, vq_laf, vq_lan, vq_arr, vq_d0, vq_p0, vq_ps, am_get_0, am_get_s, am_set_0, am_set_s, am_rf_none, am_rf_some, am_S_wI, am_S_wL, am_S_wP, am_L_wI, am_P_wI, am_I_wL, am_P_wL, am_I_wP, am_L_wP, am_N_wI, am_N_wL, am_N_wP, am_ok_l, am_push_n, am_push_s, am_ent_nil, am_ent_i, am_ent_r, am_ent_f, am_ent_n, am_ent_l, not_true_eq_false, not_false_eq_true, false_implies, true_implies, implies_true, Int32.reduceAdd, Int32.reduceLT, Int32.reduceLE, true_or, or_true, eq_self, List.replicate_succ, List.replicate_zero, Nat.reduceSub, Nat.reduceAdd, Nat.reduceLeDiff, Nat.add_one_sub_one, Nat.add_sub_cancel, true_and, and_true, Nat.le_add_left, Nat.zero_sub, Nat.sub_zero, Nat.sub_self, Nat.add_zero, Nat.zero_add, l129, k129_0, k129_1, k129_4, k129_7, k129_8, k129_9, k129_10, k129_11, k129_12, k129_14, k129_17, k129_18, k129_21, k129_23, k129_24, k129_25, k129_26, k129_27, k129_28, k129_31, k129_32, k129_33, k129_34, k129_37, k129_40, k129_41, k129_44, k129_45, k129_46, k129_49, k129_50, k129_51, k129_54, k129_55, k129_58, k129_59, k129_60, k129_63, k129_66, k129_67, k129_68, k129_71, k129_72, k129_73, k129_76, k129_77, k129_78, k129_79, k129_82, k129_85, k129_88, k129_89, k129_92, k129_95, k129_96, k129_97, k129_98, k129_101, k129_102, k129_103, k129_104, k129_107, k129_110, k129_113, k129_114, k129_117, k129_118, k129_119, k129_122, k129_125, k129_126, k129_127, k129_128, k129_129, k129_132, k129_133, k129_134, k129_137, k129_138, k129_139, k129_142, k129_143, k129_146, k129_149, k129_150, k129_151, k129_154, k129_155, k129_156, k129_159, k129_160, k129_161, k129_164, k129_167, k129_170, hM3.1, mp_now hM3]
  refine ⟨fun z => ?_, fun z => ?_⟩
  · rw [z]
    obtain ⟨h4, hh4⟩ : ∃ h4, h4 = am_wI h3 M 27 0 := ⟨_, rfl⟩
    rw [← hh4]
    have e4 : am_fr h h4 (X_sec M) := by rw [hh4]; exact e3'.w (Or.inl rfl)
    have hM4 := hM.fr e4
    have hm4 := hm.xs hmx e4
    have R4 : ∀ q, q ≠ M → am_I h4 q = am_I h3 q := fun q hq => by funext j; rw [hh4, am_I_wI, if_neg (fun w => hq w.1)]
    have A4 : ∀ i, am_I h4 M i = if i = 27 then 0 else am_I h2 M i := fun i => by
      rw [hh4, am_I_wI, GM]
      by_cases w : i = 27
      · rw [if_pos ⟨rfl, w⟩, if_pos w]
      · rw [if_neg (fun u => w u.2), if_neg w]
    have m4 : ∀ i, i ≤ 6 → am_I h4 (m + i) = am_I h (m + i) := fun i hi => e4.f (by unfold X_sec; omega)
    have m40 : am_I h4 m = am_I h m := m4 0 (by omega)
    clear hh4
    refine N_arrive hM4 hm4 hn (ms_now hM4) (by omega) (by omega) (fun h5 q5 => ?_)
    have ea : sp_bits (fun r => am_I h4 (M + 12) r = am_I h4 m 0) 0 n = mv_arr h m n y.1 := sp_bits_c n (fun r hr => by rw [m40, R4 (M + 12) (by omega), G12, if_pos hr])
    rw [ea]
    have e5 : am_fr h h5 (X_sec M) := e4.tr (q5.1.wk (fun q w => by unfold X_sec; omega)) (fun _ w => w)
    have hM5 := hM.fr e5
    have hm5 := hm.xs hmx e5
    have A5 : am_I h5 M = am_I h4 M := q5.1.f (by omega)
    simp only [am_ok_l, am_push_s]
    refine am_go 100 ?_
    simp only [vq_s, vq_0, vq_h, am_clr_eq, vq_1, vq_2, vq_3, vq_4, vq_5, vq_6, vq_7, vq_8, vq_9, vq_10, vq_11, vq_12, vq_13, vq_14, vq_15, vq_16, vq_17, vq_20, vq_21, vq_22, vq_23, vq_24, vq_25, vq_26, vq_27, vq_28, vq_29, vq_30, vq_31, vq_32, vq_33, vq_34, vq_35, vq_36, vq_37, vq_38, vq_39, vq_40, vq_41, vq_42, vq_43, vq_44, vq_45, vq_50, vq_51, vq_52, vq_53, vq_54, vq_55, vq_56, vq_57, vq_58, vq_59, vq_60, vq_61, vq_62, vq_63, vq_64, vq_70, vq_71, vq_72, vq_73, vq_74, vq_75, vq_76, vq_77, vq_78, vq_79, vq_80, vq_81, vq_85, vq_86, vq_87, vq_88, vq_89, vq_90, vq_91, vq_92, vq_93, vq_95, vq_96, vq_100, vq_101, vq_110, vq_111, vq_112, vq_113, vq_114, vq_200, vq_s1, vq_s2, vq_t1, vq_t2, vq_st, vq_r1, vq_sr, vq_ssr, vq_tsr, vq_v1, vq_v2, vq_e, vq_nln, vq_nli, vq_nlr, vq_nlf, vq_nlu, vq_isAr, vq_isAf, vq_isAu, vq_di, vq_dr, vq_df, vq_du, vq_dl, vq_sf, vq_f1, ie_m2_m1, ie_m2_0, ie_m2_1, ie_m2_2, ie_m2_3, ie_m2_4, ie_m2_8, ie_m2_20, ie_m1_m2, ie_m1_0, ie_m1_1, ie_m1_2, ie_m1_3, ie_m1_4, ie_m1_8, ie_m1_20, ie_0_m2, ie_0_m1, ie_0_1, ie_0_2, ie_0_3, ie_0_4, ie_0_8, ie_0_20, ie_1_m2, ie_1_m1, ie_1_0, ie_1_2, ie_1_3, ie_1_4, ie_1_8, ie_1_20, ie_2_m2, ie_2_m1, ie_2_0, ie_2_1, ie_2_3, ie_2_4, ie_2_8, ie_2_20, ie_3_m2, ie_3_m1, ie_3_0, ie_3_1, ie_3_2, ie_3_4, ie_3_8, ie_3_20, ie_4_m2, ie_4_m1, ie_4_0, ie_4_1, ie_4_2, ie_4_3, ie_4_8, ie_4_20, ie_8_m2, ie_8_m1, ie_8_0, ie_8_1, ie_8_2, ie_8_3, ie_8_4, ie_8_20, ie_20_m2, ie_20_m1, ie_20_0, ie_20_1, ie_20_2, ie_20_3, ie_20_4, ie_20_8, am_ne1, am_ne2, am_I_wI, am_L_wL, am_P_wP, Nat.reduceEqDiff, false_and, if_false, if_true, vq_rr, vq_rn, vq_li, vq_ll, vq_lar, vq_laf, vq_lan, vq_arr, vq_d0, vq_p0, vq_ps, am_get_0, am_get_s, am_set_0, am_set_s, am_rf_none, am_rf_some, am_S_wI, am_S_wL, am_S_wP, am_L_wI, am_P_wI, am_I_wL, am_P_wL, am_I_wP, am_L_wP, am_N_wI, am_N_wL, am_N_wP, am_ok_l, am_push_n, am_push_s, am_ent_nil, am_ent_i, am_ent_r, am_ent_f, am_ent_n, am_ent_l, not_true_eq_false, not_false_eq_true, false_implies, true_implies, implies_true, Int32.reduceAdd, Int32.reduceLT, Int32.reduceLE, true_or, or_true, eq_self, List.replicate_succ, List.replicate_zero, Nat.reduceSub, Nat.reduceAdd, Nat.reduceLeDiff, Nat.add_one_sub_one, Nat.add_sub_cancel, true_and, and_true, Nat.le_add_left, Nat.zero_sub, Nat.sub_zero, Nat.sub_self, Nat.add_zero, Nat.zero_add, l129, k129_0, k129_1, k129_4, k129_7, k129_8, k129_9, k129_10, k129_11, k129_12, k129_14, k129_17, k129_18, k129_21, k129_23, k129_24, k129_25, k129_26, k129_27, k129_28, k129_31, k129_32, k129_33, k129_34, k129_37, k129_40, k129_41, k129_44, k129_45, k129_46, k129_49, k129_50, k129_51, k129_54, k129_55, k129_58, k129_59, k129_60, k129_63, k129_66, k129_67, k129_68, k129_71, k129_72, k129_73, k129_76, k129_77, k129_78, k129_79, k129_82, k129_85, k129_88, k129_89, k129_92, k129_95, k129_96, k129_97, k129_98, k129_101, k129_102, k129_103, k129_104, k129_107, k129_110, k129_113, k129_114, k129_117, k129_118, k129_119, k129_122, k129_125, k129_126, k129_127, k129_128, k129_129, k129_132, k129_133, k129_134, k129_137, k129_138, k129_139, k129_142, k129_143, k129_146, k129_149, k129_150, k129_151, k129_154, k129_155, k129_156, k129_159, k129_160, k129_161, k129_164, k129_167, k129_170, hM5.1]
    refine N_oreOf hM5 hm5 hn ?_
    rw [e5.f (show ¬ X_sec M (m + 2) by unfold X_sec; omega)]
    have y26 : am_I h3 M 26 = y.2.2.2.1 := by rw [GM, FM, if_neg (by omega), if_neg (by omega)]; exact dy.2.1
    simp only [am_ok_l, am_push_s]
    refine am_go 100 ?_
    simp only [vq_s, vq_0, vq_h, am_clr_eq, vq_1, vq_2, vq_3, vq_4, vq_5, vq_6, vq_7, vq_8, vq_9, vq_10, vq_11, vq_12, vq_13, vq_14, vq_15, vq_16, vq_17, vq_20, vq_21, vq_22, vq_23, vq_24, vq_25, vq_26, vq_27, vq_28, vq_29, vq_30, vq_31, vq_32, vq_33, vq_34, vq_35, vq_36, vq_37, vq_38, vq_39, vq_40, vq_41, vq_42, vq_43, vq_44, vq_45, vq_50, vq_51, vq_52, vq_53, vq_54, vq_55, vq_56, vq_57, vq_58, vq_59, vq_60, vq_61, vq_62, vq_63, vq_64, vq_70, vq_71, vq_72, vq_73, vq_74, vq_75, vq_76, vq_77, vq_78, vq_79, vq_80, vq_81, vq_85, vq_86, vq_87, vq_88, vq_89, vq_90, vq_91, vq_92, vq_93, vq_95, vq_96, vq_100, vq_101, vq_110, vq_111, vq_112, vq_113, vq_114, vq_200, vq_s1, vq_s2, vq_t1, vq_t2, vq_st, vq_r1, vq_sr, vq_ssr, vq_tsr, vq_v1, vq_v2, vq_e, vq_nln, vq_nli, vq_nlr, vq_nlf, vq_nlu, vq_isAr, vq_isAf, vq_isAu, vq_di, vq_dr, vq_df, vq_du, vq_dl, vq_sf, vq_f1, ie_m2_m1, ie_m2_0, ie_m2_1, ie_m2_2, ie_m2_3, ie_m2_4, ie_m2_8, ie_m2_20, ie_m1_m2, ie_m1_0, ie_m1_1, ie_m1_2, ie_m1_3, ie_m1_4, ie_m1_8, ie_m1_20, ie_0_m2, ie_0_m1, ie_0_1, ie_0_2, ie_0_3, ie_0_4, ie_0_8, ie_0_20, ie_1_m2, ie_1_m1, ie_1_0, ie_1_2, ie_1_3, ie_1_4, ie_1_8, ie_1_20, ie_2_m2, ie_2_m1, ie_2_0, ie_2_1, ie_2_3, ie_2_4, ie_2_8, ie_2_20, ie_3_m2, ie_3_m1, ie_3_0, ie_3_1, ie_3_2, ie_3_4, ie_3_8, ie_3_20, ie_4_m2, ie_4_m1, ie_4_0, ie_4_1, ie_4_2, ie_4_3, ie_4_8, ie_4_20, ie_8_m2, ie_8_m1, ie_8_0, ie_8_1, ie_8_2, ie_8_3, ie_8_4, ie_8_20, ie_20_m2, ie_20_m1, ie_20_0, ie_20_1, ie_20_2, ie_20_3, ie_20_4, ie_20_8, am_ne1, am_ne2, am_I_wI, am_L_wL, am_P_wP, Nat.reduceEqDiff, false_and, if_false, if_true, vq_rr, vq_rn, vq_li, vq_ll, vq_lar, vq_laf, vq_lan, vq_arr, vq_d0, vq_p0, vq_ps, am_get_0, am_get_s, am_set_0, am_set_s, am_rf_none, am_rf_some, am_S_wI, am_S_wL, am_S_wP, am_L_wI, am_P_wI, am_I_wL, am_P_wL, am_I_wP, am_L_wP, am_N_wI, am_N_wL, am_N_wP, am_ok_l, am_push_n, am_push_s, am_ent_nil, am_ent_i, am_ent_r, am_ent_f, am_ent_n, am_ent_l, not_true_eq_false, not_false_eq_true, false_implies, true_implies, implies_true, Int32.reduceAdd, Int32.reduceLT, Int32.reduceLE, true_or, or_true, eq_self, List.replicate_succ, List.replicate_zero, Nat.reduceSub, Nat.reduceAdd, Nat.reduceLeDiff, Nat.add_one_sub_one, Nat.add_sub_cancel, true_and, and_true, Nat.le_add_left, Nat.zero_sub, Nat.sub_zero, Nat.sub_self, Nat.add_zero, Nat.zero_add, l129, k129_0, k129_1, k129_4, k129_7, k129_8, k129_9, k129_10, k129_11, k129_12, k129_14, k129_17, k129_18, k129_21, k129_23, k129_24, k129_25, k129_26, k129_27, k129_28, k129_31, k129_32, k129_33, k129_34, k129_37, k129_40, k129_41, k129_44, k129_45, k129_46, k129_49, k129_50, k129_51, k129_54, k129_55, k129_58, k129_59, k129_60, k129_63, k129_66, k129_67, k129_68, k129_71, k129_72, k129_73, k129_76, k129_77, k129_78, k129_79, k129_82, k129_85, k129_88, k129_89, k129_92, k129_95, k129_96, k129_97, k129_98, k129_101, k129_102, k129_103, k129_104, k129_107, k129_110, k129_113, k129_114, k129_117, k129_118, k129_119, k129_122, k129_125, k129_126, k129_127, k129_128, k129_129, k129_132, k129_133, k129_134, k129_137, k129_138, k129_139, k129_142, k129_143, k129_146, k129_149, k129_150, k129_151, k129_154, k129_155, k129_156, k129_159, k129_160, k129_161, k129_164, k129_167, k129_170, hM5.1, mp_now hM5, y26]
    obtain ⟨h6, hh6⟩ : ∃ h6, h6 = am_wI h5 M 26 (y.2.2.2.1 + sp_loads (am_I h (m + 2)) (mv_arr h m n y.1) n) := ⟨_, rfl⟩
    rw [← hh6]
    have e6 : am_fr h h6 (X_sec M) := by rw [hh6]; exact e5.w (Or.inl rfl)
    have hM6 := hM.fr e6
    have hm6 := hm.xs hmx e6
    have R6 : ∀ q, q ≠ M → am_I h6 q = am_I h5 q := fun q hq => by funext j; rw [hh6, am_I_wI, if_neg (fun w => hq w.1)]
    have A6 : ∀ i, am_I h6 M i = if i = 26 then y.2.2.2.1 + sp_loads (am_I h (m + 2)) (mv_arr h m n y.1) n else am_I h4 M i := fun i => by
      rw [hh6, am_I_wI, A5]
      by_cases w : i = 26
      · rw [if_pos ⟨rfl, w⟩, if_pos w]
      · rw [if_neg (fun u => w u.2), if_neg w]
    clear hh6
    have r5 : ∀ i, am_I h6 (M + 12) i = if i < n ∧ am_I h3 (M + 12) i = am_I h m 0 then -1 else am_I h3 (M + 12) i := fun i => by
      rw [R6 (M + 12) (by omega), q5.2, R4 (M + 12) (by omega), m40]
    have r5a : e3 (am_I h6 (M + 12)) (sp_at2 (am_I h m 0) n (mv_go h m n y.1)) := fun i hi => by
      rw [r5, G12, sp_at2]
      by_cases w : i < n
      · rw [if_pos w]
      · have ego : mv_go h m n y.1 i = y.1 i := by unfold mv_go sp_go; rw [if_neg w]
        rw [if_neg w, if_neg (fun u => w u.1), if_neg (fun u => w u.1), ego]; exact b1 i hi
    have r5b : ∀ r, r < 3 → am_I h6 (M + 12) (3 + r) = y.2.1 r := fun r hr => by
      rw [r5, if_neg (by omega), G12, if_neg (by omega)]; exact (dy.1.1 r hr).2
    have r5c : am_I h6 (M + 12) 6 = y.2.2.1 := by
      rw [r5, if_neg (by omega), G12, if_neg (by omega)]; exact dy.1.2
    obtain ⟨aa, bb, ww, gd1, -⟩ := ok.1 h0
    refine N_run hM6 hm6 hn (ms_now hM6) (by omega) (by omega) (fun r hr => ⟨bb r, by have := (gd1 r (by omega)).2.2.2; omega, by rw [r5b r (by omega)]; exact (gd1 r (by omega)).2.2.1⟩) (fun h7 q7 => ?_)
    have e7 : am_fr h h7 (X_sec M) := e6.tr (q7.1.wk (fun q w => by unfold X_sec; omega)) (fun _ w => w)
    have hM7 := hM.fr e7
    have hm7 := hm.xs hmx e7
    have m7 : ∀ i, i ≤ 6 → am_I h7 (m + i) = am_I h (m + i) := fun i hi => e7.f (by unfold X_sec; omega)
    have m70 : am_I h7 m = am_I h m := m7 0 (by omega)
    have A7 : am_I h7 M = am_I h6 M := q7.1.f (by omega)
    simp only [am_ok_l, am_push_n]
    refine am_go 100 ?_
    simp only [vq_s, vq_0, vq_h, am_clr_eq, vq_1, vq_2, vq_3, vq_4, vq_5, vq_6, vq_7, vq_8, vq_9, vq_10, vq_11, vq_12, vq_13, vq_14, vq_15, vq_16, vq_17, vq_20, vq_21, vq_22, vq_23, vq_24, vq_25, vq_26, vq_27, vq_28, vq_29, vq_30, vq_31, vq_32, vq_33, vq_34, vq_35, vq_36, vq_37, vq_38, vq_39, vq_40, vq_41, vq_42, vq_43, vq_44, vq_45, vq_50, vq_51, vq_52, vq_53, vq_54, vq_55, vq_56, vq_57, vq_58, vq_59, vq_60, vq_61, vq_62, vq_63, vq_64, vq_70, vq_71, vq_72, vq_73, vq_74, vq_75, vq_76, vq_77, vq_78, vq_79, vq_80, vq_81, vq_85, vq_86, vq_87, vq_88, vq_89, vq_90, vq_91, vq_92, vq_93, vq_95, vq_96, vq_100, vq_101, vq_110, vq_111, vq_112, vq_113, vq_114, vq_200, vq_s1, vq_s2, vq_t1, vq_t2, vq_st, vq_r1, vq_sr, vq_ssr, vq_tsr, vq_v1, vq_v2, vq_e, vq_nln, vq_nli, vq_nlr, vq_nlf, vq_nlu, vq_isAr, vq_isAf, vq_isAu, vq_di, vq_dr, vq_df, vq_du, vq_dl, vq_sf, vq_f1, ie_m2_m1, ie_m2_0, ie_m2_1, ie_m2_2, ie_m2_3, ie_m2_4, ie_m2_8, ie_m2_20, ie_m1_m2, ie_m1_0, ie_m1_1, ie_m1_2, ie_m1_3, ie_m1_4, ie_m1_8, ie_m1_20, ie_0_m2, ie_0_m1, ie_0_1, ie_0_2, ie_0_3, ie_0_4, ie_0_8, ie_0_20, ie_1_m2, ie_1_m1, ie_1_0, ie_1_2, ie_1_3, ie_1_4, ie_1_8, ie_1_20, ie_2_m2, ie_2_m1, ie_2_0, ie_2_1, ie_2_3, ie_2_4, ie_2_8, ie_2_20, ie_3_m2, ie_3_m1, ie_3_0, ie_3_1, ie_3_2, ie_3_4, ie_3_8, ie_3_20, ie_4_m2, ie_4_m1, ie_4_0, ie_4_1, ie_4_2, ie_4_3, ie_4_8, ie_4_20, ie_8_m2, ie_8_m1, ie_8_0, ie_8_1, ie_8_2, ie_8_3, ie_8_4, ie_8_20, ie_20_m2, ie_20_m1, ie_20_0, ie_20_1, ie_20_2, ie_20_3, ie_20_4, ie_20_8, am_ne1, am_ne2, am_I_wI, am_L_wL, am_P_wP, Nat.reduceEqDiff, false_and, if_false, if_true, vq_rr, vq_rn, vq_li, vq_ll, vq_lar, vq_laf, vq_lan, vq_arr, vq_d0, vq_p0, vq_ps, am_get_0, am_get_s, am_set_0, am_set_s, am_rf_none, am_rf_some, am_S_wI, am_S_wL, am_S_wP, am_L_wI, am_P_wI, am_I_wL, am_P_wL, am_I_wP, am_L_wP, am_N_wI, am_N_wL, am_N_wP, am_ok_l, am_push_n, am_push_s, am_ent_nil, am_ent_i, am_ent_r, am_ent_f, am_ent_n, am_ent_l, not_true_eq_false, not_false_eq_true, false_implies, true_implies, implies_true, Int32.reduceAdd, Int32.reduceLT, Int32.reduceLE, true_or, or_true, eq_self, List.replicate_succ, List.replicate_zero, Nat.reduceSub, Nat.reduceAdd, Nat.reduceLeDiff, Nat.add_one_sub_one, Nat.add_sub_cancel, true_and, and_true, Nat.le_add_left, Nat.zero_sub, Nat.sub_zero, Nat.sub_self, Nat.add_zero, Nat.zero_add, l129, k129_0, k129_1, k129_4, k129_7, k129_8, k129_9, k129_10, k129_11, k129_12, k129_14, k129_17, k129_18, k129_21, k129_23, k129_24, k129_25, k129_26, k129_27, k129_28, k129_31, k129_32, k129_33, k129_34, k129_37, k129_40, k129_41, k129_44, k129_45, k129_46, k129_49, k129_50, k129_51, k129_54, k129_55, k129_58, k129_59, k129_60, k129_63, k129_66, k129_67, k129_68, k129_71, k129_72, k129_73, k129_76, k129_77, k129_78, k129_79, k129_82, k129_85, k129_88, k129_89, k129_92, k129_95, k129_96, k129_97, k129_98, k129_101, k129_102, k129_103, k129_104, k129_107, k129_110, k129_113, k129_114, k129_117, k129_118, k129_119, k129_122, k129_125, k129_126, k129_127, k129_128, k129_129, k129_132, k129_133, k129_134, k129_137, k129_138, k129_139, k129_142, k129_143, k129_146, k129_149, k129_150, k129_151, k129_154, k129_155, k129_156, k129_159, k129_160, k129_161, k129_164, k129_167, k129_170, hM7.1]
    have row7 : row_in h7 (M + 12) (sp_at2 (am_I h m 0) n (mv_go h m n y.1)) (sp_lf n y.2.1) y.2.2.1 := by
      refine ⟨fun r hr => ⟨?_, ?_⟩, ?_⟩
      · rw [q7.2, if_neg (by omega)]; exact r5a r hr
      · rw [q7.2, r5b r hr, sp_lf]
        by_cases w : r < n
        · rw [if_pos (by omega), if_pos w]
        · rw [if_neg (by omega), if_neg w]
      · rw [q7.2, if_neg (by omega)]; exact r5c
    have g2 := gl.go (h := h) (m := m) hg.2.1 hg.2.2.1 hgl
    have lt7 : md_lt (am_I h7 m 0) n (sp_at2 (am_I h m 0) n (mv_go h m n y.1)) := by rw [m70, hg.2.1]; rw [hg.2.1] at g2; exact g2.lt hg.2.2.1
    refine N_second_loop (l := l) (d := d + 1) (sl := sl) (s0 := (sp_at2 (am_I h m 0) n (mv_go h m n y.1), sp_lf n y.2.1, y.2.2.1, 0)) hM7 hm7 hn hmx (by rw [m70, hg.2.1]; exact nI_gt hL4 (by have := hg.2.2.1; omega)) (fun r hr => by rw [e7.f (show ¬ X_sec M (M + 13) by unfold X_sec; omega)]; exact hsl r hr) (fun h8 e8 row8 => ?_) n 0 h7 _ (by omega) am_fr.rf rfl row7 lt7
    have A8 : am_I h8 M = am_I h7 M := e8.f (by omega)
    rw [m70, m7 3 (by omega), m7 4 (by omega), m7 6 (by omega)] at row8
    obtain ⟨s1, s2, -, s3, s4⟩ := sd_slip (L := am_I h m 0) (needs := am_I h m 2) (pull := am_I h (m + 3)) (glass := am_I h (m + 4)) (rule := am_I h (m + 6)) (sl := sl) (s0 := (sp_at2 (am_I h m 0) n (mv_go h m n y.1), sp_lf n y.2.1, y.2.2.1, 0)) hn rfl n (Nat.le_refl _)
    have AM : ∀ i, am_I h8 M i = if i = 26 then y.2.2.2.1 + sp_loads (am_I h (m + 2)) (mv_arr h m n y.1) n else if i = 27 then 0 else if i = 25 then nI (y.2.2.2.2.2.1 + 1) else if i = 30 then nI (((sp_K y.1 y.2.1 y.2.2.1, y.2.2.2.1) :: y.2.2.2.2.2.2).take 300).length else am_I h M i := fun i => by rw [A8, A7, A6, A4, FM]
    refine hK h8 (e7.tr (e8.wk (fun q w => by unfold X_sec; omega)) (fun _ w => w)) (fun i i1 i2 i3 i4 => by rw [AM, if_neg i2, if_neg i3, if_neg i1, if_neg i4]) ?_
    unfold ds_by
    rw [if_pos z]
    refine ⟨⟨fun r hr => ⟨?_, ?_⟩, ?_⟩, ?_, ?_, ?_, ?_, ring3 h8 ?_ ?_⟩
    · rw [(row8.1 r hr).1, s1]; rfl
    · rw [(row8.1 r hr).2]
      show _ = ds_lf sl n (mv_pass h m n y.1 y.2.1 y.2.2.1) r
      unfold ds_lf
      by_cases w : r < n
      · rw [s4 r w]
        unfold mv_pass mv_sd
        by_cases u : ¬ ((sp_sd (am_I h m 0) (am_I h m 2) n (am_I h (m + 3)) (am_I h (m + 4)) (am_I h (m + 6)) (sp_at2 (am_I h m 0) n (mv_go h m n y.1), sp_lf n y.2.1, y.2.2.1, 0) n).2.2.2 >>> (nI r &&& 31)) &&& 1 = 0
        · rw [if_pos u, if_pos ⟨w, u⟩]
        · rw [if_neg u, if_neg (fun v => u v.2)]
      · rw [s3 r (by omega), if_neg (fun v => w v.1)]; rfl
    · rw [row8.2, s2]; rfl
    · rw [AM, if_pos rfl]
    · rw [AM, if_neg (by omega), if_pos rfl]
    · rw [AM, if_neg (by omega), if_neg (by omega), if_pos rfl]
    · rw [AM, if_neg (by omega), if_neg (by omega), if_neg (by omega), if_pos rfl]
    · rw [e8.f (by omega), q7.1.f (by omega), R6 _ (by omega), q5.1.f (by omega), R4 _ (by omega)]
    · rw [e8.f (by omega), q7.1.f (by omega), R6 _ (by omega), q5.1.f (by omega), R4 _ (by omega)]
  · have AM : ∀ i, am_I (am_wI h3 M 27 (mv_harm h m n y.1)) M i = if i = 27 then mv_harm h m n y.1 else if i = 25 then nI (y.2.2.2.2.2.1 + 1) else if i = 30 then nI (((sp_K y.1 y.2.1 y.2.2.1, y.2.2.2.1) :: y.2.2.2.2.2.2).take 300).length else am_I h M i := fun i => by
      rw [am_I_wI, GM, FM]
      by_cases w : i = 27
      · rw [if_pos ⟨rfl, w⟩, if_pos w]
      · rw [if_neg (fun u => w u.2), if_neg w]
    have R : ∀ q, q ≠ M → am_I (am_wI h3 M 27 (mv_harm h m n y.1)) q = am_I h3 q := fun q hq => by funext j; rw [am_I_wI, if_neg (fun w => hq w.1)]
    refine hK _ (e3'.w (Or.inl rfl)) (fun i i1 i2 i3 i4 => by rw [AM, if_neg i3, if_neg i1, if_neg i4]) ?_
    unfold ds_by
    rw [if_neg z]
    refine ⟨⟨fun r hr => ⟨?_, ?_⟩, ?_⟩, ?_, ?_, ?_, ?_, ring3 _ (R _ (by omega)) (R _ (by omega))⟩
    · rw [R _ (by omega), G12]
      by_cases w : r < n
      · rw [if_pos w]
      · have ego : mv_go h m n y.1 r = y.1 r := by unfold mv_go sp_go; rw [if_neg w]
        rw [if_neg w]; exact (b1 r hr).trans ego.symm
    · rw [R _ (by omega), G12, if_neg (by omega)]; exact (dy.1.1 r hr).2
    · rw [R _ (by omega), G12, if_neg (by omega)]; exact dy.1.2
    · rw [AM, if_neg (by omega), if_neg (by omega), if_neg (by omega)]; exact dy.2.1
    · rw [AM, if_pos rfl]
    · rw [AM, if_neg (by omega), if_pos rfl]
    · rw [AM, if_neg (by omega), if_neg (by omega), if_pos rfl]
end
