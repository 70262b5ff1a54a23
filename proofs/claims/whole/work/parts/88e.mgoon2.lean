/-! the model's goOn whole: its answer is the class's harm -/
theorem crowd_c {L H : Int32} {Wa Wb Na Nb : Nat → Int32} : ∀ k, (∀ a, a < k → (Wa a = -1 ↔ Wb a = -1)) → (∀ a, a < k → Na a = Nb a) → sp_crowd L H Wa Na k = sp_crowd L H Wb Nb k
  | 0, _, _ => rfl
  | k + 1, h1, h2 => by
    have i := crowd_c (L := L) (H := H) k (fun a ha => h1 a (by omega)) (fun a ha => h2 a (by omega))
    rw [sp_crowd, sp_crowd, i, h2 k (by omega)]
    by_cases e : Wa k = -1
    · rw [if_pos e, if_pos ((h1 k (by omega)).mp e)]
    · rw [if_neg e, if_neg (fun w => e ((h1 k (by omega)).mpr w))]
theorem pl_nI {L0 : Nat} {f : Nat → Int32} {i : Nat} (h : ∃ a, a ≤ L0 ∧ f (i / 2) = nI a) : ∃ b, b ≤ L0 ∧ sp_pl (nI L0) f i = nI b := by
  obtain ⟨a, ha, e⟩ := h
  unfold sp_pl
  rw [e]
  by_cases q : i % 2 = 0
  · rw [if_pos q]; exact ⟨a, ha, rfl⟩
  · rw [if_neg q, nI_sub ha]; exact ⟨L0 - a, by omega, rfl⟩
theorem pl_c {L : Int32} {f g : Nat → Int32} {i : Nat} (e : f (i / 2) = g (i / 2)) : sp_pl L f i = sp_pl L g i := by
  unfold sp_pl
  rw [e]
theorem nI_m1 {a : Nat} (ha : a ≤ 1000) : ¬ nI a = -1 := fun e => absurd e (by
  intro e
  have h1 : ¬ nI a < 0 := nI_nn (by omega)
  rw [e] at h1
  exact h1 (by decide))
section
variable {l : Am_L} {d : Nat} {h : Am_H} {M m n x L0 : Nat} {gs : Nat → Int32} {K : Am_R → Am_H → Prop}
def md_bd (h : Am_H) (m n x L0 : Nat) : Prop := ∀ r, r < n → ¬ am_I h x r = -1 → (∃ a, a ≤ L0 ∧ am_I h x r = nI a) ∧ ∃ a, a ≤ L0 ∧ mv_go h m n (am_I h x) r = nI a
theorem N_goOn (hM : is_Model h M) (hm : mdg gs h M m n) (hn : n ≤ 3) (hx : am_S h x = (2, 7)) (hxM : M + 9 < x) (hx14 : x ≠ M + 14) (hmx : m + 6 < M) (hk4 : md_k4 h m n) (hL : am_I h m 0 = nI L0) (hL0 : L0 ≤ 20) (hb : md_bd h m n x L0) (hK : ∀ h', q_mgo h h' m n M x n → K (.inl (some (.int (mv_harm h m n (am_I h x))))) h') : am_M l (d + 2) 0 0 130 [.ref M, .ref x] h K := by
  refine am_enter (mi := 130) (am_ckP_all 130 (by decide)) (Nat.le_of_ble_eq_true rfl) (by decide) ?_
  refine am_go 60 ?_
  simp only [vq_s, vq_0, vq_h, am_clr_eq, vq_1, vq_2, vq_3, vq_4, vq_5, vq_6, vq_7, vq_8, vq_9, vq_10, vq_11, vq_12, vq_13, vq_14, vq_15, vq_16, vq_17, vq_20, vq_21, vq_22, vq_23, vq_24, vq_25, vq_26, vq_27, vq_28, vq_29, vq_30, vq_31, vq_32, vq_33, vq_34, vq_35, vq_36, vq_37, vq_38, vq_39, vq_40, vq_41, vq_42, vq_43, vq_44, vq_45, vq_50, vq_51, vq_52, vq_53, vq_54, vq_55, vq_56, vq_57, vq_58, vq_59, vq_60, vq_61, vq_62, vq_63, vq_64, vq_70, vq_71, vq_72, vq_73, vq_74, vq_75, vq_76, vq_77, vq_78, vq_79, vq_80, vq_81, vq_85, vq_86, vq_87, vq_88, vq_89, vq_90, vq_91, vq_92, vq_93, vq_95, vq_96, vq_100, vq_101, vq_110, vq_111, vq_112, vq_113, vq_114, vq_200, vq_s1, vq_s2, vq_t1, vq_t2, vq_st, vq_r1, vq_sr, vq_ssr, vq_tsr, vq_v1, vq_v2, vq_e, vq_nln, vq_nli, vq_nlr, vq_nlf, vq_nlu, vq_isAr, vq_isAf, vq_isAu, vq_di, vq_dr, vq_df, vq_du, vq_dl, vq_sf, vq_f1, ie_m2_m1, ie_m2_0, ie_m2_1, ie_m2_2, ie_m2_3, ie_m2_4, ie_m2_8, ie_m2_20, ie_m1_m2, ie_m1_0, ie_m1_1, ie_m1_2, ie_m1_3, ie_m1_4, ie_m1_8, ie_m1_20, ie_0_m2, ie_0_m1, ie_0_1, ie_0_2, ie_0_3, ie_0_4, ie_0_8, ie_0_20, ie_1_m2, ie_1_m1, ie_1_0, ie_1_2, ie_1_3, ie_1_4, ie_1_8, ie_1_20, ie_2_m2, ie_2_m1, ie_2_0, ie_2_1, ie_2_3, ie_2_4, ie_2_8, ie_2_20, ie_3_m2, ie_3_m1, ie_3_0, ie_3_1, ie_3_2, ie_3_4, ie_3_8, ie_3_20, ie_4_m2, ie_4_m1, ie_4_0, ie_4_1, ie_4_2, ie_4_3, ie_4_8, ie_4_20, ie_8_m2, ie_8_m1, ie_8_0, ie_8_1, ie_8_2, ie_8_3, ie_8_4, ie_8_20, ie_20_m2, ie_20_m1, ie_20_0, ie_20_1, ie_20_2, ie_20_3, ie_20_4, ie_20_8, am_ne1, am_ne2, am_I_wI, am_L_wL, am_P_wP, Nat.reduceEqDiff, false_and, if_false, if_true, vq_rr, vq_rn, vq_li, vq_ll, vq_lar, vq_laf, vq_lan, vq_arr, vq_d0, vq_p0, vq_ps, am_get_0, am_get_s, am_set_0, am_set_s, am_rf_none, am_rf_some, am_S_wI, am_S_wL, am_S_wP, am_L_wI, am_P_wI, am_I_wL, am_P_wL, am_I_wP, am_L_wP, am_N_wI, am_N_wL, am_N_wP, am_ok_l, am_push_n, am_push_s, am_ent_nil, am_ent_i, am_ent_r, am_ent_f, am_ent_n, am_ent_l, not_true_eq_false, not_false_eq_true, false_implies, true_implies, implies_true, Int32.reduceAdd, Int32.reduceLT, Int32.reduceLE, true_or, or_true, eq_self, List.replicate_succ, List.replicate_zero, Nat.reduceSub, Nat.reduceAdd, Nat.reduceLeDiff, Nat.add_one_sub_one, Nat.add_sub_cancel, true_and, and_true, Nat.le_add_left, Nat.zero_sub, Nat.sub_zero, Nat.sub_self, Nat.add_zero, Nat.zero_add, l130, k130_0, k130_1, k130_2, k130_3, k130_4, k130_7, k130_8, k130_9, k130_12, k130_13, k130_16, k130_17, k130_18, k130_19, k130_20, k130_21, k130_22, k130_23, k130_24, k130_25, k130_28, k130_29, k130_30, k130_31, k130_34, k130_35, k130_36, k130_37, k130_38, k130_39, k130_40, k130_41, k130_42, k130_43, k130_44, k130_47, k130_48, k130_51, k130_52, k130_55, k130_58, k130_59, k130_60, k130_61, k130_62, k130_63, k130_64, k130_67, k130_68, k130_69, k130_72, k130_73, k130_76, k130_77, k130_78, k130_79, k130_82, k130_85, k130_86, k130_88, k130_90, k130_91, k130_94, k130_95, k130_96, k130_97, k130_99, k130_100, k130_101, k130_102, k130_105, k130_108, k130_111, k130_112, k130_115, k130_116, k130_117, k130_118, k130_119, k130_121, k130_123, k130_124, k130_127, k130_128, k130_129, k130_132, k130_133, k130_136, k130_138, k130_139, k130_140, k130_143, k130_146, k130_147, k130_149, k130_151, k130_152, k130_155, k130_157, k130_158, k130_161, k130_163, k130_165, k130_168, k130_169, k130_170, k130_172, k130_173, k130_176, k130_177, k130_178, k130_181, k130_182, k130_184, k130_185, k130_186, k130_187, k130_190, k130_191, k130_193, k130_194, k130_197, k130_199, k130_200, k130_203, k130_204, k130_206, k130_207, k130_209, k130_210, k130_213, k130_216, k130_219, k130_220, k130_221, k130_224, k130_227, k130_230, k130_233, k130_236, k130_239, k130_242, k130_245, k130_246, k130_247, k130_250, k130_251, k130_254, k130_255]
  refine N_goOn_a hM hm hn hx hxM hx14 hmx hk4 (fun h1 q1 => ?_) n 0 h (by omega) ⟨am_fr.rf, fun r hr => by omega, fun i => by rw [if_neg (by omega)]⟩
  have hM1 := hM.fr q1.1
  have hm1 := hm.fr q1.1 (fun i _ _ => by omega) (fun i _ => by omega)
  have hx1 : am_S h1 x = (2, 7) := by rw [q1.1.1]; exact hx
  have f0 : am_I h1 m = am_I h m := q1.1.f (by omega)
  have kk := hK h1 q1
  have eW : ∀ r, r < n → am_I h1 (M + 14) r = am_I h x r := q1.2.1
  have eN : ∀ r, r < n → am_I h1 x r = mv_go h m n (am_I h x) r := fun r hr => by rw [q1.2.2, if_pos hr]
  have w1 : ∀ a, a < 2 * n → (am_I h1 (M + 14) (a / 2) = -1 ↔ sp_W (am_I h m 0) (am_I h x) a = -1) := fun a ha => by
    rw [eW (a / 2) (by omega), sp_W]
    by_cases e : am_I h x (a / 2) = -1
    · rw [if_pos e]; exact ⟨fun _ => rfl, fun _ => e⟩
    · rw [if_neg e, hL]
      obtain ⟨b, hb1, hb2⟩ := pl_nI (i := a) (hb (a / 2) (by omega) e).1
      rw [hb2]
      exact ⟨fun w => absurd w e, fun w => absurd w (nI_m1 (by omega))⟩
  have mt : ∀ a b, a < 2 * n → b < 2 * n → ¬ am_I h1 (M + 14) (a / 2) = -1 → ¬ am_I h1 (M + 14) (b / 2) = -1 → (md_P h1 M m x a b ↔ sp_mt (am_I h m 0) (am_I h m 1) (sp_W (am_I h m 0) (am_I h x)) (sp_pl (am_I h m 0) (mv_go h m n (am_I h x))) b a) := fun a b ha hb0 wa wb => by
    have wa2 := wa
    have wb2 := wb
    rw [w1 a ha] at wa2
    rw [w1 b hb0] at wb2
    rw [eW (a / 2) (by omega)] at wa
    rw [eW (b / 2) (by omega)] at wb
    unfold md_P sp_mt
    rw [f0, pl_c (f := am_I h1 (M + 14)) (g := am_I h x) (eW (a / 2) (by omega)), pl_c (f := am_I h1 (M + 14)) (g := am_I h x) (eW (b / 2) (by omega)), pl_c (f := am_I h1 x) (g := mv_go h m n (am_I h x)) (eN (a / 2) (by omega)), pl_c (f := am_I h1 x) (g := mv_go h m n (am_I h x)) (eN (b / 2) (by omega))]
    have sa : sp_W (am_I h m 0) (am_I h x) a = sp_pl (am_I h m 0) (am_I h x) a := by rw [sp_W, if_neg wa]
    have sb : sp_W (am_I h m 0) (am_I h x) b = sp_pl (am_I h m 0) (am_I h x) b := by rw [sp_W, if_neg wb]
    obtain ⟨a1, a2, a3⟩ := pl_nI (i := a) (hb (a / 2) (by omega) wa).1
    obtain ⟨b1, b2, b3⟩ := pl_nI (i := b) (hb (b / 2) (by omega) wb).1
    obtain ⟨c1, c2, c3⟩ := pl_nI (i := a) (hb (a / 2) (by omega) wa).2
    obtain ⟨d1, d2, d3⟩ := pl_nI (i := b) (hb (b / 2) (by omega) wb).2
    have key : sp_meet (am_I h m 0) (am_I h m 1) (sp_pl (am_I h m 0) (am_I h x) a) (sp_pl (am_I h m 0) (mv_go h m n (am_I h x)) a) (sp_pl (am_I h m 0) (am_I h x) b) (sp_pl (am_I h m 0) (mv_go h m n (am_I h x)) b) ↔ sp_meet (am_I h m 0) (am_I h m 1) (sp_pl (am_I h m 0) (am_I h x) b) (sp_pl (am_I h m 0) (mv_go h m n (am_I h x)) b) (sp_pl (am_I h m 0) (am_I h x) a) (sp_pl (am_I h m 0) (mv_go h m n (am_I h x)) a) := by
      rw [hL, a3, b3, c3, d3]
      exact sp_meet_sy (by omega) (by omega) (by omega) (by omega)
    rw [sb] at wb2
    rw [sa] at wa2
    rw [sb, sa, key]
    exact ⟨fun t => ⟨wb2, wa2, t⟩, fun t => t.2.2⟩
  have z0 : md_cr h1 M m x (2 * 0) = 0 := rfl
  have g := N_scan_r (l := l) (d := d) (K := K) hM1 hm1 hn hx1 (fun a b b1 b2 wa t => ?_) (fun w => ?_) n 0 none none none (by omega) (fun a ha => by omega)
  · rw [z0] at g; exact g
  · have : sp_hm (am_I h m 0) (am_I h m 1) (sp_W (am_I h m 0) (am_I h x)) (sp_pl (am_I h m 0) (mv_go h m n (am_I h x))) n := ⟨b, a, b1, b2, (mt a b (by omega) b2 wa t.1).mp t.2⟩
    rw [mv_harm, sp_harm, if_pos this] at kk
    exact kk
  · have no : ¬ sp_hm (am_I h m 0) (am_I h m 1) (sp_W (am_I h m 0) (am_I h x)) (sp_pl (am_I h m 0) (mv_go h m n (am_I h x))) n := by
      rintro ⟨b, a, b1, b2, t⟩
      have wa : ¬ am_I h1 (M + 14) (a / 2) = -1 := fun w => t.2.1 ((w1 a (by omega)).mp w)
      have wb : ¬ am_I h1 (M + 14) (b / 2) = -1 := fun w => t.1 ((w1 b b2).mp w)
      exact w a b b1 b2 wa ⟨wb, (mt a b (by omega) b2 wa wb).mpr t⟩
    have cc : md_cr h1 M m x (2 * n) = sp_crowd (am_I h m 0) (am_I h m 1) (sp_W (am_I h m 0) (am_I h x)) (sp_pl (am_I h m 0) (mv_go h m n (am_I h x))) (2 * n) := by
      unfold md_cr
      rw [f0]
      exact crowd_c (2 * n) w1 (fun a ha => pl_c (eN (a / 2) (by omega)))
    rw [mv_harm, sp_harm, if_neg no, ← cc] at kk
    exact kk
end
