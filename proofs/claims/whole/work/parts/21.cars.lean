/-! Cars -/
/-- all but the ints of the cells X stays -/
def am_fr (h h' : Am_H) (X : Nat → Prop) : Prop := am_S h' = am_S h ∧ am_P h' = am_P h ∧ am_L h' = am_L h ∧ am_N h' = am_N h ∧ ∀ q, ¬ X q → ∀ j, am_I h' q j = am_I h q j
theorem am_fr.rf {h : Am_H} {X : Nat → Prop} : am_fr h h X := ⟨rfl, rfl, rfl, rfl, fun _ _ _ => rfl⟩
theorem am_fr.w {h h' : Am_H} {X : Nat → Prop} (hf : am_fr h h' X) {o k : Nat} {x : Int32} (ho : X o) : am_fr h (am_wI h' o k x) X :=
  ⟨hf.1, hf.2.1, hf.2.2.1, hf.2.2.2.1, fun q hq j => by rw [am_I_wI, if_neg (fun (z : q = o ∧ j = k) => hq (by rw [z.1]; exact ho))]; exact hf.2.2.2.2 q hq j⟩
theorem am_fr.tr {h h1 h2 : Am_H} {X Y : Nat → Prop} (a : am_fr h h1 X) (b : am_fr h1 h2 Y) (hX : ∀ q, X q → Y q) : am_fr h h2 Y :=
  ⟨b.1.trans a.1, b.2.1.trans a.2.1, b.2.2.1.trans a.2.2.1, b.2.2.2.1.trans a.2.2.2.1, fun q hq j => (b.2.2.2.2 q hq j).trans (a.2.2.2.2 q (fun z => hq (hX q z)) j)⟩
theorem am_fr.wk {h h' : Am_H} {X Y : Nat → Prop} (a : am_fr h h' X) (hX : ∀ q, X q → Y q) : am_fr h h' Y := ⟨a.1, a.2.1, a.2.2.1, a.2.2.2.1, fun q hq j => a.2.2.2.2 q (fun z => hq (hX q z)) j⟩
def is_Cars (h : Am_H) (c : Nat) : Prop := am_S h c = (1, 0) ∧ (am_P h c 0 = some (c + 1) ∧ am_P h c 1 = some (c + 2) ∧ am_P h c 2 = some (c + 3) ∧ am_P h c 3 = some (c + 4)) ∧ am_S h (c + 1) = (2, 3) ∧ am_S h (c + 2) = (2, 3) ∧ am_S h (c + 3) = (2, 6) ∧ am_S h (c + 4) = (2, 6)
theorem is_Cars.fr {h h' : Am_H} {X : Nat → Prop} {c : Nat} (a : is_Cars h c) (b : am_fr h h' X) : is_Cars h' c := by
  unfold is_Cars
  rw [b.1, b.2.1]
  exact a
theorem is_Mine.fr {h h' : Am_H} {X : Nat → Prop} {c : Nat} (a : is_Mine h c) (b : am_fr h h' X) : is_Mine h' c := by
  unfold is_Mine
  rw [b.1, b.2.1]
  exact a
section
variable {l : Am_L} {d : Nat} {h : Am_H} {m c n : Nat} {K : Am_R → Am_H → Prop}
/-- a Mine whose ropes are n at most three -/
def is_MineN (h : Am_H) (m n : Nat) : Prop := is_Mine h m ∧ n ≤ 3 ∧ am_I h m 4 = nI n
def q_first (h h' : Am_H) (m c n k : Nat) : Prop := am_fr h h' (fun q => q = c ∨ q = c + 1 ∨ q = c + 2) ∧ (∀ i, am_I h' (c + 1) i = if i < k then -1 else am_I h (c + 1) i) ∧ (∀ i, am_I h' (c + 2) i = if i < k then (if i < n then am_I h (m + 4) i else 0) else am_I h (c + 2) i)
set_option maxHeartbeats 1000000 in
theorem M_first_loop (hc : is_Cars h c) (hm : is_MineN h m n) (hmc : m + 6 < c) (hK : ∀ h', q_first h h' m c n 3 → (∀ i, am_I h' c i = if i = 4 then -1 else am_I h c i) → K (.inl none) h') : ∀ (j k : Nat) (hk : Am_H), k + j = 3 → q_first h hk m c n k → (∀ i, am_I hk c i = am_I h c i) → am_J l 1 d 0 0 2 [some (.ref c), some (.ref m), some (.int (nI k))] [] hk K := by
  obtain ⟨s0, ⟨p1, p2, p3, p4⟩, s1, s2, s3, s4⟩ := hc
  obtain ⟨⟨t0, ⟨r1, r2, r3, r4, r5, r6⟩, t1, t2, t3, t4, t5, t6⟩, hn, hr⟩ := hm
  intro j
  induction j with
  | zero =>
    intro k hk hkj hq hl
    have : k = 3 := by omega
    subst this
    obtain ⟨e, q1, q2⟩ := hq
    refine am_go 100 ?_
    simp only [vq_s, vq_0, vq_h, am_clr_eq, vq_1, vq_2, vq_3, vq_4, vq_5, vq_6, vq_7, vq_8, vq_9, vq_10, vq_11, vq_12, vq_13, vq_14, vq_15, vq_16, vq_17, vq_20, vq_21, vq_22, vq_23, vq_24, vq_25, vq_26, vq_27, vq_28, vq_29, vq_30, vq_31, vq_32, vq_33, vq_34, vq_35, vq_36, vq_37, vq_38, vq_39, vq_40, vq_41, vq_42, vq_43, vq_44, vq_45, vq_50, vq_51, vq_52, vq_53, vq_54, vq_55, vq_56, vq_57, vq_58, vq_59, vq_60, vq_61, vq_62, vq_63, vq_64, vq_70, vq_71, vq_72, vq_73, vq_74, vq_75, vq_76, vq_77, vq_78, vq_79, vq_80, vq_81, vq_85, vq_86, vq_87, vq_88, vq_89, vq_90, vq_91, vq_92, vq_93, vq_95, vq_96, vq_100, vq_101, vq_110, vq_111, vq_112, vq_113, vq_114, vq_200, vq_s1, vq_s2, vq_t1, vq_t2, vq_st, vq_r1, vq_sr, vq_ssr, vq_tsr, vq_v1, vq_v2, vq_e, vq_nln, vq_nli, vq_nlr, vq_nlf, vq_nlu, vq_isAr, vq_isAf, vq_isAu, vq_di, vq_dr, vq_df, vq_du, vq_dl, vq_sf, vq_f1, ie_m2_m1, ie_m2_0, ie_m2_1, ie_m2_2, ie_m2_3, ie_m2_4, ie_m2_8, ie_m2_20, ie_m1_m2, ie_m1_0, ie_m1_1, ie_m1_2, ie_m1_3, ie_m1_4, ie_m1_8, ie_m1_20, ie_0_m2, ie_0_m1, ie_0_1, ie_0_2, ie_0_3, ie_0_4, ie_0_8, ie_0_20, ie_1_m2, ie_1_m1, ie_1_0, ie_1_2, ie_1_3, ie_1_4, ie_1_8, ie_1_20, ie_2_m2, ie_2_m1, ie_2_0, ie_2_1, ie_2_3, ie_2_4, ie_2_8, ie_2_20, ie_3_m2, ie_3_m1, ie_3_0, ie_3_1, ie_3_2, ie_3_4, ie_3_8, ie_3_20, ie_4_m2, ie_4_m1, ie_4_0, ie_4_1, ie_4_2, ie_4_3, ie_4_8, ie_4_20, ie_8_m2, ie_8_m1, ie_8_0, ie_8_1, ie_8_2, ie_8_3, ie_8_4, ie_8_20, ie_20_m2, ie_20_m1, ie_20_0, ie_20_1, ie_20_2, ie_20_3, ie_20_4, ie_20_8, am_ne1, am_ne2, am_I_wI, am_L_wL, am_P_wP, Nat.reduceEqDiff, false_and, if_false, if_true, vq_rr, vq_rn, vq_li, vq_ll, vq_lar, vq_laf, vq_lan, vq_arr, vq_d0, vq_p0, vq_ps, am_get_0, am_get_s, am_set_0, am_set_s, am_rf_none, am_rf_some, am_S_wI, am_S_wL, am_S_wP, am_L_wI, am_P_wI, am_I_wL, am_P_wL, am_I_wP, am_L_wP, am_N_wI, am_N_wL, am_N_wP, am_ok_l, am_push_n, am_push_s, am_ent_nil, am_ent_i, am_ent_r, am_ent_f, am_ent_n, am_ent_l, not_true_eq_false, not_false_eq_true, false_implies, true_implies, implies_true, Int32.reduceAdd, Int32.reduceLT, Int32.reduceLE, true_or, or_true, eq_self, List.replicate_succ, List.replicate_zero, Nat.reduceSub, Nat.reduceAdd, Nat.reduceLeDiff, Nat.add_one_sub_one, Nat.add_sub_cancel, true_and, and_true, Nat.le_add_left, Nat.zero_sub, Nat.sub_zero, Nat.sub_self, Nat.add_zero, Nat.zero_add, l1, k1_0, k1_1, k1_2, k1_3, k1_4, k1_7, k1_8, k1_11, k1_12, k1_13, k1_14, k1_15, k1_18, k1_19, k1_20, k1_21, k1_24, k1_27, k1_28, k1_31, k1_32, k1_33, k1_36, k1_37, k1_38, k1_41, k1_44, k1_45, k1_46, k1_49, e.1, e.2.1, s0, p1, p2, s1, s2, t0, r4, t4, hr]
    refine ⟨fun _ => hK _ ⟨e.w (Or.inl rfl), fun i => ?_, fun i => ?_⟩ (fun i => ?_), fun z => absurd (Int32.le_refl 3) z⟩
    · grind [am_I_wI]
    · grind [am_I_wI]
    · grind [am_I_wI]
  | succ j ih =>
    intro k hk hkj hq hl
    have hck : (nI k).toNatClampNeg = k := nI_clamp (by omega)
    obtain ⟨e, q1, q2⟩ := hq
    have hm4 : am_I hk m 4 = nI n := (e.2.2.2.2 m (by omega) 4).trans hr
    have hmg : am_I hk (m + 4) k = am_I h (m + 4) k := e.2.2.2.2 (m + 4) (by omega) k
    have hv : vp_in (nI k) 3 := vp_in_nI (by omega) (by omega)
    have xz : ∀ j, (m = c + j) = False := fun j => eq_false (by omega)
    have x0 : (m = c) = False := eq_false (by omega)
    have x1 : (m + 1 = c) = False := eq_false (by omega)
    have x2 : (m + 2 = c) = False := eq_false (by omega)
    have x3 : (m + 3 = c) = False := eq_false (by omega)
    have x4 : (m + 4 = c) = False := eq_false (by omega)
    have x5 : (m + 5 = c) = False := eq_false (by omega)
    have x6 : (m + 6 = c) = False := eq_false (by omega)
    refine am_go 100 ?_
    simp only [vq_s, vq_0, vq_h, am_clr_eq, vq_1, vq_2, vq_3, vq_4, vq_5, vq_6, vq_7, vq_8, vq_9, vq_10, vq_11, vq_12, vq_13, vq_14, vq_15, vq_16, vq_17, vq_20, vq_21, vq_22, vq_23, vq_24, vq_25, vq_26, vq_27, vq_28, vq_29, vq_30, vq_31, vq_32, vq_33, vq_34, vq_35, vq_36, vq_37, vq_38, vq_39, vq_40, vq_41, vq_42, vq_43, vq_44, vq_45, vq_50, vq_51, vq_52, vq_53, vq_54, vq_55, vq_56, vq_57, vq_58, vq_59, vq_60, vq_61, vq_62, vq_63, vq_64, vq_70, vq_71, vq_72, vq_73, vq_74, vq_75, vq_76, vq_77, vq_78, vq_79, vq_80, vq_81, vq_85, vq_86, vq_87, vq_88, vq_89, vq_90, vq_91, vq_92, vq_93, vq_95, vq_96, vq_100, vq_101, vq_110, vq_111, vq_112, vq_113, vq_114, vq_200, vq_s1, vq_s2, vq_t1, vq_t2, vq_st, vq_r1, vq_sr, vq_ssr, vq_tsr, vq_v1, vq_v2, vq_e, vq_nln, vq_nli, vq_nlr, vq_nlf, vq_nlu, vq_isAr, vq_isAf, vq_isAu, vq_di, vq_dr, vq_df, vq_du, vq_dl, vq_sf, vq_f1, ie_m2_m1, ie_m2_0, ie_m2_1, ie_m2_2, ie_m2_3, ie_m2_4, ie_m2_8, ie_m2_20, ie_m1_m2, ie_m1_0, ie_m1_1, ie_m1_2, ie_m1_3, ie_m1_4, ie_m1_8, ie_m1_20, ie_0_m2, ie_0_m1, ie_0_1, ie_0_2, ie_0_3, ie_0_4, ie_0_8, ie_0_20, ie_1_m2, ie_1_m1, ie_1_0, ie_1_2, ie_1_3, ie_1_4, ie_1_8, ie_1_20, ie_2_m2, ie_2_m1, ie_2_0, ie_2_1, ie_2_3, ie_2_4, ie_2_8, ie_2_20, ie_3_m2, ie_3_m1, ie_3_0, ie_3_1, ie_3_2, ie_3_4, ie_3_8, ie_3_20, ie_4_m2, ie_4_m1, ie_4_0, ie_4_1, ie_4_2, ie_4_3, ie_4_8, ie_4_20, ie_8_m2, ie_8_m1, ie_8_0, ie_8_1, ie_8_2, ie_8_3, ie_8_4, ie_8_20, ie_20_m2, ie_20_m1, ie_20_0, ie_20_1, ie_20_2, ie_20_3, ie_20_4, ie_20_8, am_ne1, am_ne2, am_I_wI, am_L_wL, am_P_wP, Nat.reduceEqDiff, false_and, if_false, if_true, vq_rr, vq_rn, vq_li, vq_ll, vq_lar, vq_laf, vq_lan, vq_arr, vq_d0, vq_p0, vq_ps, am_get_0, am_get_s, am_set_0, am_set_s, am_rf_none, am_rf_some, am_S_wI, am_S_wL, am_S_wP, am_L_wI, am_P_wI, am_I_wL, am_P_wL, am_I_wP, am_L_wP, am_N_wI, am_N_wL, am_N_wP, am_ok_l, am_push_n, am_push_s, am_ent_nil, am_ent_i, am_ent_r, am_ent_f, am_ent_n, am_ent_l, not_true_eq_false, not_false_eq_true, false_implies, true_implies, implies_true, Int32.reduceAdd, Int32.reduceLT, Int32.reduceLE, true_or, or_true, eq_self, List.replicate_succ, List.replicate_zero, Nat.reduceSub, Nat.reduceAdd, Nat.reduceLeDiff, Nat.add_one_sub_one, Nat.add_sub_cancel, true_and, and_true, Nat.le_add_left, Nat.zero_sub, Nat.sub_zero, Nat.sub_self, Nat.add_zero, Nat.zero_add, l1, k1_0, k1_1, k1_2, k1_3, k1_4, k1_7, k1_8, k1_11, k1_12, k1_13, k1_14, k1_15, k1_18, k1_19, k1_20, k1_21, k1_24, k1_27, k1_28, k1_31, k1_32, k1_33, k1_36, k1_37, k1_38, k1_41, k1_44, k1_45, k1_46, k1_49, e.1, e.2.1, s0, p1, p2, s1, s2, t0, r4, t4, hm4, hck, hmg, nI_1, xz, x0, x1, x2, x3, x4, x5, x6]
    refine ⟨fun z => absurd z (nI_ge (b := 3) (by omega) (by omega)), fun _ => ⟨hv, fun z => ⟨hv, ?_⟩, fun z => ⟨hv, hv, ?_⟩⟩⟩
    · have hnk : n ≤ k := (nI_leI (by omega) (by omega)).mp z
      refine ih (k + 1) _ (by omega) ⟨(e.w (Or.inr (Or.inl rfl))).w (Or.inr (Or.inr rfl)), fun i => ?_, fun i => ?_⟩ (fun i => ?_)
      · grind [am_I_wI]
      · grind [am_I_wI]
      · grind [am_I_wI]
    · have hnk : ¬ n ≤ k := fun q => z ((nI_leI (by omega) (by omega)).mpr q)
      refine ih (k + 1) _ (by omega) ⟨(e.w (Or.inr (Or.inl rfl))).w (Or.inr (Or.inr rfl)), fun i => ?_, fun i => ?_⟩ (fun i => ?_)
      · grind [am_I_wI]
      · grind [am_I_wI]
      · grind [am_I_wI]
theorem M_first (hc : is_Cars h c) (hm : is_MineN h m n) (hmc : m + 6 < c) (hK : ∀ h', q_first h h' m c n 3 → (∀ i, am_I h' c i = if i = 4 then -1 else am_I h c i) → K (.inl none) h') : am_M l d 0 0 1 [.ref c, .ref m] h K := by
  refine am_enter (mi := 1) (am_ckP_all 1 (by decide)) (Nat.le_of_ble_eq_true rfl) (by decide) ?_
  refine am_go 100 ?_
  simp only [vq_s, vq_0, vq_h, am_clr_eq, vq_1, vq_2, vq_3, vq_4, vq_5, vq_6, vq_7, vq_8, vq_9, vq_10, vq_11, vq_12, vq_13, vq_14, vq_15, vq_16, vq_17, vq_20, vq_21, vq_22, vq_23, vq_24, vq_25, vq_26, vq_27, vq_28, vq_29, vq_30, vq_31, vq_32, vq_33, vq_34, vq_35, vq_36, vq_37, vq_38, vq_39, vq_40, vq_41, vq_42, vq_43, vq_44, vq_45, vq_50, vq_51, vq_52, vq_53, vq_54, vq_55, vq_56, vq_57, vq_58, vq_59, vq_60, vq_61, vq_62, vq_63, vq_64, vq_70, vq_71, vq_72, vq_73, vq_74, vq_75, vq_76, vq_77, vq_78, vq_79, vq_80, vq_81, vq_85, vq_86, vq_87, vq_88, vq_89, vq_90, vq_91, vq_92, vq_93, vq_95, vq_96, vq_100, vq_101, vq_110, vq_111, vq_112, vq_113, vq_114, vq_200, vq_s1, vq_s2, vq_t1, vq_t2, vq_st, vq_r1, vq_sr, vq_ssr, vq_tsr, vq_v1, vq_v2, vq_e, vq_nln, vq_nli, vq_nlr, vq_nlf, vq_nlu, vq_isAr, vq_isAf, vq_isAu, vq_di, vq_dr, vq_df, vq_du, vq_dl, vq_sf, vq_f1, ie_m2_m1, ie_m2_0, ie_m2_1, ie_m2_2, ie_m2_3, ie_m2_4, ie_m2_8, ie_m2_20, ie_m1_m2, ie_m1_0, ie_m1_1, ie_m1_2, ie_m1_3, ie_m1_4, ie_m1_8, ie_m1_20, ie_0_m2, ie_0_m1, ie_0_1, ie_0_2, ie_0_3, ie_0_4, ie_0_8, ie_0_20, ie_1_m2, ie_1_m1, ie_1_0, ie_1_2, ie_1_3, ie_1_4, ie_1_8, ie_1_20, ie_2_m2, ie_2_m1, ie_2_0, ie_2_1, ie_2_3, ie_2_4, ie_2_8, ie_2_20, ie_3_m2, ie_3_m1, ie_3_0, ie_3_1, ie_3_2, ie_3_4, ie_3_8, ie_3_20, ie_4_m2, ie_4_m1, ie_4_0, ie_4_1, ie_4_2, ie_4_3, ie_4_8, ie_4_20, ie_8_m2, ie_8_m1, ie_8_0, ie_8_1, ie_8_2, ie_8_3, ie_8_4, ie_8_20, ie_20_m2, ie_20_m1, ie_20_0, ie_20_1, ie_20_2, ie_20_3, ie_20_4, ie_20_8, am_ne1, am_ne2, am_I_wI, am_L_wL, am_P_wP, Nat.reduceEqDiff, false_and, if_false, if_true, vq_rr, vq_rn, vq_li, vq_ll, vq_lar, vq_laf, vq_lan, vq_arr, vq_d0, vq_p0, vq_ps, am_get_0, am_get_s, am_set_0, am_set_s, am_rf_none, am_rf_some, am_S_wI, am_S_wL, am_S_wP, am_L_wI, am_P_wI, am_I_wL, am_P_wL, am_I_wP, am_L_wP, am_N_wI, am_N_wL, am_N_wP, am_ok_l, am_push_n, am_push_s, am_ent_nil, am_ent_i, am_ent_r, am_ent_f, am_ent_n, am_ent_l, not_true_eq_false, not_false_eq_true, false_implies, true_implies, implies_true, Int32.reduceAdd, Int32.reduceLT, Int32.reduceLE, true_or, or_true, eq_self, List.replicate_succ, List.replicate_zero, Nat.reduceSub, Nat.reduceAdd, Nat.reduceLeDiff, Nat.add_one_sub_one, Nat.add_sub_cancel, true_and, and_true, Nat.le_add_left, Nat.zero_sub, Nat.sub_zero, Nat.sub_self, Nat.add_zero, Nat.zero_add, l1, k1_0, k1_1, k1_2, k1_3, k1_4, k1_7, k1_8, k1_11, k1_12, k1_13, k1_14, k1_15, k1_18, k1_19, k1_20, k1_21, k1_24, k1_27, k1_28, k1_31, k1_32, k1_33, k1_36, k1_37, k1_38, k1_41, k1_44, k1_45, k1_46, k1_49]
  exact M_first_loop hc hm hmc hK 3 0 h (by omega) ⟨am_fr.rf, fun i => by simp, fun i => by simp⟩ (fun i => rfl)
end
