/-! Fitter.rowsFrom -/
/-- those that may slip: a set of ropes whose glasses stand at their turn -/
def kb (n key B : Nat) : Prop := B < 8 ∧ B ≠ 0 ∧ (∀ r, B.testBit r = true → r < n ∧ lf_n key r ≤ 30) ∧ key + B * 2 ^ 33 < 2 ^ 40
theorem sp_K_lt {at_ left : Nat → Int32} {last : Int32} (hg : sp_gd at_ left last) : sp_K at_ left last < 2 ^ 35 := by
  obtain ⟨hr, hw, hw4⟩ := sp_gd_fit hg
  obtain ⟨-, a0, -, b0⟩ := hr 0 (by omega)
  obtain ⟨-, a1, -, b1⟩ := hr 1 (by omega)
  obtain ⟨-, a2, -, b2⟩ := hr 2 (by omega)
  unfold sp_K sp_keyN
  generalize (fun r => (at_ r + 1).toNatClampNeg) = a at *
  generalize (fun r => (left r).toNatClampNeg) = b at *
  generalize (last + 1).toNatClampNeg = w at *
  omega
def H_bt (l : Am_L) (k : Nat) : Prop := ∀ (d : Nat) (h : Am_H) (K : Am_R → Am_H → Prop) (T m n L key B s de t e : Nat), is_Fitter h T → is_Good h m n L → m + 6 < T → gk key → kb n key B → s ≤ 200 → am_I h T 2 = nI e → e ≤ 200 → am_I h T 3 = nI t → t ≤ 20001 → k + de = 41 → (∀ h' x, q_fit h h' T t (FB h m n (am_I h (T + 6)) e k key B s) x → K (.inl (some (.int x))) h') → am_M l (d + 2 * k + 5) 0 0 30 [.ref T, .ref m, .long (lN key), .int (nI s), .int (nI B), .int (nI de)] h K
theorem fw_eq {h h' : Am_H} {m n : Nat} {told : Nat → Int32} {e : Nat} (e0 : am_I h' m = am_I h m) (e1 : am_I h' (m + 1) = am_I h (m + 1)) (e3 : am_I h' (m + 3) = am_I h (m + 3)) (e4 : am_I h' (m + 4) = am_I h (m + 4)) (e6 : am_I h' (m + 6) = am_I h (m + 6)) : ∀ (j s : Nat) (f g : Nat → Int32) (x : Int32), fw h' m n told e j s f g x = fw h m n told e j s f g x := by
  intro j
  induction j with
  | zero => intro s f g x; rfl
  | succ j ih =>
    intro s f g x
    rw [fw, fw, mv_harm_eq e0 e1 e3, mv_arr_eq e0 e1 e3, mv_pass_eq e0 e1 e3 e4 e6, ih]
theorem FB_eq {h h' : Am_H} {m n : Nat} {told : Nat → Int32} {e : Nat} (e0 : am_I h' m = am_I h m) (e1 : am_I h' (m + 1) = am_I h (m + 1)) (e3 : am_I h' (m + 3) = am_I h (m + 3)) (e4 : am_I h' (m + 4) = am_I h (m + 4)) (e5 : am_I h' (m + 5) = am_I h (m + 5)) (e6 : am_I h' (m + 6) = am_I h (m + 6)) : ∀ (k key B s : Nat), FB h' m n told e k key B s = FB h m n told e k key B s := by
  intro k
  induction k with
  | zero => intro key B s; rfl
  | succ k ih =>
    intro key B s
    rw [FB, FB, e5]
    congr 1
    funext slip
    rw [fw_eq e0 e1 e3 e4 e6]
    simp only [ih]
section
variable {l : Am_L} {d : Nat} {h : Am_H} {m c n T L : Nat} {K : Am_R → Am_H → Prop}
theorem M_rowsFrom_loop {k key s0 de t e : Nat} {V : Nat × Nat} (hk : H_bt l k) (hT : is_Fitter h T) (hm : is_Good h m n L) (hmT : m + 6 < T) (he : am_I h T 2 = nI e) (he2 : e ≤ 200) (ht : am_I h T 3 = nI t) (ht2 : t ≤ 20001) (hde : k + de = 41) (hK : ∀ h' x, q_fit h h' T t V x → K (.inl (some (.int x))) h') : ∀ (j s : Nat) (h2 : Am_H), s + j = 202 → am_fr h h2 (X_cars (T + 1)) → sp_gd (am_I h2 (T + 2)) (am_I h2 (T + 3)) (am_I h2 (T + 1) 4) → (match fw h m n (am_I h (T + 6)) e j s (am_I h2 (T + 2)) (am_I h2 (T + 3)) (am_I h2 (T + 1) 4) with
  | .inl r => (r, 0)
  | .inr (s', p) => FB h m n (am_I h (T + 6)) e k (sp_K p.1 p.2.1 p.2.2.1) p.2.2.2.toNatClampNeg s') = V → am_J l 29 (d + 2 * k + 6) 0 0 14 [some (.ref T), some (.ref m), some (.long (lN key)), none, some (.int (nI s0)), some (.int (nI de)), some (.int (nI s))] [] h2 K := by
  have xm : ∀ i, i ≤ 6 → ¬ X_cars (T + 1) (m + i) := fun i hi => by unfold X_cars; omega
  have fin : ∀ (h2 : Am_H) (x : Nat), am_fr h h2 (X_cars (T + 1)) → V.1 = x → V.2 = 0 → K (.inl (some (.int (nI x)))) h2 := by
    intro h2 x e2 v1 v2
    refine hK h2 _ ⟨e2.wk (fun q z => by unfold X_cars at z; exact ⟨by omega, by omega⟩), e2.2.2.2.2 T (by unfold X_cars; omega) 2, t, (e2.2.2.2.2 T (by unfold X_cars; omega) 3).trans ht, Nat.le_refl _, ht2, fun _ => ⟨by rw [v1], by omega⟩, fun w => by omega⟩
  intro j
  induction j with
  | zero =>
    intro s h2 hs e2 hg hV
    have hT2 := hT.fq (e2.q (fun _ => False))
    have he' : am_I h2 T 2 = nI e := (e2.2.2.2.2 T (by unfold X_cars; omega) 2).trans he
    refine am_go 100 ?_
    simp only [vq_s, vq_0, vq_h, am_clr_eq, vq_1, vq_2, vq_3, vq_4, vq_5, vq_6, vq_7, vq_8, vq_9, vq_10, vq_11, vq_12, vq_13, vq_14, vq_15, vq_16, vq_17, vq_20, vq_21, vq_22, vq_23, vq_24, vq_25, vq_26, vq_27, vq_28, vq_29, vq_30, vq_31, vq_32, vq_33, vq_34, vq_35, vq_36, vq_37, vq_38, vq_39, vq_40, vq_41, vq_42, vq_43, vq_44, vq_45, vq_50, vq_51, vq_52, vq_53, vq_54, vq_55, vq_56, vq_57, vq_58, vq_59, vq_60, vq_61, vq_62, vq_63, vq_64, vq_70, vq_71, vq_72, vq_73, vq_74, vq_75, vq_76, vq_77, vq_78, vq_79, vq_80, vq_81, vq_85, vq_86, vq_87, vq_88, vq_89, vq_90, vq_91, vq_92, vq_93, vq_95, vq_96, vq_100, vq_101, vq_110, vq_111, vq_112, vq_113, vq_114, vq_200, vq_s1, vq_s2, vq_t1, vq_t2, vq_st, vq_r1, vq_sr, vq_ssr, vq_tsr, vq_v1, vq_v2, vq_e, vq_nln, vq_nli, vq_nlr, vq_nlf, vq_nlu, vq_isAr, vq_isAf, vq_isAu, vq_di, vq_dr, vq_df, vq_du, vq_dl, vq_sf, vq_f1, ie_m2_m1, ie_m2_0, ie_m2_1, ie_m2_2, ie_m2_3, ie_m2_4, ie_m2_8, ie_m2_20, ie_m1_m2, ie_m1_0, ie_m1_1, ie_m1_2, ie_m1_3, ie_m1_4, ie_m1_8, ie_m1_20, ie_0_m2, ie_0_m1, ie_0_1, ie_0_2, ie_0_3, ie_0_4, ie_0_8, ie_0_20, ie_1_m2, ie_1_m1, ie_1_0, ie_1_2, ie_1_3, ie_1_4, ie_1_8, ie_1_20, ie_2_m2, ie_2_m1, ie_2_0, ie_2_1, ie_2_3, ie_2_4, ie_2_8, ie_2_20, ie_3_m2, ie_3_m1, ie_3_0, ie_3_1, ie_3_2, ie_3_4, ie_3_8, ie_3_20, ie_4_m2, ie_4_m1, ie_4_0, ie_4_1, ie_4_2, ie_4_3, ie_4_8, ie_4_20, ie_8_m2, ie_8_m1, ie_8_0, ie_8_1, ie_8_2, ie_8_3, ie_8_4, ie_8_20, ie_20_m2, ie_20_m1, ie_20_0, ie_20_1, ie_20_2, ie_20_3, ie_20_4, ie_20_8, am_ne1, am_ne2, am_I_wI, am_L_wL, am_P_wP, Nat.reduceEqDiff, false_and, if_false, if_true, vq_rr, vq_rn, vq_li, vq_ll, vq_lar, vq_laf, vq_lan, vq_arr, vq_d0, vq_p0, vq_ps, am_get_0, am_get_s, am_set_0, am_set_s, am_rf_none, am_rf_some, am_S_wI, am_S_wL, am_S_wP, am_L_wI, am_P_wI, am_I_wL, am_P_wL, am_I_wP, am_L_wP, am_N_wI, am_N_wL, am_N_wP, am_ok_l, am_push_n, am_push_s, am_ent_nil, am_ent_i, am_ent_r, am_ent_f, am_ent_n, am_ent_l, not_true_eq_false, not_false_eq_true, false_implies, true_implies, implies_true, Int32.reduceAdd, Int32.reduceLT, Int32.reduceLE, true_or, or_true, eq_self, List.replicate_succ, List.replicate_zero, Nat.reduceSub, Nat.reduceAdd, Nat.reduceLeDiff, Nat.add_one_sub_one, Nat.add_sub_cancel, true_and, and_true, Nat.le_add_left, Nat.zero_sub, Nat.sub_zero, Nat.sub_self, Nat.add_zero, Nat.zero_add, l29, k29_0, k29_1, k29_4, k29_5, k29_8, k29_10, k29_11, k29_12, k29_14, k29_16, k29_17, k29_20, k29_23, k29_25, k29_26, k29_29, k29_30, k29_33, k29_34, k29_37, k29_38, k29_41, k29_44, k29_45, k29_48, k29_51, k29_52, k29_55, k29_57, k29_58, k29_61, k29_62, k29_63, k29_64, k29_67, k29_70, k29_73, k29_74, k29_75, k29_76, k29_79, k29_82, k29_84, k29_85, k29_88, k29_91, k29_93, k29_96, k29_97, k29_100, k29_103, k29_104, hT2.1, he']
    exact ⟨fun _ => fin h2 1 e2 (by rw [← hV]; rfl) (by rw [← hV]; rfl), fun z => absurd (nI_lt (by omega) (by omega)) z⟩
  | succ j ih =>
    intro s h2 hs e2 hg hV
    have hT2 := hT.fq (e2.q (fun _ => False))
    have hm2 := hm.fq (e2.q (fun _ => False)) xm
    have he' : am_I h2 T 2 = nI e := (e2.2.2.2.2 T (by unfold X_cars; omega) 2).trans he
    rw [fw] at hV
    refine am_go 100 ?_
    simp only [vq_s, vq_0, vq_h, am_clr_eq, vq_1, vq_2, vq_3, vq_4, vq_5, vq_6, vq_7, vq_8, vq_9, vq_10, vq_11, vq_12, vq_13, vq_14, vq_15, vq_16, vq_17, vq_20, vq_21, vq_22, vq_23, vq_24, vq_25, vq_26, vq_27, vq_28, vq_29, vq_30, vq_31, vq_32, vq_33, vq_34, vq_35, vq_36, vq_37, vq_38, vq_39, vq_40, vq_41, vq_42, vq_43, vq_44, vq_45, vq_50, vq_51, vq_52, vq_53, vq_54, vq_55, vq_56, vq_57, vq_58, vq_59, vq_60, vq_61, vq_62, vq_63, vq_64, vq_70, vq_71, vq_72, vq_73, vq_74, vq_75, vq_76, vq_77, vq_78, vq_79, vq_80, vq_81, vq_85, vq_86, vq_87, vq_88, vq_89, vq_90, vq_91, vq_92, vq_93, vq_95, vq_96, vq_100, vq_101, vq_110, vq_111, vq_112, vq_113, vq_114, vq_200, vq_s1, vq_s2, vq_t1, vq_t2, vq_st, vq_r1, vq_sr, vq_ssr, vq_tsr, vq_v1, vq_v2, vq_e, vq_nln, vq_nli, vq_nlr, vq_nlf, vq_nlu, vq_isAr, vq_isAf, vq_isAu, vq_di, vq_dr, vq_df, vq_du, vq_dl, vq_sf, vq_f1, ie_m2_m1, ie_m2_0, ie_m2_1, ie_m2_2, ie_m2_3, ie_m2_4, ie_m2_8, ie_m2_20, ie_m1_m2, ie_m1_0, ie_m1_1, ie_m1_2, ie_m1_3, ie_m1_4, ie_m1_8, ie_m1_20, ie_0_m2, ie_0_m1, ie_0_1, ie_0_2, ie_0_3, ie_0_4, ie_0_8, ie_0_20, ie_1_m2, ie_1_m1, ie_1_0, ie_1_2, ie_1_3, ie_1_4, ie_1_8, ie_1_20, ie_2_m2, ie_2_m1, ie_2_0, ie_2_1, ie_2_3, ie_2_4, ie_2_8, ie_2_20, ie_3_m2, ie_3_m1, ie_3_0, ie_3_1, ie_3_2, ie_3_4, ie_3_8, ie_3_20, ie_4_m2, ie_4_m1, ie_4_0, ie_4_1, ie_4_2, ie_4_3, ie_4_8, ie_4_20, ie_8_m2, ie_8_m1, ie_8_0, ie_8_1, ie_8_2, ie_8_3, ie_8_4, ie_8_20, ie_20_m2, ie_20_m1, ie_20_0, ie_20_1, ie_20_2, ie_20_3, ie_20_4, ie_20_8, am_ne1, am_ne2, am_I_wI, am_L_wL, am_P_wP, Nat.reduceEqDiff, false_and, if_false, if_true, vq_rr, vq_rn, vq_li, vq_ll, vq_lar, vq_laf, vq_lan, vq_arr, vq_d0, vq_p0, vq_ps, am_get_0, am_get_s, am_set_0, am_set_s, am_rf_none, am_rf_some, am_S_wI, am_S_wL, am_S_wP, am_L_wI, am_P_wI, am_I_wL, am_P_wL, am_I_wP, am_L_wP, am_N_wI, am_N_wL, am_N_wP, am_ok_l, am_push_n, am_push_s, am_ent_nil, am_ent_i, am_ent_r, am_ent_f, am_ent_n, am_ent_l, not_true_eq_false, not_false_eq_true, false_implies, true_implies, implies_true, Int32.reduceAdd, Int32.reduceLT, Int32.reduceLE, true_or, or_true, eq_self, List.replicate_succ, List.replicate_zero, Nat.reduceSub, Nat.reduceAdd, Nat.reduceLeDiff, Nat.add_one_sub_one, Nat.add_sub_cancel, true_and, and_true, Nat.le_add_left, Nat.zero_sub, Nat.sub_zero, Nat.sub_self, Nat.add_zero, Nat.zero_add, l29, k29_0, k29_1, k29_4, k29_5, k29_8, k29_10, k29_11, k29_12, k29_14, k29_16, k29_17, k29_20, k29_23, k29_25, k29_26, k29_29, k29_30, k29_33, k29_34, k29_37, k29_38, k29_41, k29_44, k29_45, k29_48, k29_51, k29_52, k29_55, k29_57, k29_58, k29_61, k29_62, k29_63, k29_64, k29_67, k29_70, k29_73, k29_74, k29_75, k29_76, k29_79, k29_82, k29_84, k29_85, k29_88, k29_91, k29_93, k29_96, k29_97, k29_100, k29_103, k29_104, hT2.1, hT2.2.1.1, hT2.2.1.2, hT2.2.2.1, hT2.2.2.2.1, he']
    have hck : (nI s).toNatClampNeg = s := nI_clamp (by omega)
    refine ⟨fun z => ?_, fun z => ⟨fun z2 => ?_, fun z2 => ?_⟩⟩
    · have := (nI_ltI (by omega) (by omega)).mp z
      rw [if_neg (by omega)] at hV
      exact fin h2 1 e2 (by rw [← hV]) (by rw [← hV])
    · have := (nI_leI (a := 201) (by omega) (by omega)).mp z2
      rw [if_neg (by omega)] at hV
      exact fin h2 1 e2 (by rw [← hV]) (by rw [← hV])
    have hse : s ≤ e := Nat.le_of_not_lt fun w => z (nI_lt w (by omega))
    rw [if_pos ⟨hse, by omega⟩] at hV
    obtain ⟨u0, u1, u2, u3, u4, u5, u6⟩ := fq_stay (m := m) (e2.q (fun _ => False)) xm
    have hvi : vp_in (nI s) 201 := vp_in_nI (by omega) (by omega)
    refine M_pass (d := d + 2 * k + 2) hT2.2.2.2 hm2.1 (by omega) (fun hv h3 q => ?_) (fun hv h3 q => ?_)
    · unfold q_pass at q
      simp only [Nat.add_assoc, Nat.reduceAdd, mv_pass_eq u0 u1 u3 u4 u6, mv_arr_eq u0 u1 u3, mv_harm_eq u0 u1 u3] at q hv
      obtain ⟨e3', g1, g2, g3, g4, g5⟩ := q
      have F3 : am_fr h h3 (X_cars (T + 1)) := e2.tr e3' (fun _ z => z)
      have hT3 := hT.fq (F3.q (fun _ => False))
      have hm3 := hm.fq (F3.q (fun _ => False)) xm
      have htd : am_I h3 (T + 6) = am_I h (T + 6) := F3.f (by unfold X_cars; omega)
      have gd3 := sp_gd_pass hm hg
      rw [← g1, ← g2, ← g3] at gd3
      rw [← g1, ← g2, ← g3, ← g4] at hV
      simp only [am_ok_l, am_push_s]
      refine am_go 100 ?_
      simp only [vq_s, vq_0, vq_h, am_clr_eq, vq_1, vq_2, vq_3, vq_4, vq_5, vq_6, vq_7, vq_8, vq_9, vq_10, vq_11, vq_12, vq_13, vq_14, vq_15, vq_16, vq_17, vq_20, vq_21, vq_22, vq_23, vq_24, vq_25, vq_26, vq_27, vq_28, vq_29, vq_30, vq_31, vq_32, vq_33, vq_34, vq_35, vq_36, vq_37, vq_38, vq_39, vq_40, vq_41, vq_42, vq_43, vq_44, vq_45, vq_50, vq_51, vq_52, vq_53, vq_54, vq_55, vq_56, vq_57, vq_58, vq_59, vq_60, vq_61, vq_62, vq_63, vq_64, vq_70, vq_71, vq_72, vq_73, vq_74, vq_75, vq_76, vq_77, vq_78, vq_79, vq_80, vq_81, vq_85, vq_86, vq_87, vq_88, vq_89, vq_90, vq_91, vq_92, vq_93, vq_95, vq_96, vq_100, vq_101, vq_110, vq_111, vq_112, vq_113, vq_114, vq_200, vq_s1, vq_s2, vq_t1, vq_t2, vq_st, vq_r1, vq_sr, vq_ssr, vq_tsr, vq_v1, vq_v2, vq_e, vq_nln, vq_nli, vq_nlr, vq_nlf, vq_nlu, vq_isAr, vq_isAf, vq_isAu, vq_di, vq_dr, vq_df, vq_du, vq_dl, vq_sf, vq_f1, ie_m2_m1, ie_m2_0, ie_m2_1, ie_m2_2, ie_m2_3, ie_m2_4, ie_m2_8, ie_m2_20, ie_m1_m2, ie_m1_0, ie_m1_1, ie_m1_2, ie_m1_3, ie_m1_4, ie_m1_8, ie_m1_20, ie_0_m2, ie_0_m1, ie_0_1, ie_0_2, ie_0_3, ie_0_4, ie_0_8, ie_0_20, ie_1_m2, ie_1_m1, ie_1_0, ie_1_2, ie_1_3, ie_1_4, ie_1_8, ie_1_20, ie_2_m2, ie_2_m1, ie_2_0, ie_2_1, ie_2_3, ie_2_4, ie_2_8, ie_2_20, ie_3_m2, ie_3_m1, ie_3_0, ie_3_1, ie_3_2, ie_3_4, ie_3_8, ie_3_20, ie_4_m2, ie_4_m1, ie_4_0, ie_4_1, ie_4_2, ie_4_3, ie_4_8, ie_4_20, ie_8_m2, ie_8_m1, ie_8_0, ie_8_1, ie_8_2, ie_8_3, ie_8_4, ie_8_20, ie_20_m2, ie_20_m1, ie_20_0, ie_20_1, ie_20_2, ie_20_3, ie_20_4, ie_20_8, am_ne1, am_ne2, am_I_wI, am_L_wL, am_P_wP, Nat.reduceEqDiff, false_and, if_false, if_true, vq_rr, vq_rn, vq_li, vq_ll, vq_lar, vq_laf, vq_lan, vq_arr, vq_d0, vq_p0, vq_ps, am_get_0, am_get_s, am_set_0, am_set_s, am_rf_none, am_rf_some, am_S_wI, am_S_wL, am_S_wP, am_L_wI, am_P_wI, am_I_wL, am_P_wL, am_I_wP, am_L_wP, am_N_wI, am_N_wL, am_N_wP, am_ok_l, am_push_n, am_push_s, am_ent_nil, am_ent_i, am_ent_r, am_ent_f, am_ent_n, am_ent_l, not_true_eq_false, not_false_eq_true, false_implies, true_implies, implies_true, Int32.reduceAdd, Int32.reduceLT, Int32.reduceLE, true_or, or_true, eq_self, List.replicate_succ, List.replicate_zero, Nat.reduceSub, Nat.reduceAdd, Nat.reduceLeDiff, Nat.add_one_sub_one, Nat.add_sub_cancel, true_and, and_true, Nat.le_add_left, Nat.zero_sub, Nat.sub_zero, Nat.sub_self, Nat.add_zero, Nat.zero_add, l29, k29_0, k29_1, k29_4, k29_5, k29_8, k29_10, k29_11, k29_12, k29_14, k29_16, k29_17, k29_20, k29_23, k29_25, k29_26, k29_29, k29_30, k29_33, k29_34, k29_37, k29_38, k29_41, k29_44, k29_45, k29_48, k29_51, k29_52, k29_55, k29_57, k29_58, k29_61, k29_62, k29_63, k29_64, k29_67, k29_70, k29_73, k29_74, k29_75, k29_76, k29_79, k29_82, k29_84, k29_85, k29_88, k29_91, k29_93, k29_96, k29_97, k29_100, k29_103, k29_104, hT3.1, hT3.2.1.1, hT3.2.1.2, hT3.2.2.1, hT3.2.2.2.1, hck, hvi, g5, htd, nI_1]
      refine ⟨fun harr => ⟨fun z => ?_, fun z => ?_⟩, fun harr => ?_⟩
      · rw [if_pos ⟨hv, harr⟩, if_pos z] at hV
        exact ih (s + 1) h3 (by omega) F3 gd3 hV
      · rw [if_pos ⟨hv, harr⟩, if_neg z] at hV
        simp only [] at hV
        rw [← g1, ← g2, ← g3, ← g4] at hV
        obtain ⟨B, hB, eB, qB⟩ := sp_sd_bits (L := am_I h m 0) (needs := am_I h m 2) (pull := am_I h (m + 3)) (glass := am_I h (m + 4)) (rule := am_I h (m + 6)) (f := sp_at2 (am_I h m 0) n (mv_go h m n (am_I h2 (T + 2)))) (g := sp_lf n (am_I h2 (T + 3))) (x := am_I h2 (T + 1) 4) hm.1.2.1 n (Nat.le_refl _)
        have eB : am_I h3 (T + 1) 6 = nI B := g4.trans eB
        have qB : ∀ r, B.testBit r = true → r < n ∧ am_I h3 (T + 3) r = am_I h (m + 4) r := fun r hr => by rw [g2]; exact qB r hr
        obtain ⟨hgk, ka, kl, ks'⟩ := gk_K gd3
        rw [eB] at z
        rw [eB, nI_clamp (by omega)] at hV
        refine M_key hT3.2.2.2 (sp_gd_fit gd3) ?_
        rw [show sp_keyN _ _ _ = sp_K (am_I h3 (T + 2)) (am_I h3 (T + 3)) (am_I h3 (T + 1) 4) from rfl]
        simp only [am_ok_l, am_push_s]
        refine am_go 100 ?_
        simp only [vq_s, vq_0, vq_h, am_clr_eq, vq_1, vq_2, vq_3, vq_4, vq_5, vq_6, vq_7, vq_8, vq_9, vq_10, vq_11, vq_12, vq_13, vq_14, vq_15, vq_16, vq_17, vq_20, vq_21, vq_22, vq_23, vq_24, vq_25, vq_26, vq_27, vq_28, vq_29, vq_30, vq_31, vq_32, vq_33, vq_34, vq_35, vq_36, vq_37, vq_38, vq_39, vq_40, vq_41, vq_42, vq_43, vq_44, vq_45, vq_50, vq_51, vq_52, vq_53, vq_54, vq_55, vq_56, vq_57, vq_58, vq_59, vq_60, vq_61, vq_62, vq_63, vq_64, vq_70, vq_71, vq_72, vq_73, vq_74, vq_75, vq_76, vq_77, vq_78, vq_79, vq_80, vq_81, vq_85, vq_86, vq_87, vq_88, vq_89, vq_90, vq_91, vq_92, vq_93, vq_95, vq_96, vq_100, vq_101, vq_110, vq_111, vq_112, vq_113, vq_114, vq_200, vq_s1, vq_s2, vq_t1, vq_t2, vq_st, vq_r1, vq_sr, vq_ssr, vq_tsr, vq_v1, vq_v2, vq_e, vq_nln, vq_nli, vq_nlr, vq_nlf, vq_nlu, vq_isAr, vq_isAf, vq_isAu, vq_di, vq_dr, vq_df, vq_du, vq_dl, vq_sf, vq_f1, ie_m2_m1, ie_m2_0, ie_m2_1, ie_m2_2, ie_m2_3, ie_m2_4, ie_m2_8, ie_m2_20, ie_m1_m2, ie_m1_0, ie_m1_1, ie_m1_2, ie_m1_3, ie_m1_4, ie_m1_8, ie_m1_20, ie_0_m2, ie_0_m1, ie_0_1, ie_0_2, ie_0_3, ie_0_4, ie_0_8, ie_0_20, ie_1_m2, ie_1_m1, ie_1_0, ie_1_2, ie_1_3, ie_1_4, ie_1_8, ie_1_20, ie_2_m2, ie_2_m1, ie_2_0, ie_2_1, ie_2_3, ie_2_4, ie_2_8, ie_2_20, ie_3_m2, ie_3_m1, ie_3_0, ie_3_1, ie_3_2, ie_3_4, ie_3_8, ie_3_20, ie_4_m2, ie_4_m1, ie_4_0, ie_4_1, ie_4_2, ie_4_3, ie_4_8, ie_4_20, ie_8_m2, ie_8_m1, ie_8_0, ie_8_1, ie_8_2, ie_8_3, ie_8_4, ie_8_20, ie_20_m2, ie_20_m1, ie_20_0, ie_20_1, ie_20_2, ie_20_3, ie_20_4, ie_20_8, am_ne1, am_ne2, am_I_wI, am_L_wL, am_P_wP, Nat.reduceEqDiff, false_and, if_false, if_true, vq_rr, vq_rn, vq_li, vq_ll, vq_lar, vq_laf, vq_lan, vq_arr, vq_d0, vq_p0, vq_ps, am_get_0, am_get_s, am_set_0, am_set_s, am_rf_none, am_rf_some, am_S_wI, am_S_wL, am_S_wP, am_L_wI, am_P_wI, am_I_wL, am_P_wL, am_I_wP, am_L_wP, am_N_wI, am_N_wL, am_N_wP, am_ok_l, am_push_n, am_push_s, am_ent_nil, am_ent_i, am_ent_r, am_ent_f, am_ent_n, am_ent_l, not_true_eq_false, not_false_eq_true, false_implies, true_implies, implies_true, Int32.reduceAdd, Int32.reduceLT, Int32.reduceLE, true_or, or_true, eq_self, List.replicate_succ, List.replicate_zero, Nat.reduceSub, Nat.reduceAdd, Nat.reduceLeDiff, Nat.add_one_sub_one, Nat.add_sub_cancel, true_and, and_true, Nat.le_add_left, Nat.zero_sub, Nat.sub_zero, Nat.sub_self, Nat.add_zero, Nat.zero_add, l29, k29_0, k29_1, k29_4, k29_5, k29_8, k29_10, k29_11, k29_12, k29_14, k29_16, k29_17, k29_20, k29_23, k29_25, k29_26, k29_29, k29_30, k29_33, k29_34, k29_37, k29_38, k29_41, k29_44, k29_45, k29_48, k29_51, k29_52, k29_55, k29_57, k29_58, k29_61, k29_62, k29_63, k29_64, k29_67, k29_70, k29_73, k29_74, k29_75, k29_76, k29_79, k29_82, k29_84, k29_85, k29_88, k29_91, k29_93, k29_96, k29_97, k29_100, k29_103, k29_104, hT3.1, hT3.2.1.1, hT3.2.2.2.1, eB]
        obtain ⟨w0, w1, w2, w3, w4, w5, w6⟩ := fq_stay (m := m) (F3.q (fun _ => False)) xm
        have o3 : ∀ i, am_I h3 T i = am_I h T i := F3.2.2.2.2 T (by unfold X_cars; omega)
        refine hk d h3 _ T m n L _ B s de t e hT3 hm3 hmT hgk ⟨hB, fun q => z (by rw [q]; rfl), fun r hr => ?_, by have := sp_K_lt gd3; omega⟩ (by omega) ((o3 2).trans he) he2 ((o3 3).trans ht) ht2 hde (fun h4 x q => ?_)
        · obtain ⟨r1, r2⟩ := qB r hr
          obtain ⟨g, sl, gg, g1', g30, -⟩ := hm.2.2.2 r r1
          have r3 : r < 3 := by have := hm.1.2.1; omega
          have := kl r r3
          rw [r2, gg] at this
          have b2 : lf_n (sp_K (am_I h3 (T + 2)) (am_I h3 (T + 3)) (am_I h3 (T + 1) 4)) r < 64 := Nat.mod_lt _ (by omega)
          have := nI_ij (a := lf_n (sp_K (am_I h3 (T + 2)) (am_I h3 (T + 3)) (am_I h3 (T + 1) 4)) r) (by omega) (by omega) this
          exact ⟨r1, by omega⟩
        · rw [htd, FB_eq w0 w1 w3 w4 w5 w6, hV] at q
          simp only [am_ok_l, am_push_s]
          refine am_go 100 ?_
          simp only [vq_s, vq_0, vq_h, am_clr_eq, vq_1, vq_2, vq_3, vq_4, vq_5, vq_6, vq_7, vq_8, vq_9, vq_10, vq_11, vq_12, vq_13, vq_14, vq_15, vq_16, vq_17, vq_20, vq_21, vq_22, vq_23, vq_24, vq_25, vq_26, vq_27, vq_28, vq_29, vq_30, vq_31, vq_32, vq_33, vq_34, vq_35, vq_36, vq_37, vq_38, vq_39, vq_40, vq_41, vq_42, vq_43, vq_44, vq_45, vq_50, vq_51, vq_52, vq_53, vq_54, vq_55, vq_56, vq_57, vq_58, vq_59, vq_60, vq_61, vq_62, vq_63, vq_64, vq_70, vq_71, vq_72, vq_73, vq_74, vq_75, vq_76, vq_77, vq_78, vq_79, vq_80, vq_81, vq_85, vq_86, vq_87, vq_88, vq_89, vq_90, vq_91, vq_92, vq_93, vq_95, vq_96, vq_100, vq_101, vq_110, vq_111, vq_112, vq_113, vq_114, vq_200, vq_s1, vq_s2, vq_t1, vq_t2, vq_st, vq_r1, vq_sr, vq_ssr, vq_tsr, vq_v1, vq_v2, vq_e, vq_nln, vq_nli, vq_nlr, vq_nlf, vq_nlu, vq_isAr, vq_isAf, vq_isAu, vq_di, vq_dr, vq_df, vq_du, vq_dl, vq_sf, vq_f1, ie_m2_m1, ie_m2_0, ie_m2_1, ie_m2_2, ie_m2_3, ie_m2_4, ie_m2_8, ie_m2_20, ie_m1_m2, ie_m1_0, ie_m1_1, ie_m1_2, ie_m1_3, ie_m1_4, ie_m1_8, ie_m1_20, ie_0_m2, ie_0_m1, ie_0_1, ie_0_2, ie_0_3, ie_0_4, ie_0_8, ie_0_20, ie_1_m2, ie_1_m1, ie_1_0, ie_1_2, ie_1_3, ie_1_4, ie_1_8, ie_1_20, ie_2_m2, ie_2_m1, ie_2_0, ie_2_1, ie_2_3, ie_2_4, ie_2_8, ie_2_20, ie_3_m2, ie_3_m1, ie_3_0, ie_3_1, ie_3_2, ie_3_4, ie_3_8, ie_3_20, ie_4_m2, ie_4_m1, ie_4_0, ie_4_1, ie_4_2, ie_4_3, ie_4_8, ie_4_20, ie_8_m2, ie_8_m1, ie_8_0, ie_8_1, ie_8_2, ie_8_3, ie_8_4, ie_8_20, ie_20_m2, ie_20_m1, ie_20_0, ie_20_1, ie_20_2, ie_20_3, ie_20_4, ie_20_8, am_ne1, am_ne2, am_I_wI, am_L_wL, am_P_wP, Nat.reduceEqDiff, false_and, if_false, if_true, vq_rr, vq_rn, vq_li, vq_ll, vq_lar, vq_laf, vq_lan, vq_arr, vq_d0, vq_p0, vq_ps, am_get_0, am_get_s, am_set_0, am_set_s, am_rf_none, am_rf_some, am_S_wI, am_S_wL, am_S_wP, am_L_wI, am_P_wI, am_I_wL, am_P_wL, am_I_wP, am_L_wP, am_N_wI, am_N_wL, am_N_wP, am_ok_l, am_push_n, am_push_s, am_ent_nil, am_ent_i, am_ent_r, am_ent_f, am_ent_n, am_ent_l, not_true_eq_false, not_false_eq_true, false_implies, true_implies, implies_true, Int32.reduceAdd, Int32.reduceLT, Int32.reduceLE, true_or, or_true, eq_self, List.replicate_succ, List.replicate_zero, Nat.reduceSub, Nat.reduceAdd, Nat.reduceLeDiff, Nat.add_one_sub_one, Nat.add_sub_cancel, true_and, and_true, Nat.le_add_left, Nat.zero_sub, Nat.sub_zero, Nat.sub_self, Nat.add_zero, Nat.zero_add, l29, k29_0, k29_1, k29_4, k29_5, k29_8, k29_10, k29_11, k29_12, k29_14, k29_16, k29_17, k29_20, k29_23, k29_25, k29_26, k29_29, k29_30, k29_33, k29_34, k29_37, k29_38, k29_41, k29_44, k29_45, k29_48, k29_51, k29_52, k29_55, k29_57, k29_58, k29_61, k29_62, k29_63, k29_64, k29_67, k29_70, k29_73, k29_74, k29_75, k29_76, k29_79, k29_82, k29_84, k29_85, k29_88, k29_91, k29_93, k29_96, k29_97, k29_100, k29_103, k29_104]
          obtain ⟨c1, c2, t', c3⟩ := q
          exact hK h4 x ⟨(F3.wk (fun q z => by unfold X_cars at z; exact ⟨by omega, by omega⟩)).tr c1 (fun _ z => z), c2.trans (o3 2), t', c3⟩
      · rw [if_neg (fun w => harr w.2)] at hV
        exact fin h3 0 F3 (by rw [← hV]) (by rw [← hV])
    · simp only [Nat.add_assoc, Nat.reduceAdd, mv_harm_eq u0 u1 u3] at hv ⊢
      have F3 : am_fr h h3 (X_cars (T + 1)) := e2.tr q.1 (fun _ z => z)
      rw [if_neg (fun w => hv w.1)] at hV
      simp only [am_ok_l, am_push_s]
      refine am_go 100 ?_
      simp only [vq_s, vq_0, vq_h, am_clr_eq, vq_1, vq_2, vq_3, vq_4, vq_5, vq_6, vq_7, vq_8, vq_9, vq_10, vq_11, vq_12, vq_13, vq_14, vq_15, vq_16, vq_17, vq_20, vq_21, vq_22, vq_23, vq_24, vq_25, vq_26, vq_27, vq_28, vq_29, vq_30, vq_31, vq_32, vq_33, vq_34, vq_35, vq_36, vq_37, vq_38, vq_39, vq_40, vq_41, vq_42, vq_43, vq_44, vq_45, vq_50, vq_51, vq_52, vq_53, vq_54, vq_55, vq_56, vq_57, vq_58, vq_59, vq_60, vq_61, vq_62, vq_63, vq_64, vq_70, vq_71, vq_72, vq_73, vq_74, vq_75, vq_76, vq_77, vq_78, vq_79, vq_80, vq_81, vq_85, vq_86, vq_87, vq_88, vq_89, vq_90, vq_91, vq_92, vq_93, vq_95, vq_96, vq_100, vq_101, vq_110, vq_111, vq_112, vq_113, vq_114, vq_200, vq_s1, vq_s2, vq_t1, vq_t2, vq_st, vq_r1, vq_sr, vq_ssr, vq_tsr, vq_v1, vq_v2, vq_e, vq_nln, vq_nli, vq_nlr, vq_nlf, vq_nlu, vq_isAr, vq_isAf, vq_isAu, vq_di, vq_dr, vq_df, vq_du, vq_dl, vq_sf, vq_f1, ie_m2_m1, ie_m2_0, ie_m2_1, ie_m2_2, ie_m2_3, ie_m2_4, ie_m2_8, ie_m2_20, ie_m1_m2, ie_m1_0, ie_m1_1, ie_m1_2, ie_m1_3, ie_m1_4, ie_m1_8, ie_m1_20, ie_0_m2, ie_0_m1, ie_0_1, ie_0_2, ie_0_3, ie_0_4, ie_0_8, ie_0_20, ie_1_m2, ie_1_m1, ie_1_0, ie_1_2, ie_1_3, ie_1_4, ie_1_8, ie_1_20, ie_2_m2, ie_2_m1, ie_2_0, ie_2_1, ie_2_3, ie_2_4, ie_2_8, ie_2_20, ie_3_m2, ie_3_m1, ie_3_0, ie_3_1, ie_3_2, ie_3_4, ie_3_8, ie_3_20, ie_4_m2, ie_4_m1, ie_4_0, ie_4_1, ie_4_2, ie_4_3, ie_4_8, ie_4_20, ie_8_m2, ie_8_m1, ie_8_0, ie_8_1, ie_8_2, ie_8_3, ie_8_4, ie_8_20, ie_20_m2, ie_20_m1, ie_20_0, ie_20_1, ie_20_2, ie_20_3, ie_20_4, ie_20_8, am_ne1, am_ne2, am_I_wI, am_L_wL, am_P_wP, Nat.reduceEqDiff, false_and, if_false, if_true, vq_rr, vq_rn, vq_li, vq_ll, vq_lar, vq_laf, vq_lan, vq_arr, vq_d0, vq_p0, vq_ps, am_get_0, am_get_s, am_set_0, am_set_s, am_rf_none, am_rf_some, am_S_wI, am_S_wL, am_S_wP, am_L_wI, am_P_wI, am_I_wL, am_P_wL, am_I_wP, am_L_wP, am_N_wI, am_N_wL, am_N_wP, am_ok_l, am_push_n, am_push_s, am_ent_nil, am_ent_i, am_ent_r, am_ent_f, am_ent_n, am_ent_l, not_true_eq_false, not_false_eq_true, false_implies, true_implies, implies_true, Int32.reduceAdd, Int32.reduceLT, Int32.reduceLE, true_or, or_true, eq_self, List.replicate_succ, List.replicate_zero, Nat.reduceSub, Nat.reduceAdd, Nat.reduceLeDiff, Nat.add_one_sub_one, Nat.add_sub_cancel, true_and, and_true, Nat.le_add_left, Nat.zero_sub, Nat.sub_zero, Nat.sub_self, Nat.add_zero, Nat.zero_add, l29, k29_0, k29_1, k29_4, k29_5, k29_8, k29_10, k29_11, k29_12, k29_14, k29_16, k29_17, k29_20, k29_23, k29_25, k29_26, k29_29, k29_30, k29_33, k29_34, k29_37, k29_38, k29_41, k29_44, k29_45, k29_48, k29_51, k29_52, k29_55, k29_57, k29_58, k29_61, k29_62, k29_63, k29_64, k29_67, k29_70, k29_73, k29_74, k29_75, k29_76, k29_79, k29_82, k29_84, k29_85, k29_88, k29_91, k29_93, k29_96, k29_97, k29_100, k29_103, k29_104]
      exact ⟨fun _ => fin h3 0 F3 (by rw [← hV]) (by rw [← hV]), fun z => absurd z hv⟩
end
