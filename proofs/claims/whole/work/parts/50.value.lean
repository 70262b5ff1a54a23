/-! Planner.value -/
noncomputable def vl (h : Am_H) (m n : Nat) (ks : List Nat) : Nat → Nat → Int32
  | 0, _ => 0
  | k + 1, x => if mv_harm h m n (dp_at x) = 0 then (if pl_bst h m n ks (vl h m n ks k) (x / 32768 + 1) (mp_at h m n x) = -1 then -1 else sp_loads (am_I h (m + 2)) (mv_arr h m n (dp_at x)) n + pl_bst h m n ks (vl h m n ks k) (x / 32768 + 1) (mp_at h m n x)) else -1
noncomputable def vlx (h : Am_H) (m n N : Nat) (ks : List Nat) (x : Nat) : Int32 := vl h m n ks (N - x / 32768) x
theorem pl_b_c {ks : List Nat} {v1 v2 : Nat → Int32} {key W : Nat} : ∀ (j b : Nat) (v : Int32), (∀ i, b ≤ i → i < b + j → i &&& W = i → v1 (key + st_b i) = v2 (key + st_b i)) → pl_b ks v1 key W j b v = pl_b ks v2 key W j b v := by
  intro j
  induction j with
  | zero => intro b v _; rfl
  | succ j ih =>
    intro b v hv
    rw [pl_b, pl_b]
    by_cases z : b &&& W = b
    · rw [if_pos z, if_pos z]
      have : pl_v ks v1 (key + st_b b) = pl_v ks v2 (key + st_b b) := by
        unfold pl_v
        rw [hv b (by omega) (by omega) z]
      rw [this]
      exact ih (b + 1) _ (fun i h1 h2 => hv i (by omega) (by omega))
    · rw [if_neg z, if_neg z]
      exact ih (b + 1) _ (fun i h1 h2 => hv i (by omega) (by omega))
theorem pl_bst_v {h : Am_H} {m n N s : Nat} {ks : List Nat} {at_ : Nat → Int32} (hn : n ≤ 3) (hg : sp_gp at_) : pl_bst h m n ks (vlx h m n N ks) s at_ = pl_bst h m n ks (vl h m n ks (N - s)) s at_ := by
  have hW := mv_W_lt (h := h) (m := m) (at_ := at_) hn
  refine pl_b_c _ 0 _ (fun i _ h2 hw => ?_)
  unfold vlx
  rw [(pl_key (h := h) (m := m) (s := s) hn hg (by omega) hw).2.1]
theorem pl_bst_c {h : Am_H} {m n s : Nat} {ks : List Nat} {val : Nat → Int32} {f g : Nat → Int32} (e : e3 f g) (hn : n ≤ 3) : pl_bst h m n ks val s f = pl_bst h m n ks val s g := by
  unfold pl_bst
  rw [sp_pk_c e, mv_W_c e hn]
theorem vlx_step {h : Am_H} {m n L N x : Nat} {ks : List Nat} (hm : is_Good h m n L) (hx : sp_gp (dp_at x)) (hN : x / 32768 < N) : vlx h m n N ks x = if mv_harm h m n (dp_at x) = 0 then (if pl_bst h m n ks (vlx h m n N ks) (x / 32768 + 1) (mp_at h m n x) = -1 then -1 else sp_loads (am_I h (m + 2)) (mv_arr h m n (dp_at x)) n + pl_bst h m n ks (vlx h m n N ks) (x / 32768 + 1) (mp_at h m n x)) else -1 := by
  obtain ⟨k, hk⟩ : ∃ k, N - x / 32768 = k + 1 := ⟨N - x / 32768 - 1, by omega⟩
  have gp : sp_gp (mp_at h m n x) := sp_gp_at2 hm.2.1 hm.2.2.1 hx
  rw [pl_bst_v hm.1.2.1 gp, show N - (x / 32768 + 1) = k by omega]
  unfold vlx
  rw [hk, vl]
def X_val (P F : Nat) : Nat → Prop := fun q => (P ≤ q ∧ q ≤ P + 6) ∨ q = F + 2
def ks_so (ks : List Nat) : Prop := ∀ i j, i ≤ j → j < ks.length → ks.getD i 0 / 32768 ≤ ks.getD j 0 / 32768
section
variable {l : Am_L} {d : Nat} {h : Am_H} {m c n P F L : Nat} {K : Am_R → Am_H → Prop}
set_option maxHeartbeats 4000000 in
theorem M_value_loop {N : Nat} {ks : List Nat} (hP : is_Planner h P) (hm : is_Good h m n L) (hmP : m + 6 < P) (hF : P + 6 < F) (hN : N ≤ 60) (hgk : ∀ y, y ∈ ks → gq N y) (hso : ks_so ks)
    (hK : ∀ h', am_fr h h' (X_val P F) → f_in h' F ks → (∀ i, i < ks.length → am_I h' (F + 2) i = vlx h m n N ks (ks.getD i 0)) → K (.inl none) h') : ∀ (i : Nat) (o5 o6 o7 : Option Value) (hk : Am_H), i ≤ ks.length → am_fr h hk (X_val P F) → f_in hk F ks → (∀ j, i ≤ j → j < ks.length → am_I hk (F + 2) j = vlx h m n N ks (ks.getD j 0)) → am_J l 52 (d + 4) 0 0 14 [some (.ref P), some (.ref m), some (.ref F), some (.int (nI N)), some (.int (nI i - 1)), o5, o6, o7] [] hk K := by
  have xm : ∀ i, i ≤ 6 → ¬ X_val P F (m + i) := fun i hi => by unfold X_val; omega
  intro i
  induction i with
  | zero =>
    intro o5 o6 o7 hk hi e hf hv
    refine am_go 100 ?_
    simp only [vq_s, vq_0, vq_h, am_clr_eq, vq_1, vq_2, vq_3, vq_4, vq_5, vq_6, vq_7, vq_8, vq_9, vq_10, vq_11, vq_12, vq_13, vq_14, vq_15, vq_16, vq_17, vq_20, vq_21, vq_22, vq_23, vq_24, vq_25, vq_26, vq_27, vq_28, vq_29, vq_30, vq_31, vq_32, vq_33, vq_34, vq_35, vq_36, vq_37, vq_38, vq_39, vq_40, vq_41, vq_42, vq_43, vq_44, vq_45, vq_50, vq_51, vq_52, vq_53, vq_54, vq_55, vq_56, vq_57, vq_58, vq_59, vq_60, vq_61, vq_62, vq_63, vq_64, vq_70, vq_71, vq_72, vq_73, vq_74, vq_75, vq_76, vq_77, vq_78, vq_79, vq_80, vq_81, vq_85, vq_86, vq_87, vq_88, vq_89, vq_90, vq_91, vq_92, vq_93, vq_95, vq_96, vq_100, vq_101, vq_110, vq_111, vq_112, vq_113, vq_114, vq_200, vq_s1, vq_s2, vq_t1, vq_t2, vq_st, vq_r1, vq_sr, vq_ssr, vq_tsr, vq_v1, vq_v2, vq_e, vq_nln, vq_nli, vq_nlr, vq_nlf, vq_nlu, vq_isAr, vq_isAf, vq_isAu, vq_di, vq_dr, vq_df, vq_du, vq_dl, vq_sf, vq_f1, ie_m2_m1, ie_m2_0, ie_m2_1, ie_m2_2, ie_m2_3, ie_m2_4, ie_m2_8, ie_m2_20, ie_m1_m2, ie_m1_0, ie_m1_1, ie_m1_2, ie_m1_3, ie_m1_4, ie_m1_8, ie_m1_20, ie_0_m2, ie_0_m1, ie_0_1, ie_0_2, ie_0_3, ie_0_4, ie_0_8, ie_0_20, ie_1_m2, ie_1_m1, ie_1_0, ie_1_2, ie_1_3, ie_1_4, ie_1_8, ie_1_20, ie_2_m2, ie_2_m1, ie_2_0, ie_2_1, ie_2_3, ie_2_4, ie_2_8, ie_2_20, ie_3_m2, ie_3_m1, ie_3_0, ie_3_1, ie_3_2, ie_3_4, ie_3_8, ie_3_20, ie_4_m2, ie_4_m1, ie_4_0, ie_4_1, ie_4_2, ie_4_3, ie_4_8, ie_4_20, ie_8_m2, ie_8_m1, ie_8_0, ie_8_1, ie_8_2, ie_8_3, ie_8_4, ie_8_20, ie_20_m2, ie_20_m1, ie_20_0, ie_20_1, ie_20_2, ie_20_3, ie_20_4, ie_20_8, am_ne1, am_ne2, am_I_wI, am_L_wL, am_P_wP, Nat.reduceEqDiff, false_and, if_false, if_true, vq_rr, vq_rn, vq_li, vq_ll, vq_lar, vq_laf, vq_lan, vq_arr, vq_d0, vq_p0, vq_ps, am_get_0, am_get_s, am_set_0, am_set_s, am_rf_none, am_rf_some, am_S_wI, am_S_wL, am_S_wP, am_L_wI, am_P_wI, am_I_wL, am_P_wL, am_I_wP, am_L_wP, am_N_wI, am_N_wL, am_N_wP, am_ok_l, am_push_n, am_push_s, am_ent_nil, am_ent_i, am_ent_r, am_ent_f, am_ent_n, am_ent_l, not_true_eq_false, not_false_eq_true, false_implies, true_implies, implies_true, Int32.reduceAdd, Int32.reduceLT, Int32.reduceLE, true_or, or_true, eq_self, List.replicate_succ, List.replicate_zero, Nat.reduceSub, Nat.reduceAdd, Nat.reduceLeDiff, Nat.add_one_sub_one, Nat.add_sub_cancel, true_and, and_true, Nat.le_add_left, Nat.zero_sub, Nat.sub_zero, Nat.sub_self, Nat.add_zero, Nat.zero_add, l52, k52_0, k52_1, k52_4, k52_7, k52_10, k52_11, k52_12, k52_14, k52_16, k52_19, k52_20, k52_23, k52_25, k52_26, k52_29, k52_31, k52_33, k52_34, k52_37, k52_38, k52_41, k52_43, k52_44, k52_45, k52_48, k52_49, k52_50, k52_51, k52_54, k52_56, k52_57, k52_60, k52_63, k52_64, k52_65, k52_68, k52_71, k52_74, k52_76, k52_77, k52_78, k52_79, k52_81, k52_82, k52_83, k52_86, k52_88, k52_89, k52_92, k52_94, k52_96, k52_97, k52_100, k52_101, k52_104, k52_106, k52_108, k52_109, k52_110, k52_113, k52_114, k52_117, k52_119, k52_120, k52_121, k52_124, k52_127]
    exact ⟨fun _ => hK hk e hf (fun j hj => hv j (by omega) hj), fun z => absurd (by decide) z⟩
  | succ i ih =>
    intro o5 o6 o7 hk hi e hf hv
    have hf0 := hf
    obtain ⟨v, t, hFF, hl, hsz, hkeys, -⟩ := hf
    have hck : (nI i).toNatClampNeg = i := nI_clamp (by omega)
    have hvi : vp_in (nI i) 4000 := vp_in_nI (by omega) (by omega)
    have hP2 := hP.fq (e.q (fun _ => False))
    have hgx := hgk _ (gd_mem (show i < ks.length by omega))
    have hke := (hkeys i (by omega)).1
    obtain ⟨u0, u1, u2, u3, u4, u5, u6⟩ := fq_stay (m := m) (e.q (fun _ => False)) xm
    have hmk := hm.fq (e.q (fun _ => False)) xm
    have sm1 : ∀ o5 o6 o7 (h2 : Am_H) (y : Int32), am_fr h h2 (X_val P F) → f_in h2 F ks → am_I h2 (F + 2) = am_I hk (F + 2) → y = vlx h m n N ks (ks.getD i 0) → am_J l 52 (d + 4) 0 0 14 [some (.ref P), some (.ref m), some (.ref F), some (.int (nI N)), some (.int (nI i - 1)), o5, o6, o7] [] (am_wI h2 (F + 2) i y) K := by
      intro o5 o6 o7 h2 y e2 f2 ev ey
      refine ih o5 o6 o7 _ (by omega) (e2.w (Or.inr rfl)) (f2.fq (X := fun q => q = F + 2) (Y := fun _ => False) (am_fq.rf.w rfl) (by omega) (by omega) (fun z => z)) (fun j h1 h2 => ?_)
      rw [am_I_wI]
      by_cases z : j = i
      · rw [if_pos ⟨rfl, z⟩, ey, z]
      · rw [if_neg (fun w => z w.2), ev]
        exact hv j (by omega) h2
    rw [fq_pred]
    generalize hx : ks.getD i 0 = x at hgx hke sm1
    obtain ⟨x1, x2, x3⟩ := hgx
    refine am_go 100 ?_
    simp only [vq_s, vq_0, vq_h, am_clr_eq, vq_1, vq_2, vq_3, vq_4, vq_5, vq_6, vq_7, vq_8, vq_9, vq_10, vq_11, vq_12, vq_13, vq_14, vq_15, vq_16, vq_17, vq_20, vq_21, vq_22, vq_23, vq_24, vq_25, vq_26, vq_27, vq_28, vq_29, vq_30, vq_31, vq_32, vq_33, vq_34, vq_35, vq_36, vq_37, vq_38, vq_39, vq_40, vq_41, vq_42, vq_43, vq_44, vq_45, vq_50, vq_51, vq_52, vq_53, vq_54, vq_55, vq_56, vq_57, vq_58, vq_59, vq_60, vq_61, vq_62, vq_63, vq_64, vq_70, vq_71, vq_72, vq_73, vq_74, vq_75, vq_76, vq_77, vq_78, vq_79, vq_80, vq_81, vq_85, vq_86, vq_87, vq_88, vq_89, vq_90, vq_91, vq_92, vq_93, vq_95, vq_96, vq_100, vq_101, vq_110, vq_111, vq_112, vq_113, vq_114, vq_200, vq_s1, vq_s2, vq_t1, vq_t2, vq_st, vq_r1, vq_sr, vq_ssr, vq_tsr, vq_v1, vq_v2, vq_e, vq_nln, vq_nli, vq_nlr, vq_nlf, vq_nlu, vq_isAr, vq_isAf, vq_isAu, vq_di, vq_dr, vq_df, vq_du, vq_dl, vq_sf, vq_f1, ie_m2_m1, ie_m2_0, ie_m2_1, ie_m2_2, ie_m2_3, ie_m2_4, ie_m2_8, ie_m2_20, ie_m1_m2, ie_m1_0, ie_m1_1, ie_m1_2, ie_m1_3, ie_m1_4, ie_m1_8, ie_m1_20, ie_0_m2, ie_0_m1, ie_0_1, ie_0_2, ie_0_3, ie_0_4, ie_0_8, ie_0_20, ie_1_m2, ie_1_m1, ie_1_0, ie_1_2, ie_1_3, ie_1_4, ie_1_8, ie_1_20, ie_2_m2, ie_2_m1, ie_2_0, ie_2_1, ie_2_3, ie_2_4, ie_2_8, ie_2_20, ie_3_m2, ie_3_m1, ie_3_0, ie_3_1, ie_3_2, ie_3_4, ie_3_8, ie_3_20, ie_4_m2, ie_4_m1, ie_4_0, ie_4_1, ie_4_2, ie_4_3, ie_4_8, ie_4_20, ie_8_m2, ie_8_m1, ie_8_0, ie_8_1, ie_8_2, ie_8_3, ie_8_4, ie_8_20, ie_20_m2, ie_20_m1, ie_20_0, ie_20_1, ie_20_2, ie_20_3, ie_20_4, ie_20_8, am_ne1, am_ne2, am_I_wI, am_L_wL, am_P_wP, Nat.reduceEqDiff, false_and, if_false, if_true, vq_rr, vq_rn, vq_li, vq_ll, vq_lar, vq_laf, vq_lan, vq_arr, vq_d0, vq_p0, vq_ps, am_get_0, am_get_s, am_set_0, am_set_s, am_rf_none, am_rf_some, am_S_wI, am_S_wL, am_S_wP, am_L_wI, am_P_wI, am_I_wL, am_P_wL, am_I_wP, am_L_wP, am_N_wI, am_N_wL, am_N_wP, am_ok_l, am_push_n, am_push_s, am_ent_nil, am_ent_i, am_ent_r, am_ent_f, am_ent_n, am_ent_l, not_true_eq_false, not_false_eq_true, false_implies, true_implies, implies_true, Int32.reduceAdd, Int32.reduceLT, Int32.reduceLE, true_or, or_true, eq_self, List.replicate_succ, List.replicate_zero, Nat.reduceSub, Nat.reduceAdd, Nat.reduceLeDiff, Nat.add_one_sub_one, Nat.add_sub_cancel, true_and, and_true, Nat.le_add_left, Nat.zero_sub, Nat.sub_zero, Nat.sub_self, Nat.add_zero, Nat.zero_add, l52, k52_0, k52_1, k52_4, k52_7, k52_10, k52_11, k52_12, k52_14, k52_16, k52_19, k52_20, k52_23, k52_25, k52_26, k52_29, k52_31, k52_33, k52_34, k52_37, k52_38, k52_41, k52_43, k52_44, k52_45, k52_48, k52_49, k52_50, k52_51, k52_54, k52_56, k52_57, k52_60, k52_63, k52_64, k52_65, k52_68, k52_71, k52_74, k52_76, k52_77, k52_78, k52_79, k52_81, k52_82, k52_83, k52_86, k52_88, k52_89, k52_92, k52_94, k52_96, k52_97, k52_100, k52_101, k52_104, k52_106, k52_108, k52_109, k52_110, k52_113, k52_114, k52_117, k52_119, k52_120, k52_121, k52_124, k52_127, hFF.1, hFF.2.1.1, hFF.2.1.2.1, hFF.2.2.1, hFF.2.2.2.1, hck, hvi, hke]
    refine ⟨fun z => absurd z (nI_nn (by omega)), fun _ => ?_⟩
    refine M_secondOf (by omega) ?_
    simp only [am_ok_l, am_push_s]
    refine am_go 100 ?_
    simp only [vq_s, vq_0, vq_h, am_clr_eq, vq_1, vq_2, vq_3, vq_4, vq_5, vq_6, vq_7, vq_8, vq_9, vq_10, vq_11, vq_12, vq_13, vq_14, vq_15, vq_16, vq_17, vq_20, vq_21, vq_22, vq_23, vq_24, vq_25, vq_26, vq_27, vq_28, vq_29, vq_30, vq_31, vq_32, vq_33, vq_34, vq_35, vq_36, vq_37, vq_38, vq_39, vq_40, vq_41, vq_42, vq_43, vq_44, vq_45, vq_50, vq_51, vq_52, vq_53, vq_54, vq_55, vq_56, vq_57, vq_58, vq_59, vq_60, vq_61, vq_62, vq_63, vq_64, vq_70, vq_71, vq_72, vq_73, vq_74, vq_75, vq_76, vq_77, vq_78, vq_79, vq_80, vq_81, vq_85, vq_86, vq_87, vq_88, vq_89, vq_90, vq_91, vq_92, vq_93, vq_95, vq_96, vq_100, vq_101, vq_110, vq_111, vq_112, vq_113, vq_114, vq_200, vq_s1, vq_s2, vq_t1, vq_t2, vq_st, vq_r1, vq_sr, vq_ssr, vq_tsr, vq_v1, vq_v2, vq_e, vq_nln, vq_nli, vq_nlr, vq_nlf, vq_nlu, vq_isAr, vq_isAf, vq_isAu, vq_di, vq_dr, vq_df, vq_du, vq_dl, vq_sf, vq_f1, ie_m2_m1, ie_m2_0, ie_m2_1, ie_m2_2, ie_m2_3, ie_m2_4, ie_m2_8, ie_m2_20, ie_m1_m2, ie_m1_0, ie_m1_1, ie_m1_2, ie_m1_3, ie_m1_4, ie_m1_8, ie_m1_20, ie_0_m2, ie_0_m1, ie_0_1, ie_0_2, ie_0_3, ie_0_4, ie_0_8, ie_0_20, ie_1_m2, ie_1_m1, ie_1_0, ie_1_2, ie_1_3, ie_1_4, ie_1_8, ie_1_20, ie_2_m2, ie_2_m1, ie_2_0, ie_2_1, ie_2_3, ie_2_4, ie_2_8, ie_2_20, ie_3_m2, ie_3_m1, ie_3_0, ie_3_1, ie_3_2, ie_3_4, ie_3_8, ie_3_20, ie_4_m2, ie_4_m1, ie_4_0, ie_4_1, ie_4_2, ie_4_3, ie_4_8, ie_4_20, ie_8_m2, ie_8_m1, ie_8_0, ie_8_1, ie_8_2, ie_8_3, ie_8_4, ie_8_20, ie_20_m2, ie_20_m1, ie_20_0, ie_20_1, ie_20_2, ie_20_3, ie_20_4, ie_20_8, am_ne1, am_ne2, am_I_wI, am_L_wL, am_P_wP, Nat.reduceEqDiff, false_and, if_false, if_true, vq_rr, vq_rn, vq_li, vq_ll, vq_lar, vq_laf, vq_lan, vq_arr, vq_d0, vq_p0, vq_ps, am_get_0, am_get_s, am_set_0, am_set_s, am_rf_none, am_rf_some, am_S_wI, am_S_wL, am_S_wP, am_L_wI, am_P_wI, am_I_wL, am_P_wL, am_I_wP, am_L_wP, am_N_wI, am_N_wL, am_N_wP, am_ok_l, am_push_n, am_push_s, am_ent_nil, am_ent_i, am_ent_r, am_ent_f, am_ent_n, am_ent_l, not_true_eq_false, not_false_eq_true, false_implies, true_implies, implies_true, Int32.reduceAdd, Int32.reduceLT, Int32.reduceLE, true_or, or_true, eq_self, List.replicate_succ, List.replicate_zero, Nat.reduceSub, Nat.reduceAdd, Nat.reduceLeDiff, Nat.add_one_sub_one, Nat.add_sub_cancel, true_and, and_true, Nat.le_add_left, Nat.zero_sub, Nat.sub_zero, Nat.sub_self, Nat.add_zero, Nat.zero_add, l52, k52_0, k52_1, k52_4, k52_7, k52_10, k52_11, k52_12, k52_14, k52_16, k52_19, k52_20, k52_23, k52_25, k52_26, k52_29, k52_31, k52_33, k52_34, k52_37, k52_38, k52_41, k52_43, k52_44, k52_45, k52_48, k52_49, k52_50, k52_51, k52_54, k52_56, k52_57, k52_60, k52_63, k52_64, k52_65, k52_68, k52_71, k52_74, k52_76, k52_77, k52_78, k52_79, k52_81, k52_82, k52_83, k52_86, k52_88, k52_89, k52_92, k52_94, k52_96, k52_97, k52_100, k52_101, k52_104, k52_106, k52_108, k52_109, k52_110, k52_113, k52_114, k52_117, k52_119, k52_120, k52_121, k52_124, k52_127, hP2.1, hFF.1, hFF.2.1.1, hFF.2.1.2.1, hFF.2.2.1, hFF.2.2.2.1, hck, hvi, hke]
    have em : nI i + -1 = nI i - 1 := (Int32.sub_eq_add_neg _ _).symm
    rw [nI_ltI (by omega) (by omega), em]
    refine And.symm ⟨fun z => ?_, fun z => ?_⟩
    · refine sm1 _ _ _ hk 0 e hf0 rfl ?_
      unfold vlx
      rw [show N - x / 32768 = 0 by omega]
      rfl
    · have hst := vlx_step (ks := ks) hm x3 z
      have gp : sp_gp (mp_at h m n x) := sp_gp_at2 hm.2.1 hm.2.2.1 x3
      refine M_rollP (by omega) hP2 hmk.1 hmP (fun hq h2 q => ?_) (fun hq h2 q => ?_)
      · obtain ⟨e2, q1, -⟩ := q
        obtain ⟨ea, earr⟩ := q1 hq
        rw [mv_harm_eq u0 u1 u3] at hq
        rw [if_pos hq] at hst
        have ea : e3 (am_I h2 (P + 2)) (mp_at h m n x) := fun r hr => by
          rw [ea r hr]
          unfold mp_at
          rw [u0, show mv_go hk m n (dp_at x) = mv_go h m n (dp_at x) from mv_go_eq u0 u1 u3 _]
        rw [mv_arr_eq u0 u1 u3] at earr
        have F2 : am_fr h h2 (X_val P F) := e.tr (e2.wk (fun q z => Or.inl (by unfold X_cars at z; omega))) (fun _ z => z)
        have f2 : f_in h2 F ks := hf0.fq (e2.q (fun _ => False)) (by unfold X_cars; omega) (by unfold X_cars; omega) (fun z => z)
        have ev : am_I h2 (F + 2) = am_I hk (F + 2) := e2.f (by unfold X_cars; omega)
        obtain ⟨w0, w1, w2, w3, w4, w5, w6⟩ := fq_stay (m := m) (F2.q (fun _ => False)) xm
        have hP3 := hP.fq (F2.q (fun _ => False))
        have hm3 := hm.fq (F2.q (fun _ => False)) xm
        have hS2 := F2.1
        simp only [am_ok_l, am_push_s]
        refine am_go 100 ?_
        simp only [vq_s, vq_0, vq_h, am_clr_eq, vq_1, vq_2, vq_3, vq_4, vq_5, vq_6, vq_7, vq_8, vq_9, vq_10, vq_11, vq_12, vq_13, vq_14, vq_15, vq_16, vq_17, vq_20, vq_21, vq_22, vq_23, vq_24, vq_25, vq_26, vq_27, vq_28, vq_29, vq_30, vq_31, vq_32, vq_33, vq_34, vq_35, vq_36, vq_37, vq_38, vq_39, vq_40, vq_41, vq_42, vq_43, vq_44, vq_45, vq_50, vq_51, vq_52, vq_53, vq_54, vq_55, vq_56, vq_57, vq_58, vq_59, vq_60, vq_61, vq_62, vq_63, vq_64, vq_70, vq_71, vq_72, vq_73, vq_74, vq_75, vq_76, vq_77, vq_78, vq_79, vq_80, vq_81, vq_85, vq_86, vq_87, vq_88, vq_89, vq_90, vq_91, vq_92, vq_93, vq_95, vq_96, vq_100, vq_101, vq_110, vq_111, vq_112, vq_113, vq_114, vq_200, vq_s1, vq_s2, vq_t1, vq_t2, vq_st, vq_r1, vq_sr, vq_ssr, vq_tsr, vq_v1, vq_v2, vq_e, vq_nln, vq_nli, vq_nlr, vq_nlf, vq_nlu, vq_isAr, vq_isAf, vq_isAu, vq_di, vq_dr, vq_df, vq_du, vq_dl, vq_sf, vq_f1, ie_m2_m1, ie_m2_0, ie_m2_1, ie_m2_2, ie_m2_3, ie_m2_4, ie_m2_8, ie_m2_20, ie_m1_m2, ie_m1_0, ie_m1_1, ie_m1_2, ie_m1_3, ie_m1_4, ie_m1_8, ie_m1_20, ie_0_m2, ie_0_m1, ie_0_1, ie_0_2, ie_0_3, ie_0_4, ie_0_8, ie_0_20, ie_1_m2, ie_1_m1, ie_1_0, ie_1_2, ie_1_3, ie_1_4, ie_1_8, ie_1_20, ie_2_m2, ie_2_m1, ie_2_0, ie_2_1, ie_2_3, ie_2_4, ie_2_8, ie_2_20, ie_3_m2, ie_3_m1, ie_3_0, ie_3_1, ie_3_2, ie_3_4, ie_3_8, ie_3_20, ie_4_m2, ie_4_m1, ie_4_0, ie_4_1, ie_4_2, ie_4_3, ie_4_8, ie_4_20, ie_8_m2, ie_8_m1, ie_8_0, ie_8_1, ie_8_2, ie_8_3, ie_8_4, ie_8_20, ie_20_m2, ie_20_m1, ie_20_0, ie_20_1, ie_20_2, ie_20_3, ie_20_4, ie_20_8, am_ne1, am_ne2, am_I_wI, am_L_wL, am_P_wP, Nat.reduceEqDiff, false_and, if_false, if_true, vq_rr, vq_rn, vq_li, vq_ll, vq_lar, vq_laf, vq_lan, vq_arr, vq_d0, vq_p0, vq_ps, am_get_0, am_get_s, am_set_0, am_set_s, am_rf_none, am_rf_some, am_S_wI, am_S_wL, am_S_wP, am_L_wI, am_P_wI, am_I_wL, am_P_wL, am_I_wP, am_L_wP, am_N_wI, am_N_wL, am_N_wP, am_ok_l, am_push_n, am_push_s, am_ent_nil, am_ent_i, am_ent_r, am_ent_f, am_ent_n, am_ent_l, not_true_eq_false, not_false_eq_true, false_implies, true_implies, implies_true, Int32.reduceAdd, Int32.reduceLT, Int32.reduceLE, true_or, or_true, eq_self, List.replicate_succ, List.replicate_zero, Nat.reduceSub, Nat.reduceAdd, Nat.reduceLeDiff, Nat.add_one_sub_one, Nat.add_sub_cancel, true_and, and_true, Nat.le_add_left, Nat.zero_sub, Nat.sub_zero, Nat.sub_self, Nat.add_zero, Nat.zero_add, l52, k52_0, k52_1, k52_4, k52_7, k52_10, k52_11, k52_12, k52_14, k52_16, k52_19, k52_20, k52_23, k52_25, k52_26, k52_29, k52_31, k52_33, k52_34, k52_37, k52_38, k52_41, k52_43, k52_44, k52_45, k52_48, k52_49, k52_50, k52_51, k52_54, k52_56, k52_57, k52_60, k52_63, k52_64, k52_65, k52_68, k52_71, k52_74, k52_76, k52_77, k52_78, k52_79, k52_81, k52_82, k52_83, k52_86, k52_88, k52_89, k52_92, k52_94, k52_96, k52_97, k52_100, k52_101, k52_104, k52_106, k52_108, k52_109, k52_110, k52_113, k52_114, k52_117, k52_119, k52_120, k52_121, k52_124, k52_127, hP3.1, hP3.2.1.1, hP3.2.2.2.1, hm3.1.1.1, earr]
        refine M_loads hm3.1.1 hm3.1.2.1 hm3.1.2.2 ?_
        rw [w2]
        simp only [am_ok_l, am_push_s]
        refine am_go 100 ?_
        simp only [vq_s, vq_0, vq_h, am_clr_eq, vq_1, vq_2, vq_3, vq_4, vq_5, vq_6, vq_7, vq_8, vq_9, vq_10, vq_11, vq_12, vq_13, vq_14, vq_15, vq_16, vq_17, vq_20, vq_21, vq_22, vq_23, vq_24, vq_25, vq_26, vq_27, vq_28, vq_29, vq_30, vq_31, vq_32, vq_33, vq_34, vq_35, vq_36, vq_37, vq_38, vq_39, vq_40, vq_41, vq_42, vq_43, vq_44, vq_45, vq_50, vq_51, vq_52, vq_53, vq_54, vq_55, vq_56, vq_57, vq_58, vq_59, vq_60, vq_61, vq_62, vq_63, vq_64, vq_70, vq_71, vq_72, vq_73, vq_74, vq_75, vq_76, vq_77, vq_78, vq_79, vq_80, vq_81, vq_85, vq_86, vq_87, vq_88, vq_89, vq_90, vq_91, vq_92, vq_93, vq_95, vq_96, vq_100, vq_101, vq_110, vq_111, vq_112, vq_113, vq_114, vq_200, vq_s1, vq_s2, vq_t1, vq_t2, vq_st, vq_r1, vq_sr, vq_ssr, vq_tsr, vq_v1, vq_v2, vq_e, vq_nln, vq_nli, vq_nlr, vq_nlf, vq_nlu, vq_isAr, vq_isAf, vq_isAu, vq_di, vq_dr, vq_df, vq_du, vq_dl, vq_sf, vq_f1, ie_m2_m1, ie_m2_0, ie_m2_1, ie_m2_2, ie_m2_3, ie_m2_4, ie_m2_8, ie_m2_20, ie_m1_m2, ie_m1_0, ie_m1_1, ie_m1_2, ie_m1_3, ie_m1_4, ie_m1_8, ie_m1_20, ie_0_m2, ie_0_m1, ie_0_1, ie_0_2, ie_0_3, ie_0_4, ie_0_8, ie_0_20, ie_1_m2, ie_1_m1, ie_1_0, ie_1_2, ie_1_3, ie_1_4, ie_1_8, ie_1_20, ie_2_m2, ie_2_m1, ie_2_0, ie_2_1, ie_2_3, ie_2_4, ie_2_8, ie_2_20, ie_3_m2, ie_3_m1, ie_3_0, ie_3_1, ie_3_2, ie_3_4, ie_3_8, ie_3_20, ie_4_m2, ie_4_m1, ie_4_0, ie_4_1, ie_4_2, ie_4_3, ie_4_8, ie_4_20, ie_8_m2, ie_8_m1, ie_8_0, ie_8_1, ie_8_2, ie_8_3, ie_8_4, ie_8_20, ie_20_m2, ie_20_m1, ie_20_0, ie_20_1, ie_20_2, ie_20_3, ie_20_4, ie_20_8, am_ne1, am_ne2, am_I_wI, am_L_wL, am_P_wP, Nat.reduceEqDiff, false_and, if_false, if_true, vq_rr, vq_rn, vq_li, vq_ll, vq_lar, vq_laf, vq_lan, vq_arr, vq_d0, vq_p0, vq_ps, am_get_0, am_get_s, am_set_0, am_set_s, am_rf_none, am_rf_some, am_S_wI, am_S_wL, am_S_wP, am_L_wI, am_P_wI, am_I_wL, am_P_wL, am_I_wP, am_L_wP, am_N_wI, am_N_wL, am_N_wP, am_ok_l, am_push_n, am_push_s, am_ent_nil, am_ent_i, am_ent_r, am_ent_f, am_ent_n, am_ent_l, not_true_eq_false, not_false_eq_true, false_implies, true_implies, implies_true, Int32.reduceAdd, Int32.reduceLT, Int32.reduceLE, true_or, or_true, eq_self, List.replicate_succ, List.replicate_zero, Nat.reduceSub, Nat.reduceAdd, Nat.reduceLeDiff, Nat.add_one_sub_one, Nat.add_sub_cancel, true_and, and_true, Nat.le_add_left, Nat.zero_sub, Nat.sub_zero, Nat.sub_self, Nat.add_zero, Nat.zero_add, l52, k52_0, k52_1, k52_4, k52_7, k52_10, k52_11, k52_12, k52_14, k52_16, k52_19, k52_20, k52_23, k52_25, k52_26, k52_29, k52_31, k52_33, k52_34, k52_37, k52_38, k52_41, k52_43, k52_44, k52_45, k52_48, k52_49, k52_50, k52_51, k52_54, k52_56, k52_57, k52_60, k52_63, k52_64, k52_65, k52_68, k52_71, k52_74, k52_76, k52_77, k52_78, k52_79, k52_81, k52_82, k52_83, k52_86, k52_88, k52_89, k52_92, k52_94, k52_96, k52_97, k52_100, k52_101, k52_104, k52_106, k52_108, k52_109, k52_110, k52_113, k52_114, k52_117, k52_119, k52_120, k52_121, k52_124, k52_127, hP3.1, nI_1]
        refine M_bestFrom (val := vlx h m n N ks) (by omega) hP3 hm3.1 (sp_gp_c ea gp) f2 (fun j hj hs => ?_) ?_
        · rw [ev]
          refine hv j ?_ hj
          rcases Nat.lt_or_ge i j with w | w
          · omega
          · have := hso j i w (by omega)
            omega
        rw [show pl_bst h2 m n ks (vlx h m n N ks) (x / 32768 + 1) (am_I h2 (P + 2)) = pl_bst h m n ks (vlx h m n N ks) (x / 32768 + 1) (mp_at h m n x) from by
          rw [pl_bst_c ea hm.1.2.1]
          unfold pl_bst
          rw [mv_W_eq w0 w3]]
        simp only [am_ok_l, am_push_s]
        have g0 : am_S h2 F = (1, 3) := by rw [F2.1, ← e.1]; exact hFF.1
        have g1 : am_P h2 F 1 = some (F + 2) := by rw [F2.2.1, ← e.2.1]; exact hFF.2.1.2.1
        have g2 : am_S h2 (F + 2) = (2, 4000) := by rw [F2.1, ← e.1]; exact hFF.2.2.2.1
        refine am_go 100 ?_
        simp only [vq_s, vq_0, vq_h, am_clr_eq, vq_1, vq_2, vq_3, vq_4, vq_5, vq_6, vq_7, vq_8, vq_9, vq_10, vq_11, vq_12, vq_13, vq_14, vq_15, vq_16, vq_17, vq_20, vq_21, vq_22, vq_23, vq_24, vq_25, vq_26, vq_27, vq_28, vq_29, vq_30, vq_31, vq_32, vq_33, vq_34, vq_35, vq_36, vq_37, vq_38, vq_39, vq_40, vq_41, vq_42, vq_43, vq_44, vq_45, vq_50, vq_51, vq_52, vq_53, vq_54, vq_55, vq_56, vq_57, vq_58, vq_59, vq_60, vq_61, vq_62, vq_63, vq_64, vq_70, vq_71, vq_72, vq_73, vq_74, vq_75, vq_76, vq_77, vq_78, vq_79, vq_80, vq_81, vq_85, vq_86, vq_87, vq_88, vq_89, vq_90, vq_91, vq_92, vq_93, vq_95, vq_96, vq_100, vq_101, vq_110, vq_111, vq_112, vq_113, vq_114, vq_200, vq_s1, vq_s2, vq_t1, vq_t2, vq_st, vq_r1, vq_sr, vq_ssr, vq_tsr, vq_v1, vq_v2, vq_e, vq_nln, vq_nli, vq_nlr, vq_nlf, vq_nlu, vq_isAr, vq_isAf, vq_isAu, vq_di, vq_dr, vq_df, vq_du, vq_dl, vq_sf, vq_f1, ie_m2_m1, ie_m2_0, ie_m2_1, ie_m2_2, ie_m2_3, ie_m2_4, ie_m2_8, ie_m2_20, ie_m1_m2, ie_m1_0, ie_m1_1, ie_m1_2, ie_m1_3, ie_m1_4, ie_m1_8, ie_m1_20, ie_0_m2, ie_0_m1, ie_0_1, ie_0_2, ie_0_3, ie_0_4, ie_0_8, ie_0_20, ie_1_m2, ie_1_m1, ie_1_0, ie_1_2, ie_1_3, ie_1_4, ie_1_8, ie_1_20, ie_2_m2, ie_2_m1, ie_2_0, ie_2_1, ie_2_3, ie_2_4, ie_2_8, ie_2_20, ie_3_m2, ie_3_m1, ie_3_0, ie_3_1, ie_3_2, ie_3_4, ie_3_8, ie_3_20, ie_4_m2, ie_4_m1, ie_4_0, ie_4_1, ie_4_2, ie_4_3, ie_4_8, ie_4_20, ie_8_m2, ie_8_m1, ie_8_0, ie_8_1, ie_8_2, ie_8_3, ie_8_4, ie_8_20, ie_20_m2, ie_20_m1, ie_20_0, ie_20_1, ie_20_2, ie_20_3, ie_20_4, ie_20_8, am_ne1, am_ne2, am_I_wI, am_L_wL, am_P_wP, Nat.reduceEqDiff, false_and, if_false, if_true, vq_rr, vq_rn, vq_li, vq_ll, vq_lar, vq_laf, vq_lan, vq_arr, vq_d0, vq_p0, vq_ps, am_get_0, am_get_s, am_set_0, am_set_s, am_rf_none, am_rf_some, am_S_wI, am_S_wL, am_S_wP, am_L_wI, am_P_wI, am_I_wL, am_P_wL, am_I_wP, am_L_wP, am_N_wI, am_N_wL, am_N_wP, am_ok_l, am_push_n, am_push_s, am_ent_nil, am_ent_i, am_ent_r, am_ent_f, am_ent_n, am_ent_l, not_true_eq_false, not_false_eq_true, false_implies, true_implies, implies_true, Int32.reduceAdd, Int32.reduceLT, Int32.reduceLE, true_or, or_true, eq_self, List.replicate_succ, List.replicate_zero, Nat.reduceSub, Nat.reduceAdd, Nat.reduceLeDiff, Nat.add_one_sub_one, Nat.add_sub_cancel, true_and, and_true, Nat.le_add_left, Nat.zero_sub, Nat.sub_zero, Nat.sub_self, Nat.add_zero, Nat.zero_add, l52, k52_0, k52_1, k52_4, k52_7, k52_10, k52_11, k52_12, k52_14, k52_16, k52_19, k52_20, k52_23, k52_25, k52_26, k52_29, k52_31, k52_33, k52_34, k52_37, k52_38, k52_41, k52_43, k52_44, k52_45, k52_48, k52_49, k52_50, k52_51, k52_54, k52_56, k52_57, k52_60, k52_63, k52_64, k52_65, k52_68, k52_71, k52_74, k52_76, k52_77, k52_78, k52_79, k52_81, k52_82, k52_83, k52_86, k52_88, k52_89, k52_92, k52_94, k52_96, k52_97, k52_100, k52_101, k52_104, k52_106, k52_108, k52_109, k52_110, k52_113, k52_114, k52_117, k52_119, k52_120, k52_121, k52_124, k52_127, g0, g1, g2, hck, hvi, em]
        refine ⟨fun y => ?_, fun y => ?_⟩
        · rw [if_neg y] at hst
          exact sm1 _ _ _ h2 _ F2 f2 ev hst.symm
        · rw [if_pos y] at hst
          exact sm1 _ _ _ h2 _ F2 f2 ev hst.symm
      · obtain ⟨e2, -⟩ := q
        rw [mv_harm_eq u0 u1 u3] at hq
        rw [if_neg hq] at hst
        have F2 : am_fr h h2 (X_val P F) := e.tr (e2.wk (fun q z => Or.inl (by unfold X_cars at z; omega))) (fun _ z => z)
        have f2 : f_in h2 F ks := hf0.fq (e2.q (fun _ => False)) (by unfold X_cars; omega) (by unfold X_cars; omega) (fun z => z)
        have ev : am_I h2 (F + 2) = am_I hk (F + 2) := e2.f (by unfold X_cars; omega)
        have g0 : am_S h2 F = (1, 3) := by rw [F2.1, ← e.1]; exact hFF.1
        have g1 : am_P h2 F 1 = some (F + 2) := by rw [F2.2.1, ← e.2.1]; exact hFF.2.1.2.1
        have g2 : am_S h2 (F + 2) = (2, 4000) := by rw [F2.1, ← e.1]; exact hFF.2.2.2.1
        simp only [am_ok_l, am_push_s]
        refine am_go 100 ?_
        simp only [vq_s, vq_0, vq_h, am_clr_eq, vq_1, vq_2, vq_3, vq_4, vq_5, vq_6, vq_7, vq_8, vq_9, vq_10, vq_11, vq_12, vq_13, vq_14, vq_15, vq_16, vq_17, vq_20, vq_21, vq_22, vq_23, vq_24, vq_25, vq_26, vq_27, vq_28, vq_29, vq_30, vq_31, vq_32, vq_33, vq_34, vq_35, vq_36, vq_37, vq_38, vq_39, vq_40, vq_41, vq_42, vq_43, vq_44, vq_45, vq_50, vq_51, vq_52, vq_53, vq_54, vq_55, vq_56, vq_57, vq_58, vq_59, vq_60, vq_61, vq_62, vq_63, vq_64, vq_70, vq_71, vq_72, vq_73, vq_74, vq_75, vq_76, vq_77, vq_78, vq_79, vq_80, vq_81, vq_85, vq_86, vq_87, vq_88, vq_89, vq_90, vq_91, vq_92, vq_93, vq_95, vq_96, vq_100, vq_101, vq_110, vq_111, vq_112, vq_113, vq_114, vq_200, vq_s1, vq_s2, vq_t1, vq_t2, vq_st, vq_r1, vq_sr, vq_ssr, vq_tsr, vq_v1, vq_v2, vq_e, vq_nln, vq_nli, vq_nlr, vq_nlf, vq_nlu, vq_isAr, vq_isAf, vq_isAu, vq_di, vq_dr, vq_df, vq_du, vq_dl, vq_sf, vq_f1, ie_m2_m1, ie_m2_0, ie_m2_1, ie_m2_2, ie_m2_3, ie_m2_4, ie_m2_8, ie_m2_20, ie_m1_m2, ie_m1_0, ie_m1_1, ie_m1_2, ie_m1_3, ie_m1_4, ie_m1_8, ie_m1_20, ie_0_m2, ie_0_m1, ie_0_1, ie_0_2, ie_0_3, ie_0_4, ie_0_8, ie_0_20, ie_1_m2, ie_1_m1, ie_1_0, ie_1_2, ie_1_3, ie_1_4, ie_1_8, ie_1_20, ie_2_m2, ie_2_m1, ie_2_0, ie_2_1, ie_2_3, ie_2_4, ie_2_8, ie_2_20, ie_3_m2, ie_3_m1, ie_3_0, ie_3_1, ie_3_2, ie_3_4, ie_3_8, ie_3_20, ie_4_m2, ie_4_m1, ie_4_0, ie_4_1, ie_4_2, ie_4_3, ie_4_8, ie_4_20, ie_8_m2, ie_8_m1, ie_8_0, ie_8_1, ie_8_2, ie_8_3, ie_8_4, ie_8_20, ie_20_m2, ie_20_m1, ie_20_0, ie_20_1, ie_20_2, ie_20_3, ie_20_4, ie_20_8, am_ne1, am_ne2, am_I_wI, am_L_wL, am_P_wP, Nat.reduceEqDiff, false_and, if_false, if_true, vq_rr, vq_rn, vq_li, vq_ll, vq_lar, vq_laf, vq_lan, vq_arr, vq_d0, vq_p0, vq_ps, am_get_0, am_get_s, am_set_0, am_set_s, am_rf_none, am_rf_some, am_S_wI, am_S_wL, am_S_wP, am_L_wI, am_P_wI, am_I_wL, am_P_wL, am_I_wP, am_L_wP, am_N_wI, am_N_wL, am_N_wP, am_ok_l, am_push_n, am_push_s, am_ent_nil, am_ent_i, am_ent_r, am_ent_f, am_ent_n, am_ent_l, not_true_eq_false, not_false_eq_true, false_implies, true_implies, implies_true, Int32.reduceAdd, Int32.reduceLT, Int32.reduceLE, true_or, or_true, eq_self, List.replicate_succ, List.replicate_zero, Nat.reduceSub, Nat.reduceAdd, Nat.reduceLeDiff, Nat.add_one_sub_one, Nat.add_sub_cancel, true_and, and_true, Nat.le_add_left, Nat.zero_sub, Nat.sub_zero, Nat.sub_self, Nat.add_zero, Nat.zero_add, l52, k52_0, k52_1, k52_4, k52_7, k52_10, k52_11, k52_12, k52_14, k52_16, k52_19, k52_20, k52_23, k52_25, k52_26, k52_29, k52_31, k52_33, k52_34, k52_37, k52_38, k52_41, k52_43, k52_44, k52_45, k52_48, k52_49, k52_50, k52_51, k52_54, k52_56, k52_57, k52_60, k52_63, k52_64, k52_65, k52_68, k52_71, k52_74, k52_76, k52_77, k52_78, k52_79, k52_81, k52_82, k52_83, k52_86, k52_88, k52_89, k52_92, k52_94, k52_96, k52_97, k52_100, k52_101, k52_104, k52_106, k52_108, k52_109, k52_110, k52_113, k52_114, k52_117, k52_119, k52_120, k52_121, k52_124, k52_127, g0, g1, g2, hck, hvi, em]
        exact sm1 _ _ _ h2 _ F2 f2 ev hst.symm
end
