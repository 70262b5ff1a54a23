/-! Found: add, indexOf, clear -/
theorem gd_app {ks : List Nat} {x i : Nat} (hi : i < ks.length) : (ks ++ [x]).getD i 0 = ks.getD i 0 := by
  rw [List.getD_eq_getElem?_getD, List.getD_eq_getElem?_getD, List.getElem?_append_left hi]
theorem gd_len {ks : List Nat} {x : Nat} : (ks ++ [x]).getD ks.length 0 = x := by
  rw [List.getD_eq_getElem?_getD, List.getElem?_append_right (Nat.le_refl _), Nat.sub_self]; rfl
theorem gd_mem {ks : List Nat} {i : Nat} (hi : i < ks.length) : ks.getD i 0 ∈ ks := by
  rw [List.getD_eq_getElem?_getD, List.getElem?_eq_getElem hi]; exact List.getElem_mem hi
theorem nI_ij {a b : Nat} (ha : a < 2 ^ 31) (hb : b < 2 ^ 31) (e : nI a = nI b) : a = b := by
  have := congrArg Int32.toNatClampNeg e
  rw [nI_clamp ha, nI_clamp hb] at this
  exact this
def f_add (ks : List Nat) (x : Nat) : List Nat := if x ∈ ks then ks else ks ++ [x]
theorem is_Found.fq {h h' : Am_H} {X Y : Nat → Prop} {c : Nat} (a : is_Found h c) (b : am_fq h h' X Y) : is_Found h' c := by
  unfold is_Found at *
  rw [b.1, b.2.1]
  exact a
theorem f_in.fq {h h' : Am_H} {X Y : Nat → Prop} {F : Nat} {ks : List Nat} (a : f_in h F ks) (b : am_fq h h' X Y) (h1 : ¬ X F) (h3 : ¬ X (F + 3)) (hy : ¬ Y (F + 1)) : f_in h' F ks := by
  obtain ⟨v, t, a1, a2, a3, a4, a5, a6⟩ := a
  refine ⟨v, t, a1.fq b, a2, by rw [b.2.2.2.1 _ h1]; exact a3, fun i hi => by rw [b.2.2.2.2 _ hy]; exact a4 i hi, fun s hs => by rw [b.2.2.2.1 _ h3]; exact a5 s hs, a6⟩
section
variable {l : Am_L} {d : Nat} {h : Am_H} {m c n F : Nat} {K : Am_R → Am_H → Prop}
def X_add (F : Nat) : Nat → Prop := fun q => q = F ∨ q = F + 3
set_option maxHeartbeats 1000000 in
theorem M_add {x : Nat} {ks : List Nat} (hF : f_in h F ks) (hx : x < 2 ^ 63) (hK1 : (x ∈ ks ∨ ks.length < 4000) → ∀ h', am_fq h h' (X_add F) (fun q => q = F + 1) → f_in h' F (f_add ks x) → K (.inl (some (.int 1))) h') (hK0 : ¬ x ∈ ks → ks.length = 4000 → K (.inl (some (.int 0))) h) : am_M l (d + 1) 0 0 33 [.ref F, .long (lN x)] h K := by
  obtain ⟨v, t, hF⟩ := hF
  have hF0 := hF
  obtain ⟨u0, hu0, hu1, hu2⟩ := f_first hF x
  obtain ⟨⟨s0, ⟨p0, p1, p2⟩, s1, s2, s3⟩, hl, hsz, hk, hv, hj, ht⟩ := hF
  refine am_enter (mi := 33) (am_ckP_all 33 (by decide)) (Nat.le_of_ble_eq_true rfl) (by decide) ?_
  refine am_go 100 ?_
  simp only [vq_s, vq_0, vq_h, am_clr_eq, vq_1, vq_2, vq_3, vq_4, vq_5, vq_6, vq_7, vq_8, vq_9, vq_10, vq_11, vq_12, vq_13, vq_14, vq_15, vq_16, vq_17, vq_20, vq_21, vq_22, vq_23, vq_24, vq_25, vq_26, vq_27, vq_28, vq_29, vq_30, vq_31, vq_32, vq_33, vq_34, vq_35, vq_36, vq_37, vq_38, vq_39, vq_40, vq_41, vq_42, vq_43, vq_44, vq_45, vq_50, vq_51, vq_52, vq_53, vq_54, vq_55, vq_56, vq_57, vq_58, vq_59, vq_60, vq_61, vq_62, vq_63, vq_64, vq_70, vq_71, vq_72, vq_73, vq_74, vq_75, vq_76, vq_77, vq_78, vq_79, vq_80, vq_81, vq_85, vq_86, vq_87, vq_88, vq_89, vq_90, vq_91, vq_92, vq_93, vq_95, vq_96, vq_100, vq_101, vq_110, vq_111, vq_112, vq_113, vq_114, vq_200, vq_s1, vq_s2, vq_t1, vq_t2, vq_st, vq_r1, vq_sr, vq_ssr, vq_tsr, vq_v1, vq_v2, vq_e, vq_nln, vq_nli, vq_nlr, vq_nlf, vq_nlu, vq_isAr, vq_isAf, vq_isAu, vq_di, vq_dr, vq_df, vq_du, vq_dl, vq_sf, vq_f1, ie_m2_m1, ie_m2_0, ie_m2_1, ie_m2_2, ie_m2_3, ie_m2_4, ie_m2_8, ie_m2_20, ie_m1_m2, ie_m1_0, ie_m1_1, ie_m1_2, ie_m1_3, ie_m1_4, ie_m1_8, ie_m1_20, ie_0_m2, ie_0_m1, ie_0_1, ie_0_2, ie_0_3, ie_0_4, ie_0_8, ie_0_20, ie_1_m2, ie_1_m1, ie_1_0, ie_1_2, ie_1_3, ie_1_4, ie_1_8, ie_1_20, ie_2_m2, ie_2_m1, ie_2_0, ie_2_1, ie_2_3, ie_2_4, ie_2_8, ie_2_20, ie_3_m2, ie_3_m1, ie_3_0, ie_3_1, ie_3_2, ie_3_4, ie_3_8, ie_3_20, ie_4_m2, ie_4_m1, ie_4_0, ie_4_1, ie_4_2, ie_4_3, ie_4_8, ie_4_20, ie_8_m2, ie_8_m1, ie_8_0, ie_8_1, ie_8_2, ie_8_3, ie_8_4, ie_8_20, ie_20_m2, ie_20_m1, ie_20_0, ie_20_1, ie_20_2, ie_20_3, ie_20_4, ie_20_8, am_ne1, am_ne2, am_I_wI, am_L_wL, am_P_wP, Nat.reduceEqDiff, false_and, if_false, if_true, vq_rr, vq_rn, vq_li, vq_ll, vq_lar, vq_laf, vq_lan, vq_arr, vq_d0, vq_p0, vq_ps, am_get_0, am_get_s, am_set_0, am_set_s, am_rf_none, am_rf_some, am_S_wI, am_S_wL, am_S_wP, am_L_wI, am_P_wI, am_I_wL, am_P_wL, am_I_wP, am_L_wP, am_N_wI, am_N_wL, am_N_wP, am_ok_l, am_push_n, am_push_s, am_ent_nil, am_ent_i, am_ent_r, am_ent_f, am_ent_n, am_ent_l, not_true_eq_false, not_false_eq_true, false_implies, true_implies, implies_true, Int32.reduceAdd, Int32.reduceLT, Int32.reduceLE, true_or, or_true, eq_self, List.replicate_succ, List.replicate_zero, Nat.reduceSub, Nat.reduceAdd, Nat.reduceLeDiff, Nat.add_one_sub_one, Nat.add_sub_cancel, true_and, and_true, Nat.le_add_left, Nat.zero_sub, Nat.sub_zero, Nat.sub_self, Nat.add_zero, Nat.zero_add, l33, k33_0, k33_1, k33_2, k33_5, k33_6, k33_7, k33_10, k33_11, k33_12, k33_15, k33_16, k33_17, k33_18, k33_21, k33_24, k33_27, k33_28, k33_29, k33_30, k33_33, k33_34, k33_37, k33_38, k33_39, k33_40, k33_41, k33_44, k33_45, k33_46, k33_49, k33_50, k33_53, k33_54, k33_55, k33_58, k33_59, k33_60, s0]
  refine M_slotOf hF0 hx hu0 hu1 hu2 ?_
  have hlt : (sl_h x + u0) % 8192 < 8192 := Nat.mod_lt _ (by omega)
  have hvi : vp_in (nI ((sl_h x + u0) % 8192)) 8192 := vp_in_nI (by omega) (by omega)
  have hck : (nI ((sl_h x + u0) % 8192)).toNatClampNeg = (sl_h x + u0) % 8192 := nI_clamp (by omega)
  obtain ⟨hv1, hv2⟩ := hv _ hlt
  simp only [am_ok_l, am_push_s]
  have hcl : (nI ks.length).toNatClampNeg = ks.length := nI_clamp (by omega)
  refine am_go 100 ?_
  simp only [vq_s, vq_0, vq_h, am_clr_eq, vq_1, vq_2, vq_3, vq_4, vq_5, vq_6, vq_7, vq_8, vq_9, vq_10, vq_11, vq_12, vq_13, vq_14, vq_15, vq_16, vq_17, vq_20, vq_21, vq_22, vq_23, vq_24, vq_25, vq_26, vq_27, vq_28, vq_29, vq_30, vq_31, vq_32, vq_33, vq_34, vq_35, vq_36, vq_37, vq_38, vq_39, vq_40, vq_41, vq_42, vq_43, vq_44, vq_45, vq_50, vq_51, vq_52, vq_53, vq_54, vq_55, vq_56, vq_57, vq_58, vq_59, vq_60, vq_61, vq_62, vq_63, vq_64, vq_70, vq_71, vq_72, vq_73, vq_74, vq_75, vq_76, vq_77, vq_78, vq_79, vq_80, vq_81, vq_85, vq_86, vq_87, vq_88, vq_89, vq_90, vq_91, vq_92, vq_93, vq_95, vq_96, vq_100, vq_101, vq_110, vq_111, vq_112, vq_113, vq_114, vq_200, vq_s1, vq_s2, vq_t1, vq_t2, vq_st, vq_r1, vq_sr, vq_ssr, vq_tsr, vq_v1, vq_v2, vq_e, vq_nln, vq_nli, vq_nlr, vq_nlf, vq_nlu, vq_isAr, vq_isAf, vq_isAu, vq_di, vq_dr, vq_df, vq_du, vq_dl, vq_sf, vq_f1, ie_m2_m1, ie_m2_0, ie_m2_1, ie_m2_2, ie_m2_3, ie_m2_4, ie_m2_8, ie_m2_20, ie_m1_m2, ie_m1_0, ie_m1_1, ie_m1_2, ie_m1_3, ie_m1_4, ie_m1_8, ie_m1_20, ie_0_m2, ie_0_m1, ie_0_1, ie_0_2, ie_0_3, ie_0_4, ie_0_8, ie_0_20, ie_1_m2, ie_1_m1, ie_1_0, ie_1_2, ie_1_3, ie_1_4, ie_1_8, ie_1_20, ie_2_m2, ie_2_m1, ie_2_0, ie_2_1, ie_2_3, ie_2_4, ie_2_8, ie_2_20, ie_3_m2, ie_3_m1, ie_3_0, ie_3_1, ie_3_2, ie_3_4, ie_3_8, ie_3_20, ie_4_m2, ie_4_m1, ie_4_0, ie_4_1, ie_4_2, ie_4_3, ie_4_8, ie_4_20, ie_8_m2, ie_8_m1, ie_8_0, ie_8_1, ie_8_2, ie_8_3, ie_8_4, ie_8_20, ie_20_m2, ie_20_m1, ie_20_0, ie_20_1, ie_20_2, ie_20_3, ie_20_4, ie_20_8, am_ne1, am_ne2, am_I_wI, am_L_wL, am_P_wP, Nat.reduceEqDiff, false_and, if_false, if_true, vq_rr, vq_rn, vq_li, vq_ll, vq_lar, vq_laf, vq_lan, vq_arr, vq_d0, vq_p0, vq_ps, am_get_0, am_get_s, am_set_0, am_set_s, am_rf_none, am_rf_some, am_S_wI, am_S_wL, am_S_wP, am_L_wI, am_P_wI, am_I_wL, am_P_wL, am_I_wP, am_L_wP, am_N_wI, am_N_wL, am_N_wP, am_ok_l, am_push_n, am_push_s, am_ent_nil, am_ent_i, am_ent_r, am_ent_f, am_ent_n, am_ent_l, not_true_eq_false, not_false_eq_true, false_implies, true_implies, implies_true, Int32.reduceAdd, Int32.reduceLT, Int32.reduceLE, true_or, or_true, eq_self, List.replicate_succ, List.replicate_zero, Nat.reduceSub, Nat.reduceAdd, Nat.reduceLeDiff, Nat.add_one_sub_one, Nat.add_sub_cancel, true_and, and_true, Nat.le_add_left, Nat.zero_sub, Nat.sub_zero, Nat.sub_self, Nat.add_zero, Nat.zero_add, l33, k33_0, k33_1, k33_2, k33_5, k33_6, k33_7, k33_10, k33_11, k33_12, k33_15, k33_16, k33_17, k33_18, k33_21, k33_24, k33_27, k33_28, k33_29, k33_30, k33_33, k33_34, k33_37, k33_38, k33_39, k33_40, k33_41, k33_44, k33_45, k33_46, k33_49, k33_50, k33_53, k33_54, k33_55, k33_58, k33_59, k33_60, s0, p0, p2, s1, s3, hvi, hck, hv1, hsz, hcl, nI_1]
  have hnz : ∀ i, i < 4000 → ¬ nI (i + 1) = 0 := fun i hi z => absurd (nI_ij (b := 0) (by omega) (by omega) z) (by omega)
  by_cases hm : x ∈ ks
  · obtain ⟨i, hi, e, ex⟩ := f_there hF0 hu1 hu2 hm
    rw [e]
    refine ⟨fun z => absurd z (hnz i (by omega)), fun _ => hK1 (Or.inl hm) h am_fq.rf ?_⟩
    rw [f_add, if_pos hm]
    exact ⟨v, t, hF0⟩
  · have e0 : v ((sl_h x + u0) % 8192) = 0 := by
      rcases hu1 with w | ⟨i, hi, w, ex⟩
      · exact w
      · exact absurd (ex ▸ gd_mem hi) hm
    rw [e0]
    refine ⟨fun _ => ⟨fun z => ?_, fun z => ?_⟩, fun z => absurd rfl z⟩
    · have hlt4 : ks.length < 4000 := (nI_ltI (b := 4000) (by omega) (by omega)).mp z
      refine ⟨vp_in_nI hlt4 (by omega), hK1 (Or.inr hlt4) _ (am_fq.w (am_fq.w (am_fq.wl (Y := fun q => q = F + 1) am_fq.rf rfl) (Or.inl rfl)) (Or.inr rfl)) ?_⟩
      rw [f_add, if_neg hm]
      refine ⟨fun s => if s = (sl_h x + u0) % 8192 then ks.length + 1 else v s, fun i => if i = ks.length then u0 else t i, ⟨s0, ⟨p0, p1, p2⟩, s1, s2, s3⟩, ?_, ?_, ?_, ?_, ?_, ?_⟩
      · rw [List.length_append]
        show ks.length + 1 ≤ 4000
        omega
      · rw [List.length_append]
        simp [am_I_wI]
      · intro i hi
        rw [List.length_append] at hi
        have hi : i < ks.length + 1 := hi
        by_cases q : i = ks.length
        · subst q
          rw [gd_len]
          exact ⟨by rw [am_L_wI, am_L_wI, am_L_wL, if_pos ⟨rfl, rfl⟩], hx⟩
        · rw [gd_app (by omega), am_L_wI, am_L_wI, am_L_wL, if_neg (fun z => q z.2)]
          exact hk i (by omega)
      · intro s hs
        rw [List.length_append, am_I_wI, am_I_wI, am_I_wL]
        show _ ∧ _ ≤ ks.length + 1
        by_cases q : s = (sl_h x + u0) % 8192
        · rw [if_pos ⟨rfl, q⟩]
          simp only [if_pos q]
          exact ⟨trivial, Nat.le_refl _⟩
        · rw [if_neg (fun z => q z.2), if_neg (fun z => absurd z.1 (by omega))]
          simp only [if_neg q]
          exact ⟨(hv s hs).1, Nat.le_succ_of_le (hv s hs).2⟩
      · intro s s' hs hs' q1 q2
        have b1 := (hv s hs).2
        have b2 := (hv s' hs').2
        by_cases q : s = (sl_h x + u0) % 8192 <;> by_cases q' : s' = (sl_h x + u0) % 8192
        · rw [q, q']
        · simp only [if_pos q, if_neg q'] at q2
          omega
        · simp only [if_neg q, if_pos q'] at q2
          omega
        · simp only [if_neg q, if_neg q'] at q1 q2
          exact hj s s' hs hs' q1 q2
      · intro i hi
        rw [List.length_append] at hi
        have hi : i < ks.length + 1 := hi
        by_cases q : i = ks.length
        · subst q
          rw [gd_len]
          simp only [if_pos]
          refine ⟨hu0, trivial, fun u hu => ?_⟩
          by_cases q : (sl_h x + u) % 8192 = (sl_h x + u0) % 8192
          · omega
          · rw [if_neg q]
            exact fun z => hu2 u hu (Or.inl z)
        · rw [gd_app (by omega)]
          simp only [if_neg q]
          obtain ⟨t1, t2, t3⟩ := ht i (by omega)
          refine ⟨t1, ?_, fun u hu => ?_⟩
          · rw [if_neg]
            · exact t2
            · intro z
              rw [z, e0] at t2
              omega
          · by_cases q : (sl_h (ks.getD i 0) + u) % 8192 = (sl_h x + u0) % 8192
            · rw [if_pos q]
              omega
            · rw [if_neg q]
              exact t3 u hu
    · have : ¬ ks.length < 4000 := fun w => z (nI_lt (b := 4000) w (by omega))
      exact hK0 hm (by omega)
/-- the place of a key in the list, 0 for none, else one more -/
theorem M_indexOf {x : Nat} {ks : List Nat} (hF : f_in h F ks) (hx : x < 2 ^ 63) (hK1 : ∀ i, i < ks.length → ks.getD i 0 = x → K (.inl (some (.int (nI i)))) h) (hK0 : ¬ x ∈ ks → K (.inl (some (.int (-1)))) h) : am_M l (d + 1) 0 0 35 [.ref F, .long (lN x)] h K := by
  obtain ⟨v, t, hF⟩ := hF
  have hF0 := hF
  obtain ⟨u0, hu0, hu1, hu2⟩ := f_first hF x
  obtain ⟨⟨s0, ⟨p0, p1, p2⟩, s1, s2, s3⟩, hl, hsz, hk, hv, hj, ht⟩ := hF
  refine am_enter (mi := 35) (am_ckP_all 35 (by decide)) (Nat.le_of_ble_eq_true rfl) (by decide) ?_
  refine am_go 100 ?_
  simp only [vq_s, vq_0, vq_h, am_clr_eq, vq_1, vq_2, vq_3, vq_4, vq_5, vq_6, vq_7, vq_8, vq_9, vq_10, vq_11, vq_12, vq_13, vq_14, vq_15, vq_16, vq_17, vq_20, vq_21, vq_22, vq_23, vq_24, vq_25, vq_26, vq_27, vq_28, vq_29, vq_30, vq_31, vq_32, vq_33, vq_34, vq_35, vq_36, vq_37, vq_38, vq_39, vq_40, vq_41, vq_42, vq_43, vq_44, vq_45, vq_50, vq_51, vq_52, vq_53, vq_54, vq_55, vq_56, vq_57, vq_58, vq_59, vq_60, vq_61, vq_62, vq_63, vq_64, vq_70, vq_71, vq_72, vq_73, vq_74, vq_75, vq_76, vq_77, vq_78, vq_79, vq_80, vq_81, vq_85, vq_86, vq_87, vq_88, vq_89, vq_90, vq_91, vq_92, vq_93, vq_95, vq_96, vq_100, vq_101, vq_110, vq_111, vq_112, vq_113, vq_114, vq_200, vq_s1, vq_s2, vq_t1, vq_t2, vq_st, vq_r1, vq_sr, vq_ssr, vq_tsr, vq_v1, vq_v2, vq_e, vq_nln, vq_nli, vq_nlr, vq_nlf, vq_nlu, vq_isAr, vq_isAf, vq_isAu, vq_di, vq_dr, vq_df, vq_du, vq_dl, vq_sf, vq_f1, ie_m2_m1, ie_m2_0, ie_m2_1, ie_m2_2, ie_m2_3, ie_m2_4, ie_m2_8, ie_m2_20, ie_m1_m2, ie_m1_0, ie_m1_1, ie_m1_2, ie_m1_3, ie_m1_4, ie_m1_8, ie_m1_20, ie_0_m2, ie_0_m1, ie_0_1, ie_0_2, ie_0_3, ie_0_4, ie_0_8, ie_0_20, ie_1_m2, ie_1_m1, ie_1_0, ie_1_2, ie_1_3, ie_1_4, ie_1_8, ie_1_20, ie_2_m2, ie_2_m1, ie_2_0, ie_2_1, ie_2_3, ie_2_4, ie_2_8, ie_2_20, ie_3_m2, ie_3_m1, ie_3_0, ie_3_1, ie_3_2, ie_3_4, ie_3_8, ie_3_20, ie_4_m2, ie_4_m1, ie_4_0, ie_4_1, ie_4_2, ie_4_3, ie_4_8, ie_4_20, ie_8_m2, ie_8_m1, ie_8_0, ie_8_1, ie_8_2, ie_8_3, ie_8_4, ie_8_20, ie_20_m2, ie_20_m1, ie_20_0, ie_20_1, ie_20_2, ie_20_3, ie_20_4, ie_20_8, am_ne1, am_ne2, am_I_wI, am_L_wL, am_P_wP, Nat.reduceEqDiff, false_and, if_false, if_true, vq_rr, vq_rn, vq_li, vq_ll, vq_lar, vq_laf, vq_lan, vq_arr, vq_d0, vq_p0, vq_ps, am_get_0, am_get_s, am_set_0, am_set_s, am_rf_none, am_rf_some, am_S_wI, am_S_wL, am_S_wP, am_L_wI, am_P_wI, am_I_wL, am_P_wL, am_I_wP, am_L_wP, am_N_wI, am_N_wL, am_N_wP, am_ok_l, am_push_n, am_push_s, am_ent_nil, am_ent_i, am_ent_r, am_ent_f, am_ent_n, am_ent_l, not_true_eq_false, not_false_eq_true, false_implies, true_implies, implies_true, Int32.reduceAdd, Int32.reduceLT, Int32.reduceLE, true_or, or_true, eq_self, List.replicate_succ, List.replicate_zero, Nat.reduceSub, Nat.reduceAdd, Nat.reduceLeDiff, Nat.add_one_sub_one, Nat.add_sub_cancel, true_and, and_true, Nat.le_add_left, Nat.zero_sub, Nat.sub_zero, Nat.sub_self, Nat.add_zero, Nat.zero_add, l35, k35_0, k35_1, k35_4, k35_5, k35_6, k35_9, k35_10, k35_11, k35_12, s0, p2]
  refine M_slotOf hF0 hx hu0 hu1 hu2 ?_
  have hlt : (sl_h x + u0) % 8192 < 8192 := Nat.mod_lt _ (by omega)
  have hvi : vp_in (nI ((sl_h x + u0) % 8192)) 8192 := vp_in_nI (by omega) (by omega)
  have hck : (nI ((sl_h x + u0) % 8192)).toNatClampNeg = (sl_h x + u0) % 8192 := nI_clamp (by omega)
  obtain ⟨hv1, hv2⟩ := hv _ hlt
  simp only [am_ok_l, am_push_s]
  refine am_go 100 ?_
  simp only [vq_s, vq_0, vq_h, am_clr_eq, vq_1, vq_2, vq_3, vq_4, vq_5, vq_6, vq_7, vq_8, vq_9, vq_10, vq_11, vq_12, vq_13, vq_14, vq_15, vq_16, vq_17, vq_20, vq_21, vq_22, vq_23, vq_24, vq_25, vq_26, vq_27, vq_28, vq_29, vq_30, vq_31, vq_32, vq_33, vq_34, vq_35, vq_36, vq_37, vq_38, vq_39, vq_40, vq_41, vq_42, vq_43, vq_44, vq_45, vq_50, vq_51, vq_52, vq_53, vq_54, vq_55, vq_56, vq_57, vq_58, vq_59, vq_60, vq_61, vq_62, vq_63, vq_64, vq_70, vq_71, vq_72, vq_73, vq_74, vq_75, vq_76, vq_77, vq_78, vq_79, vq_80, vq_81, vq_85, vq_86, vq_87, vq_88, vq_89, vq_90, vq_91, vq_92, vq_93, vq_95, vq_96, vq_100, vq_101, vq_110, vq_111, vq_112, vq_113, vq_114, vq_200, vq_s1, vq_s2, vq_t1, vq_t2, vq_st, vq_r1, vq_sr, vq_ssr, vq_tsr, vq_v1, vq_v2, vq_e, vq_nln, vq_nli, vq_nlr, vq_nlf, vq_nlu, vq_isAr, vq_isAf, vq_isAu, vq_di, vq_dr, vq_df, vq_du, vq_dl, vq_sf, vq_f1, ie_m2_m1, ie_m2_0, ie_m2_1, ie_m2_2, ie_m2_3, ie_m2_4, ie_m2_8, ie_m2_20, ie_m1_m2, ie_m1_0, ie_m1_1, ie_m1_2, ie_m1_3, ie_m1_4, ie_m1_8, ie_m1_20, ie_0_m2, ie_0_m1, ie_0_1, ie_0_2, ie_0_3, ie_0_4, ie_0_8, ie_0_20, ie_1_m2, ie_1_m1, ie_1_0, ie_1_2, ie_1_3, ie_1_4, ie_1_8, ie_1_20, ie_2_m2, ie_2_m1, ie_2_0, ie_2_1, ie_2_3, ie_2_4, ie_2_8, ie_2_20, ie_3_m2, ie_3_m1, ie_3_0, ie_3_1, ie_3_2, ie_3_4, ie_3_8, ie_3_20, ie_4_m2, ie_4_m1, ie_4_0, ie_4_1, ie_4_2, ie_4_3, ie_4_8, ie_4_20, ie_8_m2, ie_8_m1, ie_8_0, ie_8_1, ie_8_2, ie_8_3, ie_8_4, ie_8_20, ie_20_m2, ie_20_m1, ie_20_0, ie_20_1, ie_20_2, ie_20_3, ie_20_4, ie_20_8, am_ne1, am_ne2, am_I_wI, am_L_wL, am_P_wP, Nat.reduceEqDiff, false_and, if_false, if_true, vq_rr, vq_rn, vq_li, vq_ll, vq_lar, vq_laf, vq_lan, vq_arr, vq_d0, vq_p0, vq_ps, am_get_0, am_get_s, am_set_0, am_set_s, am_rf_none, am_rf_some, am_S_wI, am_S_wL, am_S_wP, am_L_wI, am_P_wI, am_I_wL, am_P_wL, am_I_wP, am_L_wP, am_N_wI, am_N_wL, am_N_wP, am_ok_l, am_push_n, am_push_s, am_ent_nil, am_ent_i, am_ent_r, am_ent_f, am_ent_n, am_ent_l, not_true_eq_false, not_false_eq_true, false_implies, true_implies, implies_true, Int32.reduceAdd, Int32.reduceLT, Int32.reduceLE, true_or, or_true, eq_self, List.replicate_succ, List.replicate_zero, Nat.reduceSub, Nat.reduceAdd, Nat.reduceLeDiff, Nat.add_one_sub_one, Nat.add_sub_cancel, true_and, and_true, Nat.le_add_left, Nat.zero_sub, Nat.sub_zero, Nat.sub_self, Nat.add_zero, Nat.zero_add, l35, k35_0, k35_1, k35_4, k35_5, k35_6, k35_9, k35_10, k35_11, k35_12, s0, p2, s3, hvi, hck, hv1]
  by_cases hm : x ∈ ks
  · obtain ⟨i, hi, e, ex⟩ := f_there hF0 hu1 hu2 hm
    rw [e, fq_pred]
    exact hK1 i hi ex
  · have e0 : v ((sl_h x + u0) % 8192) = 0 := by
      rcases hu1 with w | ⟨i, hi, w, ex⟩
      · exact w
      · exact absurd (ex ▸ gd_mem hi) hm
    rw [e0]
    exact hK0 hm
theorem M_clearF (hF : is_Found h F) (hK : ∀ h', am_fr h h' (X_add F) → f_in h' F [] → K (.inl none) h') : am_M l (d + 1) 0 0 32 [.ref F] h K := by
  have hF0 := hF
  obtain ⟨s0, ⟨p0, p1, p2⟩, s1, s2, s3⟩ := hF
  refine am_enter (mi := 32) (am_ckP_all 32 (by decide)) (Nat.le_of_ble_eq_true rfl) (by decide) ?_
  refine am_go 100 ?_
  simp only [vq_s, vq_0, vq_h, am_clr_eq, vq_1, vq_2, vq_3, vq_4, vq_5, vq_6, vq_7, vq_8, vq_9, vq_10, vq_11, vq_12, vq_13, vq_14, vq_15, vq_16, vq_17, vq_20, vq_21, vq_22, vq_23, vq_24, vq_25, vq_26, vq_27, vq_28, vq_29, vq_30, vq_31, vq_32, vq_33, vq_34, vq_35, vq_36, vq_37, vq_38, vq_39, vq_40, vq_41, vq_42, vq_43, vq_44, vq_45, vq_50, vq_51, vq_52, vq_53, vq_54, vq_55, vq_56, vq_57, vq_58, vq_59, vq_60, vq_61, vq_62, vq_63, vq_64, vq_70, vq_71, vq_72, vq_73, vq_74, vq_75, vq_76, vq_77, vq_78, vq_79, vq_80, vq_81, vq_85, vq_86, vq_87, vq_88, vq_89, vq_90, vq_91, vq_92, vq_93, vq_95, vq_96, vq_100, vq_101, vq_110, vq_111, vq_112, vq_113, vq_114, vq_200, vq_s1, vq_s2, vq_t1, vq_t2, vq_st, vq_r1, vq_sr, vq_ssr, vq_tsr, vq_v1, vq_v2, vq_e, vq_nln, vq_nli, vq_nlr, vq_nlf, vq_nlu, vq_isAr, vq_isAf, vq_isAu, vq_di, vq_dr, vq_df, vq_du, vq_dl, vq_sf, vq_f1, ie_m2_m1, ie_m2_0, ie_m2_1, ie_m2_2, ie_m2_3, ie_m2_4, ie_m2_8, ie_m2_20, ie_m1_m2, ie_m1_0, ie_m1_1, ie_m1_2, ie_m1_3, ie_m1_4, ie_m1_8, ie_m1_20, ie_0_m2, ie_0_m1, ie_0_1, ie_0_2, ie_0_3, ie_0_4, ie_0_8, ie_0_20, ie_1_m2, ie_1_m1, ie_1_0, ie_1_2, ie_1_3, ie_1_4, ie_1_8, ie_1_20, ie_2_m2, ie_2_m1, ie_2_0, ie_2_1, ie_2_3, ie_2_4, ie_2_8, ie_2_20, ie_3_m2, ie_3_m1, ie_3_0, ie_3_1, ie_3_2, ie_3_4, ie_3_8, ie_3_20, ie_4_m2, ie_4_m1, ie_4_0, ie_4_1, ie_4_2, ie_4_3, ie_4_8, ie_4_20, ie_8_m2, ie_8_m1, ie_8_0, ie_8_1, ie_8_2, ie_8_3, ie_8_4, ie_8_20, ie_20_m2, ie_20_m1, ie_20_0, ie_20_1, ie_20_2, ie_20_3, ie_20_4, ie_20_8, am_ne1, am_ne2, am_I_wI, am_L_wL, am_P_wP, Nat.reduceEqDiff, false_and, if_false, if_true, vq_rr, vq_rn, vq_li, vq_ll, vq_lar, vq_laf, vq_lan, vq_arr, vq_d0, vq_p0, vq_ps, am_get_0, am_get_s, am_set_0, am_set_s, am_rf_none, am_rf_some, am_S_wI, am_S_wL, am_S_wP, am_L_wI, am_P_wI, am_I_wL, am_P_wL, am_I_wP, am_L_wP, am_N_wI, am_N_wL, am_N_wP, am_ok_l, am_push_n, am_push_s, am_ent_nil, am_ent_i, am_ent_r, am_ent_f, am_ent_n, am_ent_l, not_true_eq_false, not_false_eq_true, false_implies, true_implies, implies_true, Int32.reduceAdd, Int32.reduceLT, Int32.reduceLE, true_or, or_true, eq_self, List.replicate_succ, List.replicate_zero, Nat.reduceSub, Nat.reduceAdd, Nat.reduceLeDiff, Nat.add_one_sub_one, Nat.add_sub_cancel, true_and, and_true, Nat.le_add_left, Nat.zero_sub, Nat.sub_zero, Nat.sub_self, Nat.add_zero, Nat.zero_add, l32, k32_0, k32_1, k32_4, k32_5, k32_8, k32_9, k32_10, k32_13, s0, p2]
  refine M_fill (n := 8192) (by omega) s3 fun h2 e q => ?_
  simp only [am_ok_l, am_push_n]
  refine am_go 100 ?_
  simp only [vq_s, vq_0, vq_h, am_clr_eq, vq_1, vq_2, vq_3, vq_4, vq_5, vq_6, vq_7, vq_8, vq_9, vq_10, vq_11, vq_12, vq_13, vq_14, vq_15, vq_16, vq_17, vq_20, vq_21, vq_22, vq_23, vq_24, vq_25, vq_26, vq_27, vq_28, vq_29, vq_30, vq_31, vq_32, vq_33, vq_34, vq_35, vq_36, vq_37, vq_38, vq_39, vq_40, vq_41, vq_42, vq_43, vq_44, vq_45, vq_50, vq_51, vq_52, vq_53, vq_54, vq_55, vq_56, vq_57, vq_58, vq_59, vq_60, vq_61, vq_62, vq_63, vq_64, vq_70, vq_71, vq_72, vq_73, vq_74, vq_75, vq_76, vq_77, vq_78, vq_79, vq_80, vq_81, vq_85, vq_86, vq_87, vq_88, vq_89, vq_90, vq_91, vq_92, vq_93, vq_95, vq_96, vq_100, vq_101, vq_110, vq_111, vq_112, vq_113, vq_114, vq_200, vq_s1, vq_s2, vq_t1, vq_t2, vq_st, vq_r1, vq_sr, vq_ssr, vq_tsr, vq_v1, vq_v2, vq_e, vq_nln, vq_nli, vq_nlr, vq_nlf, vq_nlu, vq_isAr, vq_isAf, vq_isAu, vq_di, vq_dr, vq_df, vq_du, vq_dl, vq_sf, vq_f1, ie_m2_m1, ie_m2_0, ie_m2_1, ie_m2_2, ie_m2_3, ie_m2_4, ie_m2_8, ie_m2_20, ie_m1_m2, ie_m1_0, ie_m1_1, ie_m1_2, ie_m1_3, ie_m1_4, ie_m1_8, ie_m1_20, ie_0_m2, ie_0_m1, ie_0_1, ie_0_2, ie_0_3, ie_0_4, ie_0_8, ie_0_20, ie_1_m2, ie_1_m1, ie_1_0, ie_1_2, ie_1_3, ie_1_4, ie_1_8, ie_1_20, ie_2_m2, ie_2_m1, ie_2_0, ie_2_1, ie_2_3, ie_2_4, ie_2_8, ie_2_20, ie_3_m2, ie_3_m1, ie_3_0, ie_3_1, ie_3_2, ie_3_4, ie_3_8, ie_3_20, ie_4_m2, ie_4_m1, ie_4_0, ie_4_1, ie_4_2, ie_4_3, ie_4_8, ie_4_20, ie_8_m2, ie_8_m1, ie_8_0, ie_8_1, ie_8_2, ie_8_3, ie_8_4, ie_8_20, ie_20_m2, ie_20_m1, ie_20_0, ie_20_1, ie_20_2, ie_20_3, ie_20_4, ie_20_8, am_ne1, am_ne2, am_I_wI, am_L_wL, am_P_wP, Nat.reduceEqDiff, false_and, if_false, if_true, vq_rr, vq_rn, vq_li, vq_ll, vq_lar, vq_laf, vq_lan, vq_arr, vq_d0, vq_p0, vq_ps, am_get_0, am_get_s, am_set_0, am_set_s, am_rf_none, am_rf_some, am_S_wI, am_S_wL, am_S_wP, am_L_wI, am_P_wI, am_I_wL, am_P_wL, am_I_wP, am_L_wP, am_N_wI, am_N_wL, am_N_wP, am_ok_l, am_push_n, am_push_s, am_ent_nil, am_ent_i, am_ent_r, am_ent_f, am_ent_n, am_ent_l, not_true_eq_false, not_false_eq_true, false_implies, true_implies, implies_true, Int32.reduceAdd, Int32.reduceLT, Int32.reduceLE, true_or, or_true, eq_self, List.replicate_succ, List.replicate_zero, Nat.reduceSub, Nat.reduceAdd, Nat.reduceLeDiff, Nat.add_one_sub_one, Nat.add_sub_cancel, true_and, and_true, Nat.le_add_left, Nat.zero_sub, Nat.sub_zero, Nat.sub_self, Nat.add_zero, Nat.zero_add, l32, k32_0, k32_1, k32_4, k32_5, k32_8, k32_9, k32_10, k32_13, s0, e.1]
  have F2 : am_fr h (am_wI h2 F 3 0) (X_add F) := (e.wk (fun q z => Or.inr z)).w (Or.inl rfl)
  refine hK _ F2 ⟨fun _ => 0, fun _ => 0, hF0.fq (F2.q (fun _ => False)), by decide, ?_, fun i hi => absurd hi (by simp), fun s hs => ⟨?_, Nat.zero_le _⟩, fun s s' _ _ z => absurd rfl z, fun i hi => absurd hi (by simp)⟩
  · rw [am_I_wI, if_pos ⟨rfl, rfl⟩]; rfl
  · rw [am_I_wI, if_neg (fun z => absurd z.1 (by omega)), q s hs]; rfl
end
