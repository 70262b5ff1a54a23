/-! Day: remember, goBack, goBy -/
section
variable {l : Launch} {d : Nat} {h : Am_H} {m c n D : Nat} {K : Am_R → Am_H → Prop}
/-- the slot of the ring that comes next -/
def sp_slot (x : Nat) : Nat := if x = 300 then 0 else x
def q_rem (h h' : Am_H) (D x u : Nat) (key : Nat) : Prop := am_fq h h' (fun q => q = D ∨ q = D + 8) (fun q => q = D + 7) ∧ (∀ i, am_L h' (D + 7) i = if i = sp_slot x then lN key else am_L h (D + 7) i) ∧ (∀ i, am_I h' (D + 8) i = if i = sp_slot x then am_I h D 2 else am_I h (D + 8) i) ∧ ∀ i, am_I h' D i = if i = 7 then nI (sp_slot x + 1) else if i = 8 then nI (if u = 300 then 300 else u + 1) else am_I h D i
set_option maxHeartbeats 1000000 in
theorem M_remember {x u w : Nat} {a b : Nat → Nat} (hD : is_Day h D) (hx : am_I h D 7 = nI x) (hx3 : x ≤ 300) (hu : am_I h D 8 = nI u) (hu3 : u ≤ 300) (hf : sp_fit (am_I h (D + 2)) (am_I h (D + 3)) (am_I h (D + 1) 4) a b w) (hK : ∀ h', q_rem h h' D x u (sp_keyN a b w) → K (.inl none) h') : am_M l (d + 1) 0 0 23 [.ref D] h K := by
  have hD0 := hD
  obtain ⟨s0, ⟨p0, p4, p5, p6, p9, p10, p12⟩, ⟨s6, s7, s8, s9, s10, s11⟩, hc⟩ := hD
  have hs : sp_slot x < 300 := by unfold sp_slot; split <;> omega
  have key : ∀ (h1 : Am_H), am_fr h h1 (fun q => q = D) → (∀ i, am_I h1 D i = if i = 7 then nI (sp_slot x) else am_I h D i) → am_M l d 0 0 2 [.ref (D + 1)] h1 (fun r h' => am_ok r fun v => am_J l 23 (d + 1) 0 0 37 [some (.ref D)] (am_push v [.int (nI (sp_slot x)), .ref (D + 7)]) h' K) := by
    intro h1 e g
    have y7 : am_I h1 D 7 = nI (sp_slot x) := by rw [g, if_pos rfl]
    have y8 : am_I h1 D 8 = nI u := by rw [g, if_neg (by decide)]; exact hu
    have y2 : am_I h1 D 2 = am_I h D 2 := by rw [g, if_neg (by decide)]
    refine M_key (a := a) (b := b) (w := w) (hc.fr e) (by rw [e.f (q := D + 1) (by omega), e.f (q := D + 1 + 1) (by omega), e.f (q := D + 1 + 2) (by omega)]; exact hf) ?_
    simp only [am_ok_l, am_push_s]
    have hck : (nI (sp_slot x)).toNatClampNeg = sp_slot x := nI_clamp (by omega)
    have hv : vp_in (nI (sp_slot x)) 300 := vp_in_nI hs (by omega)
    refine am_go 100 ?_
    simp only [vq_s, vq_0, vq_h, am_clr_eq, vq_1, vq_2, vq_3, vq_4, vq_5, vq_6, vq_7, vq_8, vq_9, vq_10, vq_11, vq_12, vq_13, vq_14, vq_15, vq_16, vq_17, vq_20, vq_21, vq_22, vq_23, vq_24, vq_25, vq_26, vq_27, vq_28, vq_29, vq_30, vq_31, vq_32, vq_33, vq_34, vq_35, vq_36, vq_37, vq_38, vq_39, vq_40, vq_41, vq_42, vq_43, vq_44, vq_45, vq_50, vq_51, vq_52, vq_53, vq_54, vq_55, vq_56, vq_57, vq_58, vq_59, vq_60, vq_61, vq_62, vq_63, vq_64, vq_70, vq_71, vq_72, vq_73, vq_74, vq_75, vq_76, vq_77, vq_78, vq_79, vq_80, vq_81, vq_85, vq_86, vq_87, vq_88, vq_89, vq_90, vq_91, vq_92, vq_93, vq_100, vq_101, vq_110, vq_111, vq_112, vq_113, vq_114, vq_200, vq_s1, vq_s2, vq_t1, vq_t2, vq_st, vq_r1, vq_sr, vq_ssr, vq_tsr, vq_v1, vq_v2, vq_e, vq_nln, vq_nli, vq_nlr, vq_nlf, vq_nlu, vq_isAr, vq_isAf, vq_isAu, vq_di, vq_dr, vq_df, vq_du, vq_dl, ie_m2_m1, ie_m2_0, ie_m2_1, ie_m2_2, ie_m2_3, ie_m2_4, ie_m2_8, ie_m2_20, ie_m1_m2, ie_m1_0, ie_m1_1, ie_m1_2, ie_m1_3, ie_m1_4, ie_m1_8, ie_m1_20, ie_0_m2, ie_0_m1, ie_0_1, ie_0_2, ie_0_3, ie_0_4, ie_0_8, ie_0_20, ie_1_m2, ie_1_m1, ie_1_0, ie_1_2, ie_1_3, ie_1_4, ie_1_8, ie_1_20, ie_2_m2, ie_2_m1, ie_2_0, ie_2_1, ie_2_3, ie_2_4, ie_2_8, ie_2_20, ie_3_m2, ie_3_m1, ie_3_0, ie_3_1, ie_3_2, ie_3_4, ie_3_8, ie_3_20, ie_4_m2, ie_4_m1, ie_4_0, ie_4_1, ie_4_2, ie_4_3, ie_4_8, ie_4_20, ie_8_m2, ie_8_m1, ie_8_0, ie_8_1, ie_8_2, ie_8_3, ie_8_4, ie_8_20, ie_20_m2, ie_20_m1, ie_20_0, ie_20_1, ie_20_2, ie_20_3, ie_20_4, ie_20_8, am_ne1, am_ne2, am_I_wI, am_L_wL, am_P_wP, Nat.reduceEqDiff, false_and, if_false, if_true, vq_rr, vq_rn, vq_li, vq_ll, vq_lar, vq_laf, vq_lan, vq_arr, vq_d0, vq_p0, vq_ps, am_get_0, am_get_s, am_set_0, am_set_s, am_rf_none, am_rf_some, am_S_wI, am_S_wL, am_S_wP, am_L_wI, am_P_wI, am_I_wL, am_P_wL, am_I_wP, am_L_wP, am_N_wI, am_N_wL, am_N_wP, am_ok_l, am_push_n, am_push_s, am_ent_nil, am_ent_i, am_ent_r, am_ent_f, am_ent_n, am_ent_l, not_true_eq_false, not_false_eq_true, false_implies, true_implies, implies_true, Int32.reduceAdd, Int32.reduceLT, Int32.reduceLE, true_or, or_true, eq_self, List.replicate_succ, List.replicate_zero, Nat.reduceSub, Nat.reduceAdd, Nat.reduceLeDiff, Nat.add_one_sub_one, Nat.add_sub_cancel, true_and, and_true, Nat.le_add_left, Nat.zero_sub, Nat.sub_zero, Nat.sub_self, Nat.add_zero, Nat.zero_add, l23, k23_0, k23_1, k23_4, k23_7, k23_8, k23_11, k23_14, k23_17, k23_18, k23_19, k23_22, k23_23, k23_26, k23_27, k23_30, k23_31, k23_34, k23_37, k23_38, k23_39, k23_42, k23_43, k23_46, k23_47, k23_50, k23_51, k23_52, k23_53, k23_56, k23_57, k23_58, k23_61, k23_62, k23_63, k23_66, k23_67, k23_68, k23_71, k23_74, k23_77, e.1, e.2.1, s0, p0, p5, p6, s7, s8, hc.1, y7, y8, y2, hck, hv, nI_1]
    refine hK _ ⟨((((e.wk (Y := fun q => q = D ∨ q = D + 8) (fun q z => Or.inl z)).q (fun q => q = D + 7)).wl rfl).w (Or.inr rfl)).w (Or.inl rfl) |>.w (Or.inl rfl), fun i => ?_, fun i => ?_, fun i => ?_⟩
    · rw [am_L_wI, am_L_wI, am_L_wI, am_L_wL, e.2.2.1]
      simp only [true_and]
    · rw [am_I_ne (by omega), am_I_ne (by omega), am_I_wI, am_I_wL, e.2.2.2.2 (D + 8) (by omega)]
      simp only [true_and]
    · have hmin : (if (300 : Int32) < nI (u + 1) then 300 else nI (u + 1)) = nI (if u = 300 then 300 else u + 1) := by
        by_cases z : u = 300
        · subst z; decide
        · rw [if_neg z, if_neg]
          rw [show (300 : Int32) = nI 300 from rfl, nI_ltI (by omega) (by omega)]
          omega
      rw [hmin]
      simp only [am_I_wI, am_I_wL, g]
      grind
  have hlt : nI x < 300 ↔ x < 300 := nI_ltI (b := 300) (by omega) (by omega)
  refine am_enter (mi := 23) (am_ckP_all 23 (by decide)) (Nat.le_of_ble_eq_true rfl) ?_
  refine am_go 100 ?_
  simp only [vq_s, vq_0, vq_h, am_clr_eq, vq_1, vq_2, vq_3, vq_4, vq_5, vq_6, vq_7, vq_8, vq_9, vq_10, vq_11, vq_12, vq_13, vq_14, vq_15, vq_16, vq_17, vq_20, vq_21, vq_22, vq_23, vq_24, vq_25, vq_26, vq_27, vq_28, vq_29, vq_30, vq_31, vq_32, vq_33, vq_34, vq_35, vq_36, vq_37, vq_38, vq_39, vq_40, vq_41, vq_42, vq_43, vq_44, vq_45, vq_50, vq_51, vq_52, vq_53, vq_54, vq_55, vq_56, vq_57, vq_58, vq_59, vq_60, vq_61, vq_62, vq_63, vq_64, vq_70, vq_71, vq_72, vq_73, vq_74, vq_75, vq_76, vq_77, vq_78, vq_79, vq_80, vq_81, vq_85, vq_86, vq_87, vq_88, vq_89, vq_90, vq_91, vq_92, vq_93, vq_100, vq_101, vq_110, vq_111, vq_112, vq_113, vq_114, vq_200, vq_s1, vq_s2, vq_t1, vq_t2, vq_st, vq_r1, vq_sr, vq_ssr, vq_tsr, vq_v1, vq_v2, vq_e, vq_nln, vq_nli, vq_nlr, vq_nlf, vq_nlu, vq_isAr, vq_isAf, vq_isAu, vq_di, vq_dr, vq_df, vq_du, vq_dl, ie_m2_m1, ie_m2_0, ie_m2_1, ie_m2_2, ie_m2_3, ie_m2_4, ie_m2_8, ie_m2_20, ie_m1_m2, ie_m1_0, ie_m1_1, ie_m1_2, ie_m1_3, ie_m1_4, ie_m1_8, ie_m1_20, ie_0_m2, ie_0_m1, ie_0_1, ie_0_2, ie_0_3, ie_0_4, ie_0_8, ie_0_20, ie_1_m2, ie_1_m1, ie_1_0, ie_1_2, ie_1_3, ie_1_4, ie_1_8, ie_1_20, ie_2_m2, ie_2_m1, ie_2_0, ie_2_1, ie_2_3, ie_2_4, ie_2_8, ie_2_20, ie_3_m2, ie_3_m1, ie_3_0, ie_3_1, ie_3_2, ie_3_4, ie_3_8, ie_3_20, ie_4_m2, ie_4_m1, ie_4_0, ie_4_1, ie_4_2, ie_4_3, ie_4_8, ie_4_20, ie_8_m2, ie_8_m1, ie_8_0, ie_8_1, ie_8_2, ie_8_3, ie_8_4, ie_8_20, ie_20_m2, ie_20_m1, ie_20_0, ie_20_1, ie_20_2, ie_20_3, ie_20_4, ie_20_8, am_ne1, am_ne2, am_I_wI, am_L_wL, am_P_wP, Nat.reduceEqDiff, false_and, if_false, if_true, vq_rr, vq_rn, vq_li, vq_ll, vq_lar, vq_laf, vq_lan, vq_arr, vq_d0, vq_p0, vq_ps, am_get_0, am_get_s, am_set_0, am_set_s, am_rf_none, am_rf_some, am_S_wI, am_S_wL, am_S_wP, am_L_wI, am_P_wI, am_I_wL, am_P_wL, am_I_wP, am_L_wP, am_N_wI, am_N_wL, am_N_wP, am_ok_l, am_push_n, am_push_s, am_ent_nil, am_ent_i, am_ent_r, am_ent_f, am_ent_n, am_ent_l, not_true_eq_false, not_false_eq_true, false_implies, true_implies, implies_true, Int32.reduceAdd, Int32.reduceLT, Int32.reduceLE, true_or, or_true, eq_self, List.replicate_succ, List.replicate_zero, Nat.reduceSub, Nat.reduceAdd, Nat.reduceLeDiff, Nat.add_one_sub_one, Nat.add_sub_cancel, true_and, and_true, Nat.le_add_left, Nat.zero_sub, Nat.sub_zero, Nat.sub_self, Nat.add_zero, Nat.zero_add, l23, k23_0, k23_1, k23_4, k23_7, k23_8, k23_11, k23_14, k23_17, k23_18, k23_19, k23_22, k23_23, k23_26, k23_27, k23_30, k23_31, k23_34, k23_37, k23_38, k23_39, k23_42, k23_43, k23_46, k23_47, k23_50, k23_51, k23_52, k23_53, k23_56, k23_57, k23_58, k23_61, k23_62, k23_63, k23_66, k23_67, k23_68, k23_71, k23_74, k23_77, s0, p0, p5, hc.1, hx]
  refine ⟨fun z => absurd z (nI_pos (by omega)), fun _ => ⟨fun z => ?_, fun z => ?_⟩⟩
  · have e1 : sp_slot x = x := if_neg (by have := hlt.mp z; omega)
    have := key h am_fr.rf (fun i => by rw [e1]; by_cases q : i = 7 <;> simp [q, hx])
    rw [e1] at this
    exact this
  · have e1 : sp_slot x = 0 := if_pos (by
      rcases Nat.lt_or_ge x 300 with q | q
      · exact absurd (hlt.mpr q) z
      · omega)
    have := key (am_wI h D 7 0) (am_fr.rf.w rfl) (fun i => by rw [e1, am_I_wI]; by_cases q : i = 7 <;> simp [q]; rfl)
    rw [e1] at this
    exact this
end
