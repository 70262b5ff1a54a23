/-! Mine -/
/-- a Mine at m with its six rows behind it -/
def is_Mine (h : Am_H) (m : Nat) : Prop := am_S h m = (1, 4) ∧ (am_P h m 5 = some (m + 1) ∧ am_P h m 6 = some (m + 2) ∧ am_P h m 7 = some (m + 3) ∧ am_P h m 8 = some (m + 4) ∧ am_P h m 9 = some (m + 5) ∧ am_P h m 10 = some (m + 6)) ∧ am_S h (m + 1) = (2, 3) ∧ am_S h (m + 2) = (2, 3) ∧ am_S h (m + 3) = (2, 3) ∧ am_S h (m + 4) = (2, 3) ∧ am_S h (m + 5) = (2, 3) ∧ am_S h (m + 6) = (2, 3)
section
variable {l : Launch} {d : Nat} {h : Am_H} {m : Nat} {K : Am_R → Am_H → Prop}
set_option maxHeartbeats 200000 in
theorem M_strong {r : Int32} (hm : is_Mine h m) (hr : vp_in r 3) (hK : K (.inl (some (.int (if am_I h m 2 ≤ am_I h (m + 3) r.toNatClampNeg then 1 else 0)))) h) : am_M l d 0 0 41 [.ref m, .int r] h K := by
  obtain ⟨h0, ⟨p1, p2, p3, p4, p5, p6⟩, s1, s2, s3, s4, s5, s6⟩ := hm
  refine am_enter (mi := 41) (am_ckP_all 41 (by decide)) (Nat.le_of_ble_eq_true rfl) ?_
  refine am_go 40 ?_
  simp only [vq_s, vq_0, vq_h, am_clr_eq, vq_1, vq_2, vq_3, vq_4, vq_5, vq_6, vq_7, vq_8, vq_9, vq_10, vq_11, vq_12, vq_13, vq_14, vq_15, vq_16, vq_17, vq_20, vq_21, vq_22, vq_23, vq_24, vq_25, vq_26, vq_27, vq_28, vq_29, vq_30, vq_31, vq_32, vq_33, vq_34, vq_35, vq_36, vq_37, vq_38, vq_39, vq_40, vq_41, vq_42, vq_43, vq_44, vq_45, vq_50, vq_51, vq_52, vq_53, vq_54, vq_55, vq_56, vq_57, vq_58, vq_59, vq_60, vq_61, vq_62, vq_63, vq_64, vq_70, vq_71, vq_72, vq_73, vq_74, vq_75, vq_76, vq_77, vq_78, vq_79, vq_80, vq_81, vq_85, vq_86, vq_87, vq_88, vq_89, vq_90, vq_91, vq_92, vq_93, vq_100, vq_101, vq_110, vq_111, vq_112, vq_113, vq_114, vq_200, vq_s1, vq_s2, vq_t1, vq_t2, vq_st, vq_r1, vq_sr, vq_ssr, vq_tsr, vq_v1, vq_v2, vq_e, vq_nln, vq_nli, vq_nlr, vq_nlf, vq_nlu, vq_isAr, vq_isAf, vq_isAu, vq_di, vq_dr, vq_df, vq_du, vq_dl, vq_rr, vq_rn, vq_li, vq_ll, vq_lar, vq_laf, vq_lan, vq_arr, vq_d0, vq_p0, vq_ps, am_get_0, am_get_s, am_set_0, am_set_s, am_rf_none, am_rf_some, am_S_wI, am_S_wL, am_S_wP, am_L_wI, am_P_wI, am_I_wL, am_P_wL, am_I_wP, am_L_wP, am_N_wI, am_N_wL, am_N_wP, am_ok_l, am_push_n, am_push_s, am_ent_nil, am_ent_i, am_ent_r, am_ent_f, am_ent_n, am_ent_l, List.replicate_succ, List.replicate_zero, Nat.reduceSub, Nat.reduceAdd, Nat.reduceLeDiff, Nat.add_one_sub_one, Nat.add_sub_cancel, true_and, and_true, Nat.le_add_left, Nat.zero_sub, Nat.sub_zero, Nat.sub_self, Nat.add_zero, Nat.zero_add, l41, k41_0, k41_1, k41_4, k41_5, k41_6, k41_7, k41_10, k41_13, k41_14, k41_17, k41_18, h0, p1, p2, p3, p4, p5, p6, s1, s2, s3, s4, s5, s6]
  trace_state
  trace_state
  sorry
end
