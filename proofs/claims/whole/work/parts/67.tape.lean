/-! Tape: put, tokenOf, refuse, next -/
def is_Tape (h : Am_H) (T : Nat) : Prop := am_S h T = (1, 7) ∧ am_P h T 0 = some (T + 1) ∧ am_S h (T + 1) = (3, 400)
theorem is_Tape.fr {h h' : Am_H} {X : Nat → Prop} {c : Nat} (a : is_Tape h c) (b : am_fr h h' X) : is_Tape h' c := ⟨by rw [b.1]; exact a.1, by rw [b.2.1]; exact a.2.1, by rw [b.1]; exact a.2.2⟩
/-- of the tape's own fields only these changed, and no other cell -/
def tp_f (h h' : Am_H) (T : Nat) (S : Nat → Prop) : Prop := am_fr h h' (fun q => q = T) ∧ ∀ i, ¬ S i → am_I h' T i = am_I h T i
theorem tp_f.rf {h : Am_H} {T : Nat} {S : Nat → Prop} : tp_f h h T S := ⟨am_fr.rf, fun _ _ => rfl⟩
theorem tp_f.w {h h' : Am_H} {T : Nat} {S : Nat → Prop} (a : tp_f h h' T S) {k : Nat} {x : Int32} (hk : S k) : tp_f h (am_wI h' T k x) T S :=
  ⟨a.1.w rfl, fun i hi => by
    have hne : ¬ (T = T ∧ i = k) := fun z => hi (by rw [z.2]; exact hk)
    rw [am_I_wI, if_neg hne]
    exact a.2 i hi⟩
theorem tp_f.tr {h h1 h2 : Am_H} {T : Nat} {S S2 : Nat → Prop} (a : tp_f h h1 T S) (b : tp_f h1 h2 T S2) (hS : ∀ i, S i → S2 i) : tp_f h h2 T S2 := ⟨a.1.tr b.1 (fun _ z => z), fun i hi => (b.2 i hi).trans (a.2 i (fun z => hi (hS i z)))⟩
theorem tp_f.wk {h h' : Am_H} {T : Nat} {S S2 : Nat → Prop} (a : tp_f h h' T S) (hS : ∀ i, S i → S2 i) : tp_f h h' T S2 := ⟨a.1, fun i hi => a.2 i (fun z => hi (hS i z))⟩
theorem tp_f.ch {h h' : Am_H} {T : Nat} {S : Nat → Prop} (a : tp_f h h' T S) : am_I h' (T + 1) = am_I h (T + 1) := a.1.f (by omega)
theorem nI_sub {a b : Nat} (h : b ≤ a) : nI a - nI b = nI (a - b) := by
  have e := nI_add (a - b) b
  rw [Nat.sub_add_cancel h] at e
  rw [← e, Int32.add_sub_cancel]
def S_tok : Nat → Prop := fun i => i = 3 ∨ i = 4 ∨ i = 5
def tok_in (h : Am_H) (T : Nat) (t : Tok) : Prop := am_I h T 3 = nI t.1 ∧ am_I h T 4 = nI t.2.1 ∧ am_I h T 5 = nI t.2.2
def tko (x : Int32) : Nat := if 97 ≤ x ∧ x ≤ 122 then 1 else if 48 ≤ x ∧ x ≤ 57 then 2 else if x = 59 then 3 else 4
theorem tko_cc {x : Int32} (h : cc x ≠ 0) : tko x = cc x := by
  unfold cc at h ⊢
  by_cases z : x = 32 ∨ x = 10
  · rw [if_pos z] at h; exact absurd rfl h
  · rw [if_neg z]; rfl
theorem tko_k {x : Int32} {k : Nat} (hk : k = 1 ∨ k = 2) : tko x = k ↔ cc x = k := by
  by_cases z : cc x = 0
  · have : x = 32 ∨ x = 10 := by
      unfold cc at z
      by_cases y : x = 32 ∨ x = 10
      · exact y
      · rw [if_neg y] at z
        exfalso
        split at z <;> (try split at z) <;> (try split at z) <;> omega
    rcases this with rfl | rfl
    · rcases hk with rfl | rfl <;> decide
    · rcases hk with rfl | rfl <;> decide
  · rw [tko_cc z]
theorem tko_le (x : Int32) : tko x ≤ 4 := by unfold tko; split <;> (try split) <;> (try split) <;> omega
section
variable {l : Am_L} {d : Nat} {h : Am_H} {T : Nat} {K : Am_R → Am_H → Prop}
theorem M_tokenOf {x : Int32} (hK : K (.inl (some (.int (nI (tko x))))) h) : am_M l d 0 0 65 [.int x] h K := by
  refine am_enter (mi := 65) (am_ckP_all 65 (by decide)) (Nat.le_of_ble_eq_true rfl) (by decide) ?_
  refine am_go 100 ?_
  simp only [vq_s, vq_0, vq_h, am_clr_eq, vq_1, vq_2, vq_3, vq_4, vq_5, vq_6, vq_7, vq_8, vq_9, vq_10, vq_11, vq_12, vq_13, vq_14, vq_15, vq_16, vq_17, vq_20, vq_21, vq_22, vq_23, vq_24, vq_25, vq_26, vq_27, vq_28, vq_29, vq_30, vq_31, vq_32, vq_33, vq_34, vq_35, vq_36, vq_37, vq_38, vq_39, vq_40, vq_41, vq_42, vq_43, vq_44, vq_45, vq_50, vq_51, vq_52, vq_53, vq_54, vq_55, vq_56, vq_57, vq_58, vq_59, vq_60, vq_61, vq_62, vq_63, vq_64, vq_70, vq_71, vq_72, vq_73, vq_74, vq_75, vq_76, vq_77, vq_78, vq_79, vq_80, vq_81, vq_85, vq_86, vq_87, vq_88, vq_89, vq_90, vq_91, vq_92, vq_93, vq_95, vq_96, vq_100, vq_101, vq_110, vq_111, vq_112, vq_113, vq_114, vq_200, vq_s1, vq_s2, vq_t1, vq_t2, vq_st, vq_r1, vq_sr, vq_ssr, vq_tsr, vq_v1, vq_v2, vq_e, vq_nln, vq_nli, vq_nlr, vq_nlf, vq_nlu, vq_isAr, vq_isAf, vq_isAu, vq_di, vq_dr, vq_df, vq_du, vq_dl, vq_sf, vq_f1, ie_m2_m1, ie_m2_0, ie_m2_1, ie_m2_2, ie_m2_3, ie_m2_4, ie_m2_8, ie_m2_20, ie_m1_m2, ie_m1_0, ie_m1_1, ie_m1_2, ie_m1_3, ie_m1_4, ie_m1_8, ie_m1_20, ie_0_m2, ie_0_m1, ie_0_1, ie_0_2, ie_0_3, ie_0_4, ie_0_8, ie_0_20, ie_1_m2, ie_1_m1, ie_1_0, ie_1_2, ie_1_3, ie_1_4, ie_1_8, ie_1_20, ie_2_m2, ie_2_m1, ie_2_0, ie_2_1, ie_2_3, ie_2_4, ie_2_8, ie_2_20, ie_3_m2, ie_3_m1, ie_3_0, ie_3_1, ie_3_2, ie_3_4, ie_3_8, ie_3_20, ie_4_m2, ie_4_m1, ie_4_0, ie_4_1, ie_4_2, ie_4_3, ie_4_8, ie_4_20, ie_8_m2, ie_8_m1, ie_8_0, ie_8_1, ie_8_2, ie_8_3, ie_8_4, ie_8_20, ie_20_m2, ie_20_m1, ie_20_0, ie_20_1, ie_20_2, ie_20_3, ie_20_4, ie_20_8, am_ne1, am_ne2, am_I_wI, am_L_wL, am_P_wP, Nat.reduceEqDiff, false_and, if_false, if_true, vq_rr, vq_rn, vq_li, vq_ll, vq_lar, vq_laf, vq_lan, vq_arr, vq_d0, vq_p0, vq_ps, am_get_0, am_get_s, am_set_0, am_set_s, am_rf_none, am_rf_some, am_S_wI, am_S_wL, am_S_wP, am_L_wI, am_P_wI, am_I_wL, am_P_wL, am_I_wP, am_L_wP, am_N_wI, am_N_wL, am_N_wP, am_ok_l, am_push_n, am_push_s, am_ent_nil, am_ent_i, am_ent_r, am_ent_f, am_ent_n, am_ent_l, not_true_eq_false, not_false_eq_true, false_implies, true_implies, implies_true, Int32.reduceAdd, Int32.reduceLT, Int32.reduceLE, true_or, or_true, eq_self, List.replicate_succ, List.replicate_zero, Nat.reduceSub, Nat.reduceAdd, Nat.reduceLeDiff, Nat.add_one_sub_one, Nat.add_sub_cancel, true_and, and_true, Nat.le_add_left, Nat.zero_sub, Nat.sub_zero, Nat.sub_self, Nat.add_zero, Nat.zero_add, l65, k65_0, k65_1, k65_3, k65_6, k65_7, k65_9, k65_12, k65_13, k65_14, k65_15, k65_17, k65_20, k65_21, k65_23, k65_26, k65_27, k65_28, k65_29, k65_31, k65_34, k65_35, k65_38, k65_39]
  have l1 : (97 ≤ x) ↔ ¬ x < 97 := Int32.not_lt.symm
  have l2 : (x ≤ 122) ↔ ¬ 122 < x := Int32.not_lt.symm
  have l3 : (48 ≤ x) ↔ ¬ x < 48 := Int32.not_lt.symm
  have l4 : (x ≤ 57) ↔ ¬ 57 < x := Int32.not_lt.symm
  have n1 : nI 1 = 1 := rfl
  have n2 : nI 2 = 2 := rfl
  have n3 : nI 3 = 3 := rfl
  have n4 : nI 4 = 4 := rfl
  by_cases hf : x = 59
  · subst hf
    rw [show tko 59 = 3 from by decide] at hK
    exact ⟨fun _ => ⟨fun z => absurd z (by decide), fun _ => ⟨fun _ => ⟨fun z => absurd rfl z, fun _ => hK⟩, fun z => absurd (by decide) z⟩⟩, fun z => absurd (by decide) z⟩
  unfold tko at hK
  by_cases ha : x < 97 <;> by_cases hb : x < 48 <;> by_cases hc : 57 < x <;> by_cases he : 122 < x <;> simp only [l1, l2, l3, l4, ha, hb, hc, he, hf, not_true_eq_false, not_false_eq_true, false_and, and_false, and_self, if_true, if_false, n1, n2, n3, n4, true_implies, false_implies, implies_true, and_true, true_and] at hK ⊢ <;> first | exact hK | trivial
theorem M_refuse {x : Int32} (hT : is_Tape h T) (hK : ∀ h', tp_f h h' T (fun i => i = 7 ∨ i = 8) → am_I h' T 7 = x → am_I h' T 8 = am_I h T 4 → K (.inl (some (.int 0))) h') : am_M l d 0 0 68 [.ref T, .int x] h K := by
  refine am_enter (mi := 68) (am_ckP_all 68 (by decide)) (Nat.le_of_ble_eq_true rfl) (by decide) ?_
  refine am_go 100 ?_
  simp only [vq_s, vq_0, vq_h, am_clr_eq, vq_1, vq_2, vq_3, vq_4, vq_5, vq_6, vq_7, vq_8, vq_9, vq_10, vq_11, vq_12, vq_13, vq_14, vq_15, vq_16, vq_17, vq_20, vq_21, vq_22, vq_23, vq_24, vq_25, vq_26, vq_27, vq_28, vq_29, vq_30, vq_31, vq_32, vq_33, vq_34, vq_35, vq_36, vq_37, vq_38, vq_39, vq_40, vq_41, vq_42, vq_43, vq_44, vq_45, vq_50, vq_51, vq_52, vq_53, vq_54, vq_55, vq_56, vq_57, vq_58, vq_59, vq_60, vq_61, vq_62, vq_63, vq_64, vq_70, vq_71, vq_72, vq_73, vq_74, vq_75, vq_76, vq_77, vq_78, vq_79, vq_80, vq_81, vq_85, vq_86, vq_87, vq_88, vq_89, vq_90, vq_91, vq_92, vq_93, vq_95, vq_96, vq_100, vq_101, vq_110, vq_111, vq_112, vq_113, vq_114, vq_200, vq_s1, vq_s2, vq_t1, vq_t2, vq_st, vq_r1, vq_sr, vq_ssr, vq_tsr, vq_v1, vq_v2, vq_e, vq_nln, vq_nli, vq_nlr, vq_nlf, vq_nlu, vq_isAr, vq_isAf, vq_isAu, vq_di, vq_dr, vq_df, vq_du, vq_dl, vq_sf, vq_f1, ie_m2_m1, ie_m2_0, ie_m2_1, ie_m2_2, ie_m2_3, ie_m2_4, ie_m2_8, ie_m2_20, ie_m1_m2, ie_m1_0, ie_m1_1, ie_m1_2, ie_m1_3, ie_m1_4, ie_m1_8, ie_m1_20, ie_0_m2, ie_0_m1, ie_0_1, ie_0_2, ie_0_3, ie_0_4, ie_0_8, ie_0_20, ie_1_m2, ie_1_m1, ie_1_0, ie_1_2, ie_1_3, ie_1_4, ie_1_8, ie_1_20, ie_2_m2, ie_2_m1, ie_2_0, ie_2_1, ie_2_3, ie_2_4, ie_2_8, ie_2_20, ie_3_m2, ie_3_m1, ie_3_0, ie_3_1, ie_3_2, ie_3_4, ie_3_8, ie_3_20, ie_4_m2, ie_4_m1, ie_4_0, ie_4_1, ie_4_2, ie_4_3, ie_4_8, ie_4_20, ie_8_m2, ie_8_m1, ie_8_0, ie_8_1, ie_8_2, ie_8_3, ie_8_4, ie_8_20, ie_20_m2, ie_20_m1, ie_20_0, ie_20_1, ie_20_2, ie_20_3, ie_20_4, ie_20_8, am_ne1, am_ne2, am_I_wI, am_L_wL, am_P_wP, Nat.reduceEqDiff, false_and, if_false, if_true, vq_rr, vq_rn, vq_li, vq_ll, vq_lar, vq_laf, vq_lan, vq_arr, vq_d0, vq_p0, vq_ps, am_get_0, am_get_s, am_set_0, am_set_s, am_rf_none, am_rf_some, am_S_wI, am_S_wL, am_S_wP, am_L_wI, am_P_wI, am_I_wL, am_P_wL, am_I_wP, am_L_wP, am_N_wI, am_N_wL, am_N_wP, am_ok_l, am_push_n, am_push_s, am_ent_nil, am_ent_i, am_ent_r, am_ent_f, am_ent_n, am_ent_l, not_true_eq_false, not_false_eq_true, false_implies, true_implies, implies_true, Int32.reduceAdd, Int32.reduceLT, Int32.reduceLE, true_or, or_true, eq_self, List.replicate_succ, List.replicate_zero, Nat.reduceSub, Nat.reduceAdd, Nat.reduceLeDiff, Nat.add_one_sub_one, Nat.add_sub_cancel, true_and, and_true, Nat.le_add_left, Nat.zero_sub, Nat.sub_zero, Nat.sub_self, Nat.add_zero, Nat.zero_add, l68, k68_0, k68_1, k68_2, k68_5, k68_6, k68_7, k68_10, k68_13, k68_14, hT.1]
  refine hK _ ((tp_f.rf.w (Or.inl rfl)).w (Or.inr rfl)) ?_ ?_
  · rw [am_I_wI, if_neg (by omega), am_I_wI, if_pos ⟨rfl, rfl⟩]
  · rw [am_I_wI, if_pos ⟨rfl, rfl⟩]
end
