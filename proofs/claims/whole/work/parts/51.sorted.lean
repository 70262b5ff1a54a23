/-! Planner: couples come in the order of seconds; value -/
def pre (ks ks' : List Nat) : Prop := ks.length ≤ ks'.length ∧ ∀ i, i < ks.length → ks'.getD i 0 = ks.getD i 0
theorem pre.rf {ks : List Nat} : pre ks ks := ⟨Nat.le_refl _, fun _ _ => rfl⟩
theorem pre.tr {a b c : List Nat} (h1 : pre a b) (h2 : pre b c) : pre a c := ⟨Nat.le_trans h1.1 h2.1, fun i hi => (h2.2 i (Nat.lt_of_lt_of_le hi h1.1)).trans (h1.2 i hi)⟩
def q_so (ks : List Nat) (s : Nat) : Prop := ks_so ks ∧ ∀ y, y ∈ ks → y / 32768 ≤ s
theorem f_ad1_so {ks ks' : List Nat} {x s : Nat} (hx : x / 32768 = s) (hk : q_so ks s) (e : f_ad1 ks x = some ks') : q_so ks' s ∧ pre ks ks' := by
  unfold f_ad1 f_add at e
  split at e
  · injection e with e
    subst e
    split
    · exact ⟨hk, pre.rf⟩
    · refine ⟨⟨fun i j hij hj => ?_, fun y hy => ?_⟩, ?_, fun i hi => gd_app hi⟩
      · rw [List.length_append] at hj
        have hj : j < ks.length + 1 := hj
        by_cases z : j = ks.length
        · subst z
          rw [gd_len]
          by_cases w : i = ks.length
          · subst w
            rw [gd_len]
            exact Nat.le_refl _
          · rw [gd_app (by omega), hx]
            exact hk.2 _ (gd_mem (by omega))
        · rw [gd_app (by omega), gd_app (by omega)]
          exact hk.1 i j hij (by omega)
      · rcases List.mem_append.mp hy with q | q
        · exact hk.2 y q
        · rw [List.mem_singleton] at q
          rw [q, hx]
          exact Nat.le_refl _
      · rw [List.length_append]
        exact Nat.le_add_right _ _
  · cases e
theorem pl_s_so {key W s : Nat} : ∀ (j b : Nat) (ks ks' : List Nat), (∀ i, b ≤ i → i < b + j → i &&& W = i → (key + st_b i) / 32768 = s) → q_so ks s → pl_s key W j b ks = some ks' → q_so ks' s ∧ pre ks ks' := by
  intro j
  induction j with
  | zero =>
    intro c ks ks' _ hk e
    injection e with e
    subst e
    exact ⟨hk, pre.rf⟩
  | succ j ih =>
    intro b ks ks' hP hk e
    rw [pl_s] at e
    by_cases z : b &&& W = b
    · rw [if_pos z, Option.bind_eq_some_iff] at e
      obtain ⟨k1, e1, e2⟩ := e
      obtain ⟨a1, a2⟩ := f_ad1_so (hP b (by omega) (by omega) z) hk e1
      obtain ⟨b1, b2⟩ := ih (b + 1) k1 ks' (fun i h1 h2 => hP i (by omega) (by omega)) a1 e2
      exact ⟨b1, a2.tr b2⟩
    · rw [if_neg z] at e
      exact ih (b + 1) ks ks' (fun i h1 h2 => hP i (by omega) (by omega)) hk e
theorem pl_st_so {h : Am_H} {m n s : Nat} {at_ : Nat → Int32} {ks ks' : List Nat} (hn : n ≤ 3) (hg : sp_gp at_) (hk : q_so ks s) (e : pl_st h m n s at_ ks = some ks') : q_so ks' s ∧ pre ks ks' := by
  have hW := mv_W_lt (h := h) (m := m) (at_ := at_) hn
  exact pl_s_so _ _ ks ks' (fun b _ hb hw => (pl_key (h := h) (m := m) (s := s) hn hg (by omega) hw).2.1) hk e
theorem pl_run_so {h : Am_H} {m n L N : Nat} (hm : is_Good h m n L) (hN : N < 1000) : ∀ (j i : Nat) (ks ks' : List Nat), ks_so ks → (∀ y, y ∈ ks → i < ks.length → y / 32768 ≤ ks.getD i 0 / 32768 + 1) → (∀ y, y ∈ ks → gq N y) → pl_run h m n N j i ks = some ks' → ks_so ks' ∧ pre ks ks' := by
  intro j
  induction j with
  | zero =>
    intro i ks ks' hs _ _ e
    injection e with e
    subst e
    exact ⟨hs, pre.rf⟩
  | succ j ih =>
    intro i ks ks' hs hb hg e
    rw [pl_run] at e
    by_cases z : i < ks.length
    · rw [if_pos z] at e
      have hgx := hg _ (gd_mem z)
      by_cases y : N ≤ ks.getD i 0 / 32768
      · rw [if_pos y] at e
        injection e with e
        subst e
        exact ⟨hs, pre.rf⟩
      · rw [if_neg y] at e
        by_cases w : mv_harm h m n (dp_at (ks.getD i 0)) = 0
        · rw [if_pos w, Option.bind_eq_some_iff] at e
          obtain ⟨k1, e1, e2⟩ := e
          have gp : sp_gp (mp_at h m n (ks.getD i 0)) := sp_gp_at2 hm.2.1 hm.2.2.1 hgx.2.2
          obtain ⟨a1, a2⟩ := pl_st_so hm.1.2.1 gp ⟨hs, fun y hy => hb y hy z⟩ e1
          obtain ⟨b1, b2⟩ := ih (i + 1) k1 ks' a1.1 (fun y hy hi => by
            have q1 := a1.2 y hy
            have q2 := a1.1 i (i + 1) (by omega) hi
            rw [a2.2 i z] at q2
            omega) (pl_st_P hm.1.2.1 gp (by omega) hN hg e1) e2
          exact ⟨b1, a2.tr b2⟩
        · rw [if_neg w] at e
          refine ih (i + 1) ks ks' hs (fun y hy hi => ?_) hg e
          have q1 := hb y hy z
          have q2 := hs i (i + 1) (by omega) hi
          omega
    · rw [if_neg z] at e
      injection e with e
      subst e
      exact ⟨hs, pre.rf⟩
theorem pl_all_so {h : Am_H} {m n L N : Nat} {ks : List Nat} (hm : is_Good h m n L) (hN : N < 1000) (e : pl_all h m n N = some ks) : ks_so ks := by
  unfold pl_all at e
  rw [Option.bind_eq_some_iff] at e
  obtain ⟨k1, e1, e2⟩ := e
  have h0 : q_so [] 0 := ⟨fun i j _ hj => absurd hj (by simp), fun y hy => by cases hy⟩
  obtain ⟨a1, -⟩ := pl_st_so hm.1.2.1 gp_none h0 e1
  exact (pl_run_so hm hN 4000 0 k1 ks a1.1 (fun y hy _ => by have := a1.2 y hy; omega) (pl_st_P hm.1.2.1 gp_none (by omega) hN (fun y hy => by cases hy) e1) e2).1
section
variable {l : Am_L} {d : Nat} {h : Am_H} {m c n P F L : Nat} {K : Am_R → Am_H → Prop}
theorem M_value {N : Nat} {ks : List Nat} (hP : is_Planner h P) (hm : is_Good h m n L) (hmP : m + 6 < P) (hF : P + 6 < F) (hN : N ≤ 60) (hgk : ∀ y, y ∈ ks → gq N y) (hso : ks_so ks) (hf : f_in h F ks)
    (hK : ∀ h', am_fr h h' (X_val P F) → f_in h' F ks → (∀ i, i < ks.length → am_I h' (F + 2) i = vlx h m n N ks (ks.getD i 0)) → K (.inl none) h') : am_M l (d + 4) 0 0 52 [.ref P, .ref m, .ref F, .int (nI N)] h K := by
  have hf0 := hf
  obtain ⟨v, t, hFF, hl, hsz, hkeys, -⟩ := hf
  refine am_enter (mi := 52) (am_ckP_all 52 (by decide)) (Nat.le_of_ble_eq_true rfl) (by decide) ?_
  refine am_go 100 ?_
  simp only [vq_s, vq_0, vq_h, am_clr_eq, vq_1, vq_2, vq_3, vq_4, vq_5, vq_6, vq_7, vq_8, vq_9, vq_10, vq_11, vq_12, vq_13, vq_14, vq_15, vq_16, vq_17, vq_20, vq_21, vq_22, vq_23, vq_24, vq_25, vq_26, vq_27, vq_28, vq_29, vq_30, vq_31, vq_32, vq_33, vq_34, vq_35, vq_36, vq_37, vq_38, vq_39, vq_40, vq_41, vq_42, vq_43, vq_44, vq_45, vq_50, vq_51, vq_52, vq_53, vq_54, vq_55, vq_56, vq_57, vq_58, vq_59, vq_60, vq_61, vq_62, vq_63, vq_64, vq_70, vq_71, vq_72, vq_73, vq_74, vq_75, vq_76, vq_77, vq_78, vq_79, vq_80, vq_81, vq_85, vq_86, vq_87, vq_88, vq_89, vq_90, vq_91, vq_92, vq_93, vq_95, vq_96, vq_100, vq_101, vq_110, vq_111, vq_112, vq_113, vq_114, vq_200, vq_s1, vq_s2, vq_t1, vq_t2, vq_st, vq_r1, vq_sr, vq_ssr, vq_tsr, vq_v1, vq_v2, vq_e, vq_nln, vq_nli, vq_nlr, vq_nlf, vq_nlu, vq_isAr, vq_isAf, vq_isAu, vq_di, vq_dr, vq_df, vq_du, vq_dl, vq_sf, vq_f1, ie_m2_m1, ie_m2_0, ie_m2_1, ie_m2_2, ie_m2_3, ie_m2_4, ie_m2_8, ie_m2_20, ie_m1_m2, ie_m1_0, ie_m1_1, ie_m1_2, ie_m1_3, ie_m1_4, ie_m1_8, ie_m1_20, ie_0_m2, ie_0_m1, ie_0_1, ie_0_2, ie_0_3, ie_0_4, ie_0_8, ie_0_20, ie_1_m2, ie_1_m1, ie_1_0, ie_1_2, ie_1_3, ie_1_4, ie_1_8, ie_1_20, ie_2_m2, ie_2_m1, ie_2_0, ie_2_1, ie_2_3, ie_2_4, ie_2_8, ie_2_20, ie_3_m2, ie_3_m1, ie_3_0, ie_3_1, ie_3_2, ie_3_4, ie_3_8, ie_3_20, ie_4_m2, ie_4_m1, ie_4_0, ie_4_1, ie_4_2, ie_4_3, ie_4_8, ie_4_20, ie_8_m2, ie_8_m1, ie_8_0, ie_8_1, ie_8_2, ie_8_3, ie_8_4, ie_8_20, ie_20_m2, ie_20_m1, ie_20_0, ie_20_1, ie_20_2, ie_20_3, ie_20_4, ie_20_8, am_ne1, am_ne2, am_I_wI, am_L_wL, am_P_wP, Nat.reduceEqDiff, false_and, if_false, if_true, vq_rr, vq_rn, vq_li, vq_ll, vq_lar, vq_laf, vq_lan, vq_arr, vq_d0, vq_p0, vq_ps, am_get_0, am_get_s, am_set_0, am_set_s, am_rf_none, am_rf_some, am_S_wI, am_S_wL, am_S_wP, am_L_wI, am_P_wI, am_I_wL, am_P_wL, am_I_wP, am_L_wP, am_N_wI, am_N_wL, am_N_wP, am_ok_l, am_push_n, am_push_s, am_ent_nil, am_ent_i, am_ent_r, am_ent_f, am_ent_n, am_ent_l, not_true_eq_false, not_false_eq_true, false_implies, true_implies, implies_true, Int32.reduceAdd, Int32.reduceLT, Int32.reduceLE, true_or, or_true, eq_self, List.replicate_succ, List.replicate_zero, Nat.reduceSub, Nat.reduceAdd, Nat.reduceLeDiff, Nat.add_one_sub_one, Nat.add_sub_cancel, true_and, and_true, Nat.le_add_left, Nat.zero_sub, Nat.sub_zero, Nat.sub_self, Nat.add_zero, Nat.zero_add, l52, k52_0, k52_1, k52_4, k52_7, k52_10, k52_11, k52_12, k52_14, k52_16, k52_19, k52_20, k52_23, k52_25, k52_26, k52_29, k52_31, k52_33, k52_34, k52_37, k52_38, k52_41, k52_43, k52_44, k52_45, k52_48, k52_49, k52_50, k52_51, k52_54, k52_56, k52_57, k52_60, k52_63, k52_64, k52_65, k52_68, k52_71, k52_74, k52_76, k52_77, k52_78, k52_79, k52_81, k52_82, k52_83, k52_86, k52_88, k52_89, k52_92, k52_94, k52_96, k52_97, k52_100, k52_101, k52_104, k52_106, k52_108, k52_109, k52_110, k52_113, k52_114, k52_117, k52_119, k52_120, k52_121, k52_124, k52_127, hFF.1, hsz]
  rw [show (if (4000 : Int32) < nI ks.length then (4000 : Int32) else nI ks.length) = nI ks.length from if_neg (nI_nlt (b := ks.length) (a := 4000) hl (by omega) |> fun _ => fun z => absurd ((nI_ltI (a := 4000) (by omega) (by omega)).mp z) (by omega))]
  exact M_value_loop hP hm hmP hF hN hgk hso hK ks.length none none none h (Nat.le_refl _) am_fr.rf hf0 (fun j h1 h2 => absurd h2 (by omega))
end
