/-! Found -/
def is_Found (h : Am_H) (F : Nat) : Prop := am_S h F = (1, 3) ∧ (am_P h F 0 = some (F + 1) ∧ am_P h F 1 = some (F + 2) ∧ am_P h F 2 = some (F + 3)) ∧ am_S h (F + 1) = (4, 4000) ∧ am_S h (F + 2) = (2, 4000) ∧ am_S h (F + 3) = (2, 8192)
/-- where a key's search begins -/
def sl_x (x : Nat) : Int32 := ((lN x * am_lng.getD 3 0).toUInt64 >>> ((Int32.toInt64 51).toUInt64 &&& Int64.toUInt64 63)).toInt64.toInt32
def sl_h (x : Nat) : Nat := (sl_x x).toNatClampNeg
theorem sl_p (x : Nat) : sl_x x = nI (sl_h x) ∧ sl_h x < 8192 := by
  obtain ⟨n, hn, e⟩ := wb_of (lN x * am_lng.getD 3 0)
  have e2 : sl_x x = nI (n / 2 ^ 51) := by
    unfold sl_x
    rw [e, show (51 : Int32) = nI 51 from rfl, wb_shr hn (by omega), lN_i]
  have hb : n / 2 ^ 51 < 8192 := by omega
  unfold sl_h
  rw [e2, nI_clamp (by omega)]
  exact ⟨rfl, hb⟩
theorem ph_le : ∀ (k n : Nat) (f : Nat → Nat), (∀ i, i < n → f i < k) → (∀ i j, i < n → j < n → f i = f j → i = j) → n ≤ k := by
  intro k
  induction k with
  | zero =>
    intro n f h1 _
    rcases Nat.eq_zero_or_pos n with h | h
    · omega
    · exact absurd (h1 0 h) (by omega)
  | succ k ih =>
    intro n f h1 h2
    rcases Nat.eq_zero_or_pos n with h | h
    · omega
    obtain ⟨n, rfl⟩ : ∃ n', n = n' + 1 := ⟨n - 1, by omega⟩
    have := ih n (fun i => if f i = k then f n else f i) (fun i hi => ?_) (fun i j hi hj e => ?_)
    · omega
    · show (if f i = k then f n else f i) < k
      by_cases z : f i = k
      · rw [if_pos z]
        have q1 := h1 n (by omega)
        have q2 : f n ≠ k := fun w => absurd (h2 i n (by omega) (by omega) (z.trans w.symm)) (by omega)
        omega
      · rw [if_neg z]
        have := h1 i (by omega)
        omega
    · have e : (if f i = k then f n else f i) = (if f j = k then f n else f j) := e
      by_cases zi : f i = k <;> by_cases zj : f j = k
      · exact h2 i j (by omega) (by omega) (zi.trans zj.symm)
      · rw [if_pos zi, if_neg zj] at e
        exact absurd (h2 n j (by omega) (by omega) e) (by omega)
      · rw [if_neg zi, if_pos zj] at e
        exact absurd (h2 i n (by omega) (by omega) e) (by omega)
      · rw [if_neg zi, if_neg zj] at e
        exact h2 i j (by omega) (by omega) e
/-- the table: keys in the order in which they came; v what the slots hold; t how far each key lies from where its search begins -/
def f_ok (h : Am_H) (F : Nat) (ks : List Nat) (v t : Nat → Nat) : Prop := is_Found h F ∧ ks.length ≤ 4000 ∧ am_I h F 3 = nI ks.length ∧ (∀ i, i < ks.length → am_L h (F + 1) i = lN (ks.getD i 0) ∧ ks.getD i 0 < 2 ^ 63) ∧ (∀ s, s < 8192 → am_I h (F + 3) s = nI (v s) ∧ v s ≤ ks.length) ∧ (∀ s s', s < 8192 → s' < 8192 → v s ≠ 0 → v s = v s' → s = s') ∧ (∀ i, i < ks.length → t i < 8192 ∧ v ((sl_h (ks.getD i 0) + t i) % 8192) = i + 1 ∧ ∀ u, u < t i → v ((sl_h (ks.getD i 0) + u) % 8192) ≠ 0)
def f_in (h : Am_H) (F : Nat) (ks : List Nat) : Prop := ∃ v t, f_ok h F ks v t
/-- some slot is free -/
theorem f_free {ks : List Nat} {v : Nat → Nat} (hl : ks.length ≤ 4000) (h1 : ∀ s, s < 8192 → v s ≤ ks.length) (h2 : ∀ s s', s < 8192 → s' < 8192 → v s ≠ 0 → v s = v s' → s = s') (b : Nat) : ∃ u, u < 8192 ∧ v ((b + u) % 8192) = 0 := by
  apply Classical.byContradiction
  intro hz
  have hz : ∀ u, u < 8192 → v ((b + u) % 8192) ≠ 0 := fun u hu w => hz ⟨u, hu, w⟩
  have := ph_le ks.length 8192 (fun u => v ((b + u) % 8192) - 1) (fun i hi => by
    have a := hz i hi
    have b := h1 ((b + i) % 8192) (Nat.mod_lt _ (by omega))
    show v _ - 1 < _
    omega) (fun i j hi hj e => by
    have a := hz i hi
    have a' := hz j hj
    have e : v ((b + i) % 8192) - 1 = v ((b + j) % 8192) - 1 := e
    have := h2 ((b + i) % 8192) ((b + j) % 8192) (Nat.mod_lt _ (by omega)) (Nat.mod_lt _ (by omega)) a (by omega)
    omega)
  omega
/-- the place where the search for x ends after u steps -/
def f_at (ks : List Nat) (v : Nat → Nat) (x u : Nat) : Prop := v ((sl_h x + u) % 8192) = 0 ∨ ∃ i, i < ks.length ∧ v ((sl_h x + u) % 8192) = i + 1 ∧ ks.getD i 0 = x
section
variable {l : Am_L} {d : Nat} {h : Am_H} {m c n F : Nat} {K : Am_R → Am_H → Prop}
theorem nI_msk {a : Nat} (ha : a < 2 ^ 31) : nI a &&& 8191 = nI (a % 8192) := by
  apply Int32.toBitVec_inj.mp
  rw [Int32.toBitVec_and]
  apply BitVec.eq_of_toNat_eq
  rw [BitVec.toNat_and]
  show (BitVec.ofNat 32 a).toNat &&& (BitVec.ofNat 32 8191).toNat = (BitVec.ofNat 32 (a % 8192)).toNat
  rw [BitVec.toNat_ofNat, BitVec.toNat_ofNat, BitVec.toNat_ofNat, Nat.mod_eq_of_lt (show a < 2 ^ 32 by omega), Nat.mod_eq_of_lt (show a % 8192 < 2 ^ 32 by omega)]
  exact Nat.and_two_pow_sub_one_eq_mod a 13
theorem fq_pred {i : Nat} : nI (i + 1) - 1 = nI i := by rw [← nI_1, Int32.add_sub_cancel]
theorem nI_nn {i : Nat} (hi : i < 2 ^ 31) : ¬ nI i < 0 := fun z => absurd ((nI_ltI (b := 0) hi (by omega)).mp z) (by omega)
theorem lN_inj {a b : Nat} (ha : a < 2 ^ 63) (hb : b < 2 ^ 63) (e : lN a = lN b) : a = b := by
  have := congrArg (fun z => z.toBitVec.toNat) e
  simp only [wb_tn (show a < 2 ^ 64 by omega), wb_tn (show b < 2 ^ 64 by omega)] at this
  exact this
set_option maxHeartbeats 1000000 in
theorem M_slotOf_loop {x u0 : Nat} {ks : List Nat} {v t : Nat → Nat} (hF : f_ok h F ks v t) (hx : x < 2 ^ 63) (hu0 : u0 < 8192) (hs : f_at ks v x u0) (hn : ∀ u, u < u0 → ¬ f_at ks v x u) (hK : K (.inl (some (.int (nI ((sl_h x + u0) % 8192))))) h) : ∀ (j u : Nat) (o5 : Option Value), u + j = u0 → am_J l 34 d 0 0 13 [some (.ref F), some (.long (lN x)), none, some (.int (nI ((sl_h x + u) % 8192))), some (.int (nI u)), o5] [] h K := by
  obtain ⟨⟨s0, ⟨p0, p1, p2⟩, s1, s2, s3⟩, hl, hsz, hk, hv, hj, ht⟩ := hF
  intro j
  induction j with
  | zero =>
    intro u o5 hu
    have : u = u0 := by omega
    subst this
    have hlt : (sl_h x + u) % 8192 < 8192 := Nat.mod_lt _ (by omega)
    have hvi : vp_in (nI ((sl_h x + u) % 8192)) 8192 := vp_in_nI (by omega) (by omega)
    have hck : (nI ((sl_h x + u) % 8192)).toNatClampNeg = (sl_h x + u) % 8192 := nI_clamp (by omega)
    obtain ⟨hv1, hv2⟩ := hv _ hlt
    refine am_go 100 ?_
    simp only [vq_s, vq_0, vq_h, am_clr_eq, vq_1, vq_2, vq_3, vq_4, vq_5, vq_6, vq_7, vq_8, vq_9, vq_10, vq_11, vq_12, vq_13, vq_14, vq_15, vq_16, vq_17, vq_20, vq_21, vq_22, vq_23, vq_24, vq_25, vq_26, vq_27, vq_28, vq_29, vq_30, vq_31, vq_32, vq_33, vq_34, vq_35, vq_36, vq_37, vq_38, vq_39, vq_40, vq_41, vq_42, vq_43, vq_44, vq_45, vq_50, vq_51, vq_52, vq_53, vq_54, vq_55, vq_56, vq_57, vq_58, vq_59, vq_60, vq_61, vq_62, vq_63, vq_64, vq_70, vq_71, vq_72, vq_73, vq_74, vq_75, vq_76, vq_77, vq_78, vq_79, vq_80, vq_81, vq_85, vq_86, vq_87, vq_88, vq_89, vq_90, vq_91, vq_92, vq_93, vq_95, vq_96, vq_100, vq_101, vq_110, vq_111, vq_112, vq_113, vq_114, vq_200, vq_s1, vq_s2, vq_t1, vq_t2, vq_st, vq_r1, vq_sr, vq_ssr, vq_tsr, vq_v1, vq_v2, vq_e, vq_nln, vq_nli, vq_nlr, vq_nlf, vq_nlu, vq_isAr, vq_isAf, vq_isAu, vq_di, vq_dr, vq_df, vq_du, vq_dl, vq_sf, vq_f1, ie_m2_m1, ie_m2_0, ie_m2_1, ie_m2_2, ie_m2_3, ie_m2_4, ie_m2_8, ie_m2_20, ie_m1_m2, ie_m1_0, ie_m1_1, ie_m1_2, ie_m1_3, ie_m1_4, ie_m1_8, ie_m1_20, ie_0_m2, ie_0_m1, ie_0_1, ie_0_2, ie_0_3, ie_0_4, ie_0_8, ie_0_20, ie_1_m2, ie_1_m1, ie_1_0, ie_1_2, ie_1_3, ie_1_4, ie_1_8, ie_1_20, ie_2_m2, ie_2_m1, ie_2_0, ie_2_1, ie_2_3, ie_2_4, ie_2_8, ie_2_20, ie_3_m2, ie_3_m1, ie_3_0, ie_3_1, ie_3_2, ie_3_4, ie_3_8, ie_3_20, ie_4_m2, ie_4_m1, ie_4_0, ie_4_1, ie_4_2, ie_4_3, ie_4_8, ie_4_20, ie_8_m2, ie_8_m1, ie_8_0, ie_8_1, ie_8_2, ie_8_3, ie_8_4, ie_8_20, ie_20_m2, ie_20_m1, ie_20_0, ie_20_1, ie_20_2, ie_20_3, ie_20_4, ie_20_8, am_ne1, am_ne2, am_I_wI, am_L_wL, am_P_wP, Nat.reduceEqDiff, false_and, if_false, if_true, vq_rr, vq_rn, vq_li, vq_ll, vq_lar, vq_laf, vq_lan, vq_arr, vq_d0, vq_p0, vq_ps, am_get_0, am_get_s, am_set_0, am_set_s, am_rf_none, am_rf_some, am_S_wI, am_S_wL, am_S_wP, am_L_wI, am_P_wI, am_I_wL, am_P_wL, am_I_wP, am_L_wP, am_N_wI, am_N_wL, am_N_wP, am_ok_l, am_push_n, am_push_s, am_ent_nil, am_ent_i, am_ent_r, am_ent_f, am_ent_n, am_ent_l, not_true_eq_false, not_false_eq_true, false_implies, true_implies, implies_true, Int32.reduceAdd, Int32.reduceLT, Int32.reduceLE, true_or, or_true, eq_self, List.replicate_succ, List.replicate_zero, Nat.reduceSub, Nat.reduceAdd, Nat.reduceLeDiff, Nat.add_one_sub_one, Nat.add_sub_cancel, true_and, and_true, Nat.le_add_left, Nat.zero_sub, Nat.sub_zero, Nat.sub_self, Nat.add_zero, Nat.zero_add, l34, k34_0, k34_1, k34_4, k34_5, k34_7, k34_8, k34_9, k34_10, k34_11, k34_13, k34_15, k34_18, k34_21, k34_22, k34_25, k34_26, k34_27, k34_28, k34_29, k34_31, k34_33, k34_36, k34_37, k34_40, k34_42, k34_43, k34_44, k34_45, k34_48, k34_49, k34_50, k34_51, k34_52, k34_53, k34_56, k34_57, k34_58, k34_61, k34_64, k34_65, s0, p0, p2, s1, s3, hvi, hck, hv1]
    refine ⟨fun _ => hK, fun _ => ⟨fun _ => hK, fun z => ?_⟩⟩
    rcases hs with w | ⟨i, hi, w, wx⟩
    · rw [w] at z
      exact absurd (by decide) z
    · rw [w, fq_pred, nI_clamp (by omega), (hk i hi).1, wx, lg_cmp_eq]
      exact ⟨vp_in_nI (by omega) (by omega), fun z => absurd rfl z, fun _ => hK⟩
  | succ j ih =>
    intro u o5 hu
    have hlt : (sl_h x + u) % 8192 < 8192 := Nat.mod_lt _ (by omega)
    have hvi : vp_in (nI ((sl_h x + u) % 8192)) 8192 := vp_in_nI (by omega) (by omega)
    have hck : (nI ((sl_h x + u) % 8192)).toNatClampNeg = (sl_h x + u) % 8192 := nI_clamp (by omega)
    obtain ⟨hv1, hv2⟩ := hv _ hlt
    have hno := hn u (by omega)
    refine am_go 100 ?_
    simp only [vq_s, vq_0, vq_h, am_clr_eq, vq_1, vq_2, vq_3, vq_4, vq_5, vq_6, vq_7, vq_8, vq_9, vq_10, vq_11, vq_12, vq_13, vq_14, vq_15, vq_16, vq_17, vq_20, vq_21, vq_22, vq_23, vq_24, vq_25, vq_26, vq_27, vq_28, vq_29, vq_30, vq_31, vq_32, vq_33, vq_34, vq_35, vq_36, vq_37, vq_38, vq_39, vq_40, vq_41, vq_42, vq_43, vq_44, vq_45, vq_50, vq_51, vq_52, vq_53, vq_54, vq_55, vq_56, vq_57, vq_58, vq_59, vq_60, vq_61, vq_62, vq_63, vq_64, vq_70, vq_71, vq_72, vq_73, vq_74, vq_75, vq_76, vq_77, vq_78, vq_79, vq_80, vq_81, vq_85, vq_86, vq_87, vq_88, vq_89, vq_90, vq_91, vq_92, vq_93, vq_95, vq_96, vq_100, vq_101, vq_110, vq_111, vq_112, vq_113, vq_114, vq_200, vq_s1, vq_s2, vq_t1, vq_t2, vq_st, vq_r1, vq_sr, vq_ssr, vq_tsr, vq_v1, vq_v2, vq_e, vq_nln, vq_nli, vq_nlr, vq_nlf, vq_nlu, vq_isAr, vq_isAf, vq_isAu, vq_di, vq_dr, vq_df, vq_du, vq_dl, vq_sf, vq_f1, ie_m2_m1, ie_m2_0, ie_m2_1, ie_m2_2, ie_m2_3, ie_m2_4, ie_m2_8, ie_m2_20, ie_m1_m2, ie_m1_0, ie_m1_1, ie_m1_2, ie_m1_3, ie_m1_4, ie_m1_8, ie_m1_20, ie_0_m2, ie_0_m1, ie_0_1, ie_0_2, ie_0_3, ie_0_4, ie_0_8, ie_0_20, ie_1_m2, ie_1_m1, ie_1_0, ie_1_2, ie_1_3, ie_1_4, ie_1_8, ie_1_20, ie_2_m2, ie_2_m1, ie_2_0, ie_2_1, ie_2_3, ie_2_4, ie_2_8, ie_2_20, ie_3_m2, ie_3_m1, ie_3_0, ie_3_1, ie_3_2, ie_3_4, ie_3_8, ie_3_20, ie_4_m2, ie_4_m1, ie_4_0, ie_4_1, ie_4_2, ie_4_3, ie_4_8, ie_4_20, ie_8_m2, ie_8_m1, ie_8_0, ie_8_1, ie_8_2, ie_8_3, ie_8_4, ie_8_20, ie_20_m2, ie_20_m1, ie_20_0, ie_20_1, ie_20_2, ie_20_3, ie_20_4, ie_20_8, am_ne1, am_ne2, am_I_wI, am_L_wL, am_P_wP, Nat.reduceEqDiff, false_and, if_false, if_true, vq_rr, vq_rn, vq_li, vq_ll, vq_lar, vq_laf, vq_lan, vq_arr, vq_d0, vq_p0, vq_ps, am_get_0, am_get_s, am_set_0, am_set_s, am_rf_none, am_rf_some, am_S_wI, am_S_wL, am_S_wP, am_L_wI, am_P_wI, am_I_wL, am_P_wL, am_I_wP, am_L_wP, am_N_wI, am_N_wL, am_N_wP, am_ok_l, am_push_n, am_push_s, am_ent_nil, am_ent_i, am_ent_r, am_ent_f, am_ent_n, am_ent_l, not_true_eq_false, not_false_eq_true, false_implies, true_implies, implies_true, Int32.reduceAdd, Int32.reduceLT, Int32.reduceLE, true_or, or_true, eq_self, List.replicate_succ, List.replicate_zero, Nat.reduceSub, Nat.reduceAdd, Nat.reduceLeDiff, Nat.add_one_sub_one, Nat.add_sub_cancel, true_and, and_true, Nat.le_add_left, Nat.zero_sub, Nat.sub_zero, Nat.sub_self, Nat.add_zero, Nat.zero_add, l34, k34_0, k34_1, k34_4, k34_5, k34_7, k34_8, k34_9, k34_10, k34_11, k34_13, k34_15, k34_18, k34_21, k34_22, k34_25, k34_26, k34_27, k34_28, k34_29, k34_31, k34_33, k34_36, k34_37, k34_40, k34_42, k34_43, k34_44, k34_45, k34_48, k34_49, k34_50, k34_51, k34_52, k34_53, k34_56, k34_57, k34_58, k34_61, k34_64, k34_65, s0, p0, p2, s1, s3, hvi, hck, hv1]
    refine ⟨fun z => absurd z (nI_ge (b := 8192) (by omega) (by omega)), fun _ => ?_⟩
    obtain ⟨i, w⟩ : ∃ i, v ((sl_h x + u) % 8192) = i + 1 := ⟨v ((sl_h x + u) % 8192) - 1, by
      have : v ((sl_h x + u) % 8192) ≠ 0 := fun z => hno (Or.inl z)
      omega⟩
    have hi : i < ks.length := by omega
    rw [w, fq_pred, nI_clamp (by omega), (hk i hi).1, lg_cmp_eq]
    refine ⟨fun z => absurd z (nI_nn (by omega)), fun _ => ⟨vp_in_nI (by omega) (by omega), fun z => ?_, fun z => ?_⟩⟩
    · have := ih (u + 1) (some (.int (nI i))) (by omega)
      rw [nI_1, nI_1, nI_msk (by omega), show ((sl_h x + u) % 8192 + 1) % 8192 = (sl_h x + (u + 1)) % 8192 by omega]
      exact this
    · exact absurd (Or.inr ⟨i, hi, w, lN_inj (hk i hi).2 hx z⟩) hno
theorem f_first {ks : List Nat} {v t : Nat → Nat} (hF : f_ok h F ks v t) (x : Nat) : ∃ u0, u0 < 8192 ∧ f_at ks v x u0 ∧ ∀ u, u < u0 → ¬ f_at ks v x u := by
  obtain ⟨-, hl, -, -, hv, hj, ht⟩ := hF
  obtain ⟨w, hw, e⟩ := f_free hl (fun s hs => (hv s hs).2) hj (sl_h x)
  have : ∀ w, f_at ks v x w → ∃ u0, u0 ≤ w ∧ f_at ks v x u0 ∧ ∀ u, u < u0 → ¬ f_at ks v x u := by
    intro w
    induction w using Nat.strongRecOn with
    | ind w ih =>
      intro hw
      by_cases z : ∃ u, u < w ∧ f_at ks v x u
      · obtain ⟨u, h1, h2⟩ := z
        obtain ⟨u0, q1, q2⟩ := ih u h1 h2
        exact ⟨u0, by omega, q2⟩
      · exact ⟨w, Nat.le_refl _, hw, fun u hu q => z ⟨u, hu, q⟩⟩
  obtain ⟨u0, q1, q2⟩ := this w (Or.inl e)
  exact ⟨u0, by omega, q2⟩
/-- a key that is there is found -/
theorem f_there {ks : List Nat} {v t : Nat → Nat} (hF : f_ok h F ks v t) {x u0 : Nat} (h1 : f_at ks v x u0) (h2 : ∀ u, u < u0 → ¬ f_at ks v x u) (hx : x ∈ ks) : ∃ i, i < ks.length ∧ v ((sl_h x + u0) % 8192) = i + 1 ∧ ks.getD i 0 = x := by
  rcases h1 with w | w
  · obtain ⟨-, hl, -, -, hv, hj, ht⟩ := hF
    obtain ⟨i, hi, e⟩ := List.getElem_of_mem hx
    have e : ks.getD i 0 = x := by rw [List.getD_eq_getElem?_getD, List.getElem?_eq_getElem hi]; exact e
    obtain ⟨t1, t2, t3⟩ := ht i hi
    rw [e] at t2 t3
    rcases Nat.lt_trichotomy u0 (t i) with z | z | z
    · exact absurd w (t3 u0 z)
    · rw [z] at w
      exact absurd (w.symm.trans t2) (by omega)
    · exact absurd (Or.inr ⟨i, hi, t2, e⟩) (h2 (t i) z)
  · exact w
theorem M_slotOf {x u0 : Nat} {ks : List Nat} {v t : Nat → Nat} (hF : f_ok h F ks v t) (hx : x < 2 ^ 63) (hu0 : u0 < 8192) (hs : f_at ks v x u0) (hn : ∀ u, u < u0 → ¬ f_at ks v x u) (hK : K (.inl (some (.int (nI ((sl_h x + u0) % 8192))))) h) : am_M l d 0 0 34 [.ref F, .long (lN x)] h K := by
  refine am_enter (mi := 34) (am_ckP_all 34 (by decide)) (Nat.le_of_ble_eq_true rfl) (by decide) ?_
  refine am_go 100 ?_
  simp only [vq_s, vq_0, vq_h, am_clr_eq, vq_1, vq_2, vq_3, vq_4, vq_5, vq_6, vq_7, vq_8, vq_9, vq_10, vq_11, vq_12, vq_13, vq_14, vq_15, vq_16, vq_17, vq_20, vq_21, vq_22, vq_23, vq_24, vq_25, vq_26, vq_27, vq_28, vq_29, vq_30, vq_31, vq_32, vq_33, vq_34, vq_35, vq_36, vq_37, vq_38, vq_39, vq_40, vq_41, vq_42, vq_43, vq_44, vq_45, vq_50, vq_51, vq_52, vq_53, vq_54, vq_55, vq_56, vq_57, vq_58, vq_59, vq_60, vq_61, vq_62, vq_63, vq_64, vq_70, vq_71, vq_72, vq_73, vq_74, vq_75, vq_76, vq_77, vq_78, vq_79, vq_80, vq_81, vq_85, vq_86, vq_87, vq_88, vq_89, vq_90, vq_91, vq_92, vq_93, vq_95, vq_96, vq_100, vq_101, vq_110, vq_111, vq_112, vq_113, vq_114, vq_200, vq_s1, vq_s2, vq_t1, vq_t2, vq_st, vq_r1, vq_sr, vq_ssr, vq_tsr, vq_v1, vq_v2, vq_e, vq_nln, vq_nli, vq_nlr, vq_nlf, vq_nlu, vq_isAr, vq_isAf, vq_isAu, vq_di, vq_dr, vq_df, vq_du, vq_dl, vq_sf, vq_f1, ie_m2_m1, ie_m2_0, ie_m2_1, ie_m2_2, ie_m2_3, ie_m2_4, ie_m2_8, ie_m2_20, ie_m1_m2, ie_m1_0, ie_m1_1, ie_m1_2, ie_m1_3, ie_m1_4, ie_m1_8, ie_m1_20, ie_0_m2, ie_0_m1, ie_0_1, ie_0_2, ie_0_3, ie_0_4, ie_0_8, ie_0_20, ie_1_m2, ie_1_m1, ie_1_0, ie_1_2, ie_1_3, ie_1_4, ie_1_8, ie_1_20, ie_2_m2, ie_2_m1, ie_2_0, ie_2_1, ie_2_3, ie_2_4, ie_2_8, ie_2_20, ie_3_m2, ie_3_m1, ie_3_0, ie_3_1, ie_3_2, ie_3_4, ie_3_8, ie_3_20, ie_4_m2, ie_4_m1, ie_4_0, ie_4_1, ie_4_2, ie_4_3, ie_4_8, ie_4_20, ie_8_m2, ie_8_m1, ie_8_0, ie_8_1, ie_8_2, ie_8_3, ie_8_4, ie_8_20, ie_20_m2, ie_20_m1, ie_20_0, ie_20_1, ie_20_2, ie_20_3, ie_20_4, ie_20_8, am_ne1, am_ne2, am_I_wI, am_L_wL, am_P_wP, Nat.reduceEqDiff, false_and, if_false, if_true, vq_rr, vq_rn, vq_li, vq_ll, vq_lar, vq_laf, vq_lan, vq_arr, vq_d0, vq_p0, vq_ps, am_get_0, am_get_s, am_set_0, am_set_s, am_rf_none, am_rf_some, am_S_wI, am_S_wL, am_S_wP, am_L_wI, am_P_wI, am_I_wL, am_P_wL, am_I_wP, am_L_wP, am_N_wI, am_N_wL, am_N_wP, am_ok_l, am_push_n, am_push_s, am_ent_nil, am_ent_i, am_ent_r, am_ent_f, am_ent_n, am_ent_l, not_true_eq_false, not_false_eq_true, false_implies, true_implies, implies_true, Int32.reduceAdd, Int32.reduceLT, Int32.reduceLE, true_or, or_true, eq_self, List.replicate_succ, List.replicate_zero, Nat.reduceSub, Nat.reduceAdd, Nat.reduceLeDiff, Nat.add_one_sub_one, Nat.add_sub_cancel, true_and, and_true, Nat.le_add_left, Nat.zero_sub, Nat.sub_zero, Nat.sub_self, Nat.add_zero, Nat.zero_add, l34, k34_0, k34_1, k34_4, k34_5, k34_7, k34_8, k34_9, k34_10, k34_11, k34_13, k34_15, k34_18, k34_21, k34_22, k34_25, k34_26, k34_27, k34_28, k34_29, k34_31, k34_33, k34_36, k34_37, k34_40, k34_42, k34_43, k34_44, k34_45, k34_48, k34_49, k34_50, k34_51, k34_52, k34_53, k34_56, k34_57, k34_58, k34_61, k34_64, k34_65]
  rw [show (((lN x * am_lng.getD 3 0).toUInt64 >>> ((Int32.toInt64 51).toUInt64 &&& Int64.toUInt64 63)).toInt64.toInt32) = nI ((sl_h x + 0) % 8192) from by
    have := sl_p x
    rw [Nat.add_zero, Nat.mod_eq_of_lt this.2]
    exact this.1]
  exact M_slotOf_loop hF hx hu0 hs hn hK u0 0 none (by omega)
end
