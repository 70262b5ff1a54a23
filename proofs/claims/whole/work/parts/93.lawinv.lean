/-! the law's invariant: the class's object at S and the model's at M tell the same -/
abbrev Lv : Type := Dst × (Nat → Int32) × Nat × (Nat → Int32) × (Nat → Int32) × (Nat → Int32)
/-- the class's day at D is v -/
def cd_in (h : Am_H) (D : Nat) (v : Lv) : Prop := dy_in h D v.1 ∧ (∀ r, r < 3 → am_I h (D + 6) r = v.2.1 r) ∧ am_I h D 11 = nI v.2.2.1 ∧ (∀ i, i < v.2.2.1 → am_I h (D + 9) i = v.2.2.2.1 i ∧ am_I h (D + 10) i = v.2.2.2.2.1 i) ∧ ∀ k, k < 3 → am_I h (D + 11) k = v.2.2.2.2.2 k
/-- the model's day is v -/
def md_in (h : Am_H) (M : Nat) (v : Lv) : Prop := md_dy h M v.1 ∧ (∀ r, r < 3 → am_I h (M + 13) r = v.2.1 r) ∧ am_I h M 47 = nI v.2.2.1 ∧ (∀ i, i < v.2.2.1 → am_I h (M + 29) i = v.2.2.2.1 i ∧ am_I h (M + 30) i = v.2.2.2.2.1 i) ∧ ∀ k, k < 3 → am_I h (M + 10) k = v.2.2.2.2.2 k
/-- the model's image is v -/
def mt_in9 (h : Am_H) (M : Nat) (v : Lv) : Prop := (row_in h (M + 34) v.1.1 v.1.2.1 v.1.2.2.1 ∧ am_I h M 57 = v.1.2.2.2.1 ∧ am_I h M 58 = v.1.2.2.2.2.1 ∧ am_I h M 56 = nI v.1.2.2.2.2.2.1 ∧ am_I h M 59 = nI v.1.2.2.2.2.2.2.length ∧ ∀ i k, v.1.2.2.2.2.2.2[i]? = some k → md_kr h (M + 36) (7 * ((v.1.2.2.2.2.2.1 - 1 - i) % 300)) k.1 ∧ am_I h (M + 37) ((v.1.2.2.2.2.2.1 - 1 - i) % 300) = k.2) ∧ (∀ r, r < 3 → am_I h (M + 35) r = v.2.1 r) ∧ am_I h M 60 = nI v.2.2.1 ∧ (∀ i, i < v.2.2.1 → am_I h (M + 38) i = v.2.2.2.1 i ∧ am_I h (M + 39) i = v.2.2.2.2.1 i) ∧ ∀ k, k < 3 → am_I h (M + 40) k = v.2.2.2.2.2 k
def lv_ok (L n B : Nat) (v : Lv) : Prop := ds_ok v.1 ∧ md_ok L n v.1 ∧ v.1.2.2.2.2.2.1 ≤ B ∧ sl_ok v.2.1 n ∧ v.2.2.1 ≤ 8 ∧ ∀ i, i < v.2.2.1 → (∃ r, r < 3 ∧ v.2.2.2.1 i = nI r) ∧ ∃ s, s ≤ 200 ∧ v.2.2.2.2.1 i = nI s
theorem lv_ok.mono {L n B B' : Nat} {v : Lv} (a : lv_ok L n B v) (hb : B ≤ B') : lv_ok L n B' v := ⟨a.1, a.2.1, Nat.le_trans a.2.2.1 hb, a.2.2.2⟩
/-- a cell is as it was -/
def ea (h h' : Am_H) (o : Nat) : Prop := am_S h' o = am_S h o ∧ am_I h' o = am_I h o ∧ am_L h' o = am_L h o ∧ am_P h' o = am_P h o
section
variable {h h' h1 h2 : Am_H} {o q : Nat} {X Y : Nat → Prop}
theorem ea.rf : ea h h o := ⟨rfl, rfl, rfl, rfl⟩
theorem ea.tr (a : ea h h1 o) (b : ea h1 h2 o) : ea h h2 o := ⟨b.1.trans a.1, b.2.1.trans a.2.1, b.2.2.1.trans a.2.2.1, b.2.2.2.trans a.2.2.2⟩
theorem am_fr.ea (e : am_fr h h' X) (hx : ¬ X o) : ea h h' o := ⟨by rw [e.1], funext fun j => e.2.2.2.2 o hx j, by rw [e.2.2.1], by rw [e.2.1]⟩
theorem am_fq.ea (e : am_fq h h' X Y) (hx : ¬ X o) (hy : ¬ Y o) : ea h h' o := ⟨by rw [e.1], funext fun j => e.2.2.2.1 o hx j, funext fun j => e.2.2.2.2 o hy j, by rw [e.2.1]⟩
theorem ea_wI {i : Nat} {x : Int32} (ho : o ≠ q) : ea h (am_wI h q i x) o := ⟨rfl, funext fun j => by rw [am_I_wI, if_neg (fun w => ho w.1)], rfl, rfl⟩
theorem ea_wL {i : Nat} {x : Int64} (ho : o ≠ q) : ea h (am_wL h q i x) o := ⟨rfl, rfl, funext fun j => by rw [am_L_wL, if_neg (fun w => ho w.1)], rfl⟩
theorem ea_skip {n : Nat} : ea h (am_skip h n) o := ⟨rfl, rfl, rfl, rfl⟩
theorem cd_in.at {D : Nat} {v : Lv} (a : cd_in h D v) (e : ∀ i, i ≤ 11 → am_I h' (D + i) = am_I h (D + i)) (eL : am_L h' (D + 7) = am_L h (D + 7)) : cd_in h' D v := by
  have e0 := e 0 (by omega)
  rw [Nat.add_zero] at e0
  unfold cd_in dy_in
  rw [e0, e 1 (by omega), e 2 (by omega), e 3 (by omega), e 6 (by omega), e 8 (by omega), e 9 (by omega), e 10 (by omega), e 11 (by omega), eL]
  exact a
theorem md_in.at {M : Nat} {v : Lv} (a : md_in h M v) (e : ∀ i ∈ [10, 12, 13, 15, 16, 29, 30], am_I h' (M + i) = am_I h (M + i)) (f : ∀ i ∈ [25, 26, 27, 30, 47], am_I h' M i = am_I h M i) : md_in h' M v := by
  unfold md_in md_dy row_in md_kr
  rw [e 10 (by decide), e 12 (by decide), e 13 (by decide), e 15 (by decide), e 16 (by decide), e 29 (by decide), e 30 (by decide), f 25 (by decide), f 26 (by decide), f 27 (by decide), f 30 (by decide), f 47 (by decide)]
  exact a
theorem mt_in9.at {M : Nat} {v : Lv} (a : mt_in9 h M v) (e : ∀ i ∈ [34, 35, 36, 37, 38, 39, 40], am_I h' (M + i) = am_I h (M + i)) (f : ∀ i ∈ [56, 57, 58, 59, 60], am_I h' M i = am_I h M i) : mt_in9 h' M v := by
  unfold mt_in9 row_in md_kr
  rw [e 34 (by decide), e 35 (by decide), e 36 (by decide), e 37 (by decide), e 38 (by decide), e 39 (by decide), e 40 (by decide), f 56 (by decide), f 57 (by decide), f 58 (by decide), f 59 (by decide), f 60 (by decide)]
  exact a
end
/-- the class's side -/
def lc_in (h : Am_H) (S m : Nat) (R : Mrec) (c : Nat) (fp : Int32) (v : Lv) (im : Int32) (vT : Lv) (p : Nat) (pl : Nat → Int32) : Prop := rec_in h m R ∧ am_I h (S + 1) 1 = nI c ∧ am_I h S 1 = fp ∧ cd_in h (S + 17) v ∧ am_I h S 6 = im ∧ (¬ im = 0 → cd_in h (S + 29) vT) ∧ (am_I h (S + 54) 1 = 0 ∨ q_saf h (S + 54) (sf_all h m (R 0 4))) ∧ am_I h (S + 60) 2 = nI p ∧ ∀ i, i < p → am_I h (S + 66) i = pl i
/-- the model's side -/
def lm_in (h : Am_H) (M m : Nat) (R : Mrec) (c : Nat) (fp : Int32) (v : Lv) (im : Int32) (vT : Lv) (p : Nat) (pl ch : Nat → Int32) : Prop := is_Model h M ∧ mdm h M m (R 0 4) ∧ am_I h M 12 = nI c ∧ (∀ i, rlb (ch i) (am_I h (M + 11) i)) ∧ am_I h M 21 = fp ∧ md_in h M v ∧ am_I h M 55 = im ∧ (¬ im = 0 → mt_in9 h M vT) ∧ am_I h M 46 = nI p - 1 ∧ ∀ i, i < p → am_I h (M + 28) i = pl i
/-- the table, the place of the answer -/
def lt_in (h : Am_H) (S M O : Nat) : Prop := tb_in h S ∧ (∀ F, am_P h S 11 = some F → O < F) ∧ O < am_N h ∧ am_S h O = (4, 1) ∧ S + 67 ≤ M ∧ M + 41 ≤ O
def LA (h : Am_H) (S M O m q : Nat) (R : Mrec) (c : Nat) (fp : Int32) (v : Lv) (im : Int32) (vT : Lv) (p : Nat) (pl : Nat → Int32) : Prop := sd_in h S m q ∧ lc_in h S m R c fp v im vT p pl ∧ lt_in h S M O
def lv_all (R : Mrec) (c k : Nat) (v : Lv) (im : Int32) (vT : Lv) (p : Nat) : Prop := rec_ok R ∧ c ≤ 400 ∧ lv_ok (R 0 0) (R 0 4) (200 * k) v ∧ (¬ im = 0 → lv_ok (R 0 0) (R 0 4) (200 * k) vT) ∧ p ≤ 61
/-- both sides -/
def LI (h : Am_H) (S M O k : Nat) : Prop := ∃ m q R c fp v im vT p pl, LA h S M O m q R c fp v im vT p pl ∧ lm_in h M m R c fp v im vT p pl (am_I h (S + 2)) ∧ lv_all R c k v im vT p
section
variable {h h' : Am_H} {S M O m q c p n : Nat} {R : Mrec} {fp im : Int32} {v vT : Lv} {pl ch : Nat → Int32} {X : Nat → Prop}
theorem sd_in.mr (a : sd_in h S m q) : S + 3 ≤ m ∧ m + 6 ≤ S + 16 ∧ S + 3 ≤ q ∧ q + 6 ≤ S + 16 := by
  obtain ⟨-, -, -, ⟨-, -, hmq⟩, -⟩ := a
  rcases hmq with ⟨e, e2⟩ | ⟨e, e2⟩ <;> omega
theorem rec_in.at (a : rec_in h m R) (e : ∀ i, i ≤ 6 → am_I h' (m + i) = am_I h (m + i)) : rec_in h' m R := by
  have e0 := e 0 (by omega)
  rw [Nat.add_zero] at e0
  unfold rec_in
  rw [e0, e 1 (by omega), e 2 (by omega), e 3 (by omega), e 4 (by omega), e 5 (by omega), e 6 (by omega)]
  exact a
theorem lc_in.at (a : lc_in h S m R c fp v im vT p pl) (e0 : am_I h' S = am_I h S) (e1 : am_I h' (S + 1) = am_I h (S + 1)) (em : ∀ i, i ≤ 6 → am_I h' (m + i) = am_I h (m + i)) (ed : ∀ i, 17 ≤ i → i ≤ 40 → am_I h' (S + i) = am_I h (S + i)) (eL : am_L h' (S + 24) = am_L h (S + 24) ∧ am_L h' (S + 36) = am_L h (S + 36)) (e5 : am_I h' (S + 54) = am_I h (S + 54)) (e6 : am_I h' (S + 60) = am_I h (S + 60)) (e7 : am_I h' (S + 66) = am_I h (S + 66)) : lc_in h' S m R c fp v im vT p pl := by
  obtain ⟨a1, a2, a3, a4, a5, a6, a7, a8, a9⟩ := a
  have m0 := em 0 (by omega)
  rw [Nat.add_zero] at m0
  refine ⟨a1.at em, by rw [e1]; exact a2, by rw [e0]; exact a3, a4.at (fun i hi => ?_) eL.1, by rw [e0]; exact a5, fun z => (a6 z).at (fun i hi => ?_) eL.2, ?_, by rw [e6]; exact a8, by rw [e7]; exact a9⟩
  · rw [Nat.add_assoc]; exact ed (17 + i) (by omega) (by omega)
  · rw [Nat.add_assoc]; exact ed (29 + i) (by omega) (by omega)
  · unfold q_saf
    rw [e5, sf_all_eq m0 (em 1 (by omega)) (em 3 (by omega)) (em 4 (by omega)) (em 5 (by omega)) (em 6 (by omega))]
    exact a7
theorem is_Model.at (a : is_Model h M) (e : ∀ i, i ≤ 40 → am_S h' (M + i) = am_S h (M + i) ∧ am_P h' (M + i) = am_P h (M + i)) : is_Model h' M := by
  have e0 := e 0 (by omega)
  rw [Nat.add_zero] at e0
  unfold is_Model
  rw [e0.1, e0.2, (e 1 (by omega)).1, (e 1 (by omega)).2, (e 2 (by omega)).1, (e 2 (by omega)).2]
  refine ⟨a.1, a.2.1, fun x hx => ⟨(a.2.2 x hx).1, ?_⟩⟩
  have : x.2.1 ≤ 40 := by revert x; decide
  rw [(e x.2.1 this).1]
  exact (a.2.2 x hx).2
theorem lm_in.at (a : lm_in h M m R c fp v im vT p pl ch) (hM : is_Model h' M) (em : ∀ i, i ≤ 6 → am_I h' (m + i) = am_I h (m + i)) (e : ∀ i, (3 ≤ i ∧ i ≤ 13) ∨ i = 15 ∨ i = 16 ∨ (28 ≤ i ∧ i ≤ 30) ∨ (34 ≤ i ∧ i ≤ 40) → am_I h' (M + i) = am_I h (M + i)) (f : ∀ i, i = 12 ∨ i = 21 ∨ (25 ≤ i ∧ i ≤ 27) ∨ i = 30 ∨ i = 46 ∨ i = 47 ∨ (55 ≤ i ∧ i ≤ 60) → am_I h' M i = am_I h M i) : lm_in h' M m R c fp v im vT p pl ch := by
  obtain ⟨a1, a2, a3, a4, a5, a6, a7, a8, a9, a10⟩ := a
  refine ⟨hM, a2.of (fun i h1 h2 => e i (by omega)) em, by rw [f 12 (by omega)]; exact a3, by rw [e 11 (by omega)]; exact a4, by rw [f 21 (by omega)]; exact a5, a6.at (fun i hi => e i ?_) (fun i hi => f i ?_), by rw [f 55 (by omega)]; exact a7, fun z => (a8 z).at (fun i hi => e i ?_) (fun i hi => f i ?_), by rw [f 46 (by omega)]; exact a9, by rw [e 28 (by omega)]; exact a10⟩
  · revert i; decide
  · revert i; decide
  · revert i; decide
  · revert i; decide
theorem lm_in.keep (a : lm_in h M m R c fp v im vT p pl ch) (e : ∀ o, M ≤ o → o ≤ M + 40 → ea h h' o) (em : ∀ i, i ≤ 6 → am_I h' (m + i) = am_I h (m + i)) : lm_in h' M m R c fp v im vT p pl ch :=
  a.at (a.1.at (fun i hi => ⟨(e (M + i) (by omega) (by omega)).1, (e (M + i) (by omega) (by omega)).2.2.2⟩)) em (fun i hi => (e (M + i) (by omega) (by omega)).2.1) (fun i _ => by rw [(e M (by omega) (by omega)).2.1])
theorem sd_in.keep (a : sd_in h S m q) (e : ∀ o, S ≤ o → o ≤ S + 66 → ea h h' o) : sd_in h' S m q :=
  a.at (fun i h1 h2 => ⟨(e (S + i) (by omega) (by omega)).1, (e (S + i) (by omega) (by omega)).2.2.2⟩) (e S (by omega) (by omega)).1 (fun k _ => by rw [(e S (by omega) (by omega)).2.2.2])
theorem lc_in.keep (a : lc_in h S m R c fp v im vT p pl) (hr : S ≤ m ∧ m + 6 ≤ S + 66) (e : ∀ o, S ≤ o → o ≤ S + 66 → ea h h' o) : lc_in h' S m R c fp v im vT p pl :=
  a.at (e S (by omega) (by omega)).2.1 (e (S + 1) (by omega) (by omega)).2.1 (fun i hi => (e (m + i) (by omega) (by omega)).2.1) (fun i h1 h2 => (e (S + i) (by omega) (by omega)).2.1) ⟨(e (S + 24) (by omega) (by omega)).2.2.1, (e (S + 36) (by omega) (by omega)).2.2.1⟩ (e (S + 54) (by omega) (by omega)).2.1 (e (S + 60) (by omega) (by omega)).2.1 (e (S + 66) (by omega) (by omega)).2.1
/-- shapes and refs are as they were, and no cell is lost -/
theorem lt_in.keep (a : lt_in h S M O) (eS : am_S h' = am_S h) (eP : am_P h' = am_P h) (eN : am_N h ≤ am_N h') : lt_in h' S M O := by
  obtain ⟨⟨t1, t2⟩, b, c, d, e⟩ := a
  refine ⟨⟨by omega, fun F hF => ?_⟩, fun F hF => b F (by rw [eP] at hF; exact hF), by omega, by rw [eS]; exact d, e⟩
  rw [eP] at hF
  obtain ⟨u1, u2, u3⟩ := t2 F hF
  exact ⟨u1, by omega, by unfold is_Found; rw [eS, eP]; exact u3⟩
theorem LA.keep (a : LA h S M O m q R c fp v im vT p pl) (eS : am_S h' = am_S h) (eP : am_P h' = am_P h) (eN : am_N h ≤ am_N h') (e : ∀ o, S ≤ o → o ≤ S + 66 → ea h h' o) : LA h' S M O m q R c fp v im vT p pl := by
  have := a.1.mr
  exact ⟨a.1.keep e, a.2.1.keep (by omega) e, a.2.2.keep eS eP eN⟩
theorem LA.mo (a : LA h S M O m q R c fp v im vT p pl) (e : am_fr h h' X) (hx : ∀ o, X o → M ≤ o ∧ o ≤ M + 40) : LA h' S M O m q R c fp v im vT p pl := by
  have hSM := a.2.2.2.2.2.2.1
  exact a.keep e.1 e.2.1 (Nat.le_of_eq e.2.2.2.1.symm) (fun o h1 h2 => e.ea (fun w => by have := hx o w; omega))
theorem LA.skip (a : LA h S M O m q R c fp v im vT p pl) (hn : am_N h ≤ n) : LA (am_skip h n) S M O m q R c fp v im vT p pl := a.keep rfl rfl hn (fun o _ _ => ea_skip)
theorem LA.wL {x : Int64} (a : LA h S M O m q R c fp v im vT p pl) : LA (am_wL h O 0 x) S M O m q R c fp v im vT p pl := by
  have hSM := a.2.2.2.2.2.2
  exact a.keep rfl rfl (Nat.le_refl _) (fun o h1 h2 => ea_wL (by omega))
theorem LA.scr (a : LA h S M O m q R c fp v im vT p pl) (e : am_fr h h' X) (hx : ∀ o, X o → S + 41 ≤ o ∧ o ≤ S + 53) : LA h' S M O m q R c fp v im vT p pl := by
  have hr := a.1.mr
  have nx : ∀ o, ¬ (S + 41 ≤ o ∧ o ≤ S + 53) → am_I h' o = am_I h o := fun o w => (e.ea (fun z => w (hx o z))).2.1
  refine ⟨a.1.at (fun i _ _ => ⟨by rw [e.1], by rw [e.2.1]⟩) (by rw [e.1]) (fun k _ => by rw [e.2.1]), a.2.1.at (nx S (by omega)) (nx _ (by omega)) (fun i hi => nx _ (by omega)) (fun i h1 h2 => nx _ (by omega)) ⟨by rw [e.2.2.1], by rw [e.2.2.1]⟩ (nx _ (by omega)) (nx _ (by omega)) (nx _ (by omega)), a.2.2.keep e.1 e.2.1 (Nat.le_of_eq e.2.2.2.1.symm)⟩
theorem lm_in.scr (a : lm_in h M m R c fp v im vT p pl ch) (hr : S + 3 ≤ m ∧ m + 6 ≤ S + 16 ∧ S + 67 ≤ M) (e : am_fr h h' X) (hx : ∀ o, X o → S + 41 ≤ o ∧ o ≤ S + 53) : lm_in h' M m R c fp v im vT p pl ch :=
  a.keep (fun o h1 h2 => e.ea (fun w => by have := hx o w; omega)) (fun i hi => (e.ea (fun w => by have := hx _ w; omega)).2.1)
theorem lm_in.skip (a : lm_in h M m R c fp v im vT p pl ch) : lm_in (am_skip h n) M m R c fp v im vT p pl ch := a.keep (fun o _ _ => ea_skip) (fun i _ => rfl)
theorem lm_in.wL {x : Int64} (a : lm_in h M m R c fp v im vT p pl ch) (hO : M + 41 ≤ O) : lm_in (am_wL h O 0 x) M m R c fp v im vT p pl ch := a.keep (fun o h1 h2 => ea_wL (by omega)) (fun i _ => rfl)
/-- the model's room for work -/
theorem lm_in.mscr (a : lm_in h M m R c fp v im vT p pl ch) (hm : m + 6 < M) (e : am_fr h h' X) (hx : ∀ o, X o → o = M ∨ o = M + 14 ∨ (M + 17 ≤ o ∧ o ≤ M + 27) ∨ (M + 31 ≤ o ∧ o ≤ M + 33)) (f : ∀ i, i = 12 ∨ i = 21 ∨ (25 ≤ i ∧ i ≤ 27) ∨ i = 30 ∨ i = 46 ∨ i = 47 ∨ (55 ≤ i ∧ i ≤ 60) → am_I h' M i = am_I h M i) : lm_in h' M m R c fp v im vT p pl ch :=
  a.at (a.1.fr e) (fun i hi => (e.ea (fun w => by have := hx _ w; omega)).2.1) (fun i hi => (e.ea (fun w => by have := hx _ w; omega)).2.1) f
theorem lm_in.th {x : Int32} (a : lm_in h M m R c fp v im vT p pl ch) (hm : m + 6 < M) : lm_in (am_wI h M 2 x) M m R c fp v im vT p pl ch :=
  a.mscr hm (X := fun o => o = M) (am_fr.w am_fr.rf rfl) (fun o w => Or.inl w) (fun i hi => by rw [am_I_wI, if_neg (fun w => by omega)])
theorem LA.th {x : Int32} (a : LA h S M O m q R c fp v im vT p pl) : LA (am_wI h M 2 x) S M O m q R c fp v im vT p pl :=
  a.mo (X := fun o => o = M) (am_fr.w am_fr.rf rfl) (fun o w => by omega)
/-- the mine is a good one -/
theorem LA.good (a : LA h S M O m q R c fp v im vT p pl) (ok : rec_ok R) : is_Good h m (R 0 4) (R 0 0) ∧ 0 < R 0 0 ∧ md_k4 h m (R 0 4) ∧ R 0 4 ≤ 3 ∧ am_I h m 4 = nI (R 0 4) := by
  obtain ⟨r1, r2⟩ := a.2.1.1
  obtain ⟨o1, o2, o3, o4, o5, o6⟩ := ok
  refine ⟨⟨⟨a.1.2.2.2.1.1, o5, r1 4 (by omega)⟩, r1 0 (by omega), o1.2.1, fun r hr => ⟨R 4 r, R 5 r, (r2 r hr).2.2.2.1, ?_⟩⟩, by omega, fun r hr => ?_, o5, r1 4 (by omega)⟩
  · have := o6 r hr
    exact ⟨this.2.2.2.1.1, this.2.2.2.1.2, (r2 r hr).2.2.2.2.1, this.2.2.2.2.1⟩
  · have := (o6 r hr).1
    rw [(r2 r hr).1]
    rcases (show R 1 r = 0 ∨ R 1 r = 1 ∨ R 1 r = 2 ∨ R 1 r = 3 by omega) with e | e | e | e <;> rw [e] <;> decide
end
