/-! goOn, arrive, run on a row that holds a state -/
section
variable {l : Am_L} {d : Nat} {h : Am_H} {M m n L x : Nat} {gs : Nat → Int32} {K : Am_R → Am_H → Prop}
theorem N_goOn_r {f g : Nat → Int32} {last : Int32} (hM : is_Model h M) (hm : mdg gs h M m n) (hg : is_Good h m n L) (hmx : m + 6 < M) (hk4 : md_k4 h m n) (hx : am_S h x = (2, 7)) (hxM : M + 14 < x) (row : row_in h x f g last) (hgl : gl L n f) (hK : ∀ h', am_fr h h' (fun q => q = x ∨ q = M + 14) → row_in h' x (mv_go h m n f) g last → K (.inl (some (.int (mv_harm h m n f)))) h') : am_M l (d + 2) 0 0 130 [.ref M, .ref x] h K := by
  have hn := hg.1.2.1
  have b1 : e3 (am_I h x) f := fun r hr => (row.1 r hr).1
  have gl2 : gl L n (am_I h x) := hgl.c (fun r hr => (b1 r (by omega)).symm)
  refine N_goOn hM hm hn hx (by omega) (by omega) hmx hk4 hg.2.1 hg.2.2.1 (gl2.bd hg.2.1 hg.2.2.1) (fun h1 q1 => ?_)
  rw [mv_harm_c b1 hn]
  refine hK h1 q1.1 ⟨fun r hr => ⟨?_, ?_⟩, ?_⟩
  · rw [q1.2.2]
    by_cases w : r < n
    · rw [if_pos w]; exact mv_go_c b1 r hr
    · rw [if_neg w, b1 r hr]; unfold mv_go sp_go; rw [if_neg w]
  · rw [q1.2.2, if_neg (by omega)]; exact (row.1 r hr).2
  · rw [q1.2.2, if_neg (by omega)]; exact row.2
theorem N_arrive_r {f g : Nat → Int32} {last : Int32} (hM : is_Model h M) (hm : mdg gs h M m n) (hn : n ≤ 3) (hmx : m + 6 < M) (hx : am_S h x = (2, 7)) (hxM : M + 9 < x) (row : row_in h x f g last) (hK : ∀ h', am_fr h h' (fun q => q = x) → row_in h' x (sp_at2 (am_I h m 0) n f) g last → K (.inl (some (.int (sp_bits (fun r => f r = am_I h m 0) 0 n)))) h') : am_M l d 0 0 134 [.ref M, .ref x] h K := by
  refine N_arrive hM hm hn hx hxM (by omega) (fun h1 q1 => ?_)
  rw [sp_bits_c n (fun r hr => by rw [(row.1 r (by omega)).1]) (Q := fun r => f r = am_I h m 0)]
  refine hK h1 q1.1 ⟨fun r hr => ⟨?_, ?_⟩, ?_⟩
  · rw [q1.2, (row.1 r hr).1]; rfl
  · rw [q1.2, if_neg (by omega)]; exact (row.1 r hr).2
  · rw [q1.2, if_neg (by omega)]; exact row.2
theorem N_run_r {f g : Nat → Int32} {last : Int32} (hM : is_Model h M) (hm : mdg gs h M m n) (hn : n ≤ 3) (hmx : m + 6 < M) (hx : am_S h x = (2, 7)) (hxM : M + 9 < x) (row : row_in h x f g last) (hl : ∀ r, r < n → ∃ a, a ≤ 1000 ∧ g r = nI a) (hK : ∀ h', am_fr h h' (fun q => q = x) → row_in h' x f (sp_lf n g) last → K (.inl none) h') : am_M l d 0 0 136 [.ref M, .ref x] h K := by
  refine N_run hM hm hn hx hxM (by omega) (fun r hr => by rw [(row.1 r (by omega)).2]; exact hl r hr) (fun h1 q1 => ?_)
  refine hK h1 q1.1 ⟨fun r hr => ⟨?_, ?_⟩, ?_⟩
  · rw [q1.2, if_neg (by omega)]; exact (row.1 r hr).1
  · rw [q1.2, (row.1 r hr).2, sp_lf]
    by_cases w : r < n
    · rw [if_pos (by omega), if_pos w]
    · rw [if_neg (by omega), if_neg w]
  · rw [q1.2, if_neg (by omega)]; exact row.2
theorem gd_left {f g : Nat → Int32} {last : Int32} (hg : sp_gd f g last) (hn : n ≤ 3) : ∀ r, r < n → ∃ a, a ≤ 1000 ∧ g r = nI a := fun r hr => by
  obtain ⟨a, b, w, h1, -⟩ := hg
  exact ⟨b r, by have := (h1 r (by omega)).2.2.2; omega, (h1 r (by omega)).2.2.1⟩
end
