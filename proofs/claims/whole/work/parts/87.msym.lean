/-! two cars meet, whichever is named first -/
theorem nI_sub_i {a b : Nat} (ha : a ≤ 1000) (hb : b ≤ 1000) : (nI a - nI b).toInt = (a : Int) - b := by
  have ea : (nI a).toInt = a := by
    unfold nI
    rw [Int32.toInt_ofNat_of_lt (by omega)]
  have eb : (nI b).toInt = b := by
    unfold nI
    rw [Int32.toInt_ofNat_of_lt (by omega)]
  rw [Int32.toInt_sub, ea, eb]
  exact Int.bmod_eq_of_le (by omega) (by omega)
theorem sb_le {a b : Nat} (ha : a ≤ 1000) (hb : b ≤ 1000) : nI a - nI b ≤ 0 ↔ a ≤ b := by
  rw [Int32.le_iff_toInt_le, nI_sub_i ha hb, Int32.toInt_zero]; omega
theorem sb_ge {a b : Nat} (ha : a ≤ 1000) (hb : b ≤ 1000) : 0 ≤ nI a - nI b ↔ b ≤ a := by
  rw [Int32.le_iff_toInt_le, nI_sub_i ha hb, Int32.toInt_zero]; omega
theorem sb_lt {a b : Nat} (ha : a ≤ 1000) (hb : b ≤ 1000) : nI a - nI b < 0 ↔ a < b := by
  rw [Int32.lt_iff_toInt_lt, nI_sub_i ha hb, Int32.toInt_zero]; omega
theorem sb_eq {a b : Nat} (ha : a ≤ 1000) (hb : b ≤ 1000) : nI a - nI b = 0 ↔ a = b := by
  rw [← Int32.toInt_inj, nI_sub_i ha hb, Int32.toInt_zero]; omega
theorem sp_meet_sy {L H : Int32} {a b c d : Nat} (ha : a ≤ 1000) (hb : b ≤ 1000) (hc : c ≤ 1000) (hd : d ≤ 1000) : sp_meet L H (nI a) (nI b) (nI c) (nI d) ↔ sp_meet L H (nI c) (nI d) (nI a) (nI b) := by
  unfold sp_meet
  rw [sb_eq hb hd, sb_eq hd hb, sb_le hb hd, sb_le hd hb, sb_lt ha hc, sb_lt hc ha, sb_ge hb hd, sb_ge hd hb, sb_le ha hc, sb_le hc ha]
  constructor
  · rintro ⟨x, y⟩
    refine ⟨?_, ?_⟩
    · rcases x with ⟨e, u, v⟩ | ⟨u, v⟩ | ⟨u, v⟩
      · subst e; exact Or.inl ⟨rfl, u, v⟩
      · exact Or.inr (Or.inr ⟨by omega, by omega⟩)
      · exact Or.inr (Or.inl ⟨by omega, by omega⟩)
    · rcases y with z | z | z | z
      · exact Or.inr (Or.inr (Or.inl z))
      · exact Or.inr (Or.inr (Or.inr z))
      · exact Or.inl z
      · exact Or.inr (Or.inl z)
  · rintro ⟨x, y⟩
    refine ⟨?_, ?_⟩
    · rcases x with ⟨e, u, v⟩ | ⟨u, v⟩ | ⟨u, v⟩
      · subst e; exact Or.inl ⟨rfl, u, v⟩
      · exact Or.inr (Or.inr ⟨by omega, by omega⟩)
      · exact Or.inr (Or.inl ⟨by omega, by omega⟩)
    · rcases y with z | z | z | z
      · exact Or.inr (Or.inr (Or.inl z))
      · exact Or.inr (Or.inr (Or.inr z))
      · exact Or.inl z
      · exact Or.inr (Or.inl z)
