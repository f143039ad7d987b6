/-! which causes there are -/
def Cs (r : Int32) : Prop := r = 0 ∨ r = 1 ∨ r = 2 ∨ r = 4 ∨ r = 6 ∨ r = 12
theorem cs128 {p : PtT} {r : Int32} (h : f_P_findCause_128 p = some r) : Cs r := by
  obtain ⟨z1, z2, z3, z4, z5, z6, z7, z8, z9, z10, z11, z12, ⟨zi1, zi2, zi3, zi4⟩, ⟨zo1, zo2, zo3, zo4⟩, ⟨zm1, zm2, zm3⟩, ⟨zl1, zl2⟩⟩ := p
  simp only [f_P_findCause_128, f_P_findCause_150] at h
  by_cases c1 : (z3 &&& 8) = 0
  · rw [if_pos c1] at h; cases h; exact Or.inr (Or.inl rfl)
  · rw [if_neg c1] at h
    by_cases c2 : zm2 = 0
    · rw [if_pos c2] at h; cases h; exact Or.inr (Or.inl rfl)
    · rw [if_neg c2] at h; cases h; exact Or.inl rfl
theorem cs110 {p : PtT} {r : Int32} (h : f_P_findCause_110 p = some r) : Cs r := by
  obtain ⟨z1, z2, z3, z4, z5, z6, z7, z8, z9, z10, z11, z12, ⟨zi1, zi2, zi3, zi4⟩, ⟨zo1, zo2, zo3, zo4⟩, ⟨zm1, zm2, zm3⟩, ⟨zl1, zl2⟩⟩ := p
  simp only [f_P_findCause_110] at h
  by_cases c1 : (z3 &&& 2) = 0
  · rw [if_pos c1] at h; exact cs128 h
  · rw [if_neg c1] at h
    by_cases c2 : z9 = 0
    · rw [if_pos c2] at h; exact cs128 h
    · rw [if_neg c2] at h; cases h; exact Or.inr (Or.inr (Or.inl rfl))
theorem cs68 {p : PtT} {r : Int32} (h : f_P_findCause_68 p = some r) : Cs r := by
  obtain ⟨z1, z2, z3, z4, z5, z6, z7, z8, z9, z10, z11, z12, ⟨zi1, zi2, zi3, zi4⟩, ⟨zo1, zo2, zo3, zo4⟩, ⟨zm1, zm2, zm3⟩, ⟨zl1, zl2⟩⟩ := p
  simp only [f_P_findCause_68] at h
  by_cases c1 : (z3 &&& 1) = 0
  · rw [if_pos c1] at h; exact cs110 h
  · rw [if_neg c1] at h
    by_cases c2 : z1 = 0
    · rw [if_pos c2] at h; exact cs110 h
    · rw [if_neg c2] at h
      by_cases c3 : zi3 ≤ 0
      · rw [if_pos c3] at h; exact cs110 h
      · rw [if_neg c3] at h
        obtain ⟨w, hw, h⟩ := bind_e h
        by_cases c4 : z10 < 4 * w
        · rw [if_pos c4] at h; exact cs110 h
        · rw [if_neg c4] at h; cases h; exact Or.inr (Or.inr (Or.inr (Or.inr (Or.inr rfl))))
theorem cs32 {p : PtT} {r : Int32} (h : f_P_findCause_32 p = some r) : Cs r := by
  obtain ⟨z1, z2, z3, z4, z5, z6, z7, z8, z9, z10, z11, z12, ⟨zi1, zi2, zi3, zi4⟩, ⟨zo1, zo2, zo3, zo4⟩, ⟨zm1, zm2, zm3⟩, ⟨zl1, zl2⟩⟩ := p
  simp only [f_P_findCause_32, f_P_findCause_63] at h
  by_cases c1 : (z3 &&& 1) = 0
  · rw [if_pos c1] at h; exact cs68 h
  · rw [if_neg c1] at h
    by_cases c2 : z1 = 0
    · rw [if_pos c2] at h
      by_cases c3 : zi3 < 1
      · rw [if_pos c3] at h; exact cs68 h
      · rw [if_neg c3] at h; cases h; exact Or.inr (Or.inr (Or.inr (Or.inl rfl)))
    · rw [if_neg c2] at h
      by_cases c3 : zi3 < z2
      · rw [if_pos c3] at h; exact cs68 h
      · rw [if_neg c3] at h; cases h; exact Or.inr (Or.inr (Or.inr (Or.inl rfl)))
theorem cs {p : PtT} {r : Int32} (h : f_P_findCause p = some r) : Cs r := by
  obtain ⟨z1, z2, z3, z4, z5, z6, z7, z8, z9, z10, z11, z12, ⟨zi1, zi2, zi3, zi4⟩, ⟨zo1, zo2, zo3, zo4⟩, ⟨zm1, zm2, zm3⟩, ⟨zl1, zl2⟩⟩ := p
  simp only [f_P_findCause, f_P_findCause_29] at h
  by_cases c1 : (z3 &&& 4) = 0
  · rw [if_pos c1] at h; exact cs32 h
  · rw [if_neg c1] at h
    by_cases c2 : z8 = 0
    · rw [if_pos c2] at h
      obtain ⟨w, hw, h⟩ := bind_e h
      by_cases c3 : w ≤ 255
      · rw [if_pos c3] at h; exact cs32 h
      · rw [if_neg c3] at h; cases h; exact Or.inr (Or.inr (Or.inr (Or.inr (Or.inl rfl))))
    · rw [if_neg c2] at h; cases h; exact Or.inr (Or.inr (Or.inr (Or.inr (Or.inl rfl))))
theorem cs_and {q r : Int32} (h : Cs r) : Cs ((if q = 0 then r else r + 192) &&& 15) := by
  by_cases c : q = 0
  · rw [if_pos c]
    rcases h with rfl | rfl | rfl | rfl | rfl | rfl <;> unfold Cs <;> decide
  · rw [if_neg c]
    rcases h with rfl | rfl | rfl | rfl | rfl | rfl <;> unfold Cs <;> decide
