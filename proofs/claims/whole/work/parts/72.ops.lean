/-! CLASS AND REFERENCE ANSWER ALIKE: alarm, known, told -/
section
variable {z t nP : Nat} {σ τ σ1 τ1 : os_S} {ad ad1 ad2 ad3 : Nat → Nat → Nat} {x y : Int32} {r r2 : os_O}
theorem ok_alarm (h : Rel z t nP σ τ) (hq : q_alarm σ ad x y r σ1 ad1) (hm : m_alarm τ ad2 x y r2 τ1 ad3) : Rel z t nP σ1 τ1 ∧ agI [("java/util/NoSuchElementException", 1), ("java/lang/IllegalArgumentException", 2)] (os_g τ1 13 0 0) r r2 := by
  obtain ⟨-, rfl, hq⟩ := hq
  obtain ⟨-, hm⟩ := hm
  simp only [h.bA, bzN7] at hm
  rcases hq with ⟨c, rfl⟩ | ⟨i, hi, hq⟩
  · rw [noL_iff] at c
    simp only [c, not_false_eq_true, not_true_eq_false, true_and, false_and, or_false, false_or, and_true, and_false, or_true, true_or, and_self, or_self] at hm
    obtain ⟨rfl, rfl⟩ := hm
    exact ⟨h.c, Or.inr ⟨_, _, by simp [os_g_sg], rfl, rfl⟩⟩
  · obtain ⟨hi, hx⟩ := hi
    rw [Nat.add_zero] at hx
    subst hx
    have c : ∃ j, j < os_n σ 11 ∧ nI (i) = nI (j) := ⟨i, hi, rfl⟩
    have e := h.A hi
    have ix : iN (nI (i)) = i := iN9 (by have := h.n11; omega)
    simp only [c, ix, not_false_eq_true, not_true_eq_false, true_and, false_and, or_false, false_or, and_true, and_false, or_true, true_or, and_self, or_self] at hm
    rcases hq with ⟨c1, rfl⟩ | ⟨rfl, rfl⟩ | ⟨rfl, rfl⟩ | ⟨rfl, rfl⟩ | ⟨rfl, rfl⟩ | ⟨rfl, rfl⟩ | ⟨rfl, rfl⟩ | ⟨rfl, rfl⟩
    · have c2 : ¬ ∃ k, k < 7 ∧ y = nI k := fun ⟨k, hk, e⟩ => c1 k hk e
      simp only [c2, not_false_eq_true, not_true_eq_false, true_and, false_and, or_false, false_or, and_true, and_false, or_true, true_or, and_self, or_self] at hm
      obtain ⟨rfl, rfl⟩ := hm
      exact ⟨h.c, Or.inr ⟨_, _, by simp [os_g_sg], rfl, rfl⟩⟩
    · have c2 : ∃ k, k < 7 ∧ (0 : Int32) = nI k := ⟨0, by decide, by decide⟩
      simp [c2] at hm
      obtain ⟨rfl, rfl⟩ := hm
      exact ⟨h.c, Or.inl ⟨by simp [os_g_sg], _, rfl, by rw [(h.R e.2.2.2.2.2.2.2.2.2.1).1, e.2.1]⟩⟩
    · have c2 : ∃ k, k < 7 ∧ (1 : Int32) = nI k := ⟨1, by decide, by decide⟩
      simp [c2] at hm
      obtain ⟨rfl, rfl⟩ := hm
      exact ⟨h.c, Or.inl ⟨by simp [os_g_sg], _, rfl, by rw [e.2.2.1]⟩⟩
    · have c2 : ∃ k, k < 7 ∧ (2 : Int32) = nI k := ⟨2, by decide, by decide⟩
      simp [c2] at hm
      obtain ⟨rfl, rfl⟩ := hm
      exact ⟨h.c, Or.inl ⟨by simp [os_g_sg], _, rfl, by rw [e.2.2.2.1]⟩⟩
    · have c2 : ∃ k, k < 7 ∧ (3 : Int32) = nI k := ⟨3, by decide, by decide⟩
      simp [c2] at hm
      obtain ⟨rfl, rfl⟩ := hm
      exact ⟨h.c, Or.inl ⟨by simp [os_g_sg], _, rfl, by rw [e.2.2.2.2.1]⟩⟩
    · have c2 : ∃ k, k < 7 ∧ (4 : Int32) = nI k := ⟨4, by decide, by decide⟩
      simp [c2] at hm
      obtain ⟨rfl, rfl⟩ := hm
      exact ⟨h.c, Or.inl ⟨by simp [os_g_sg], _, rfl, by rw [e.2.2.2.2.2.1]⟩⟩
    · have c2 : ∃ k, k < 7 ∧ (5 : Int32) = nI k := ⟨5, by decide, by decide⟩
      simp [c2] at hm
      obtain ⟨rfl, rfl⟩ := hm
      exact ⟨h.c, Or.inl ⟨by simp [os_g_sg], _, rfl, by rw [e.2.2.2.2.2.2.1]⟩⟩
    · have c2 : ∃ k, k < 7 ∧ (6 : Int32) = nI k := ⟨6, by decide, by decide⟩
      simp [c2] at hm
      obtain ⟨rfl, rfl⟩ := hm
      exact ⟨h.c, Or.inl ⟨by simp [os_g_sg], _, rfl, by rw [e.2.2.2.2.2.2.2.1]⟩⟩
theorem ok_known (h : Rel z t nP σ τ) (hq : q_known σ ad x y r σ1 ad1) (hm : m_known τ ad2 x y r2 τ1 ad3) : Rel z t nP σ1 τ1 ∧ agI [("java/util/NoSuchElementException", 1), ("java/lang/IllegalArgumentException", 2)] (os_g τ1 13 0 0) r r2 := by
  obtain ⟨-, rfl, hq⟩ := hq
  obtain ⟨-, hm⟩ := hm
  simp only [h.bF, bzN9] at hm
  rcases hq with ⟨c, rfl⟩ | ⟨i, hi, hq⟩
  · rw [noFt_iff] at c
    simp only [c, not_false_eq_true, not_true_eq_false, true_and, false_and, or_false, false_or, and_true, and_false, or_true, true_or, and_self, or_self] at hm
    obtain ⟨rfl, rfl⟩ := hm
    exact ⟨h.c, Or.inr ⟨_, _, by simp [os_g_sg], rfl, rfl⟩⟩
  · obtain ⟨hi, hx⟩ := hi
    subst hx
    have c : ∃ j, j < os_n σ 10 ∧ nI (i + 1) = nI (j + 1) := ⟨i, hi, rfl⟩
    have e := h.F hi
    have ix : iN (nI (i + 1)) = i + 1 := iN9 (by have := h.n10; omega)
    simp only [c, ix, not_false_eq_true, not_true_eq_false, true_and, false_and, or_false, false_or, and_true, and_false, or_true, true_or, and_self, or_self] at hm
    rcases hq with ⟨c1, rfl⟩ | ⟨rfl, rfl⟩ | ⟨rfl, rfl⟩ | ⟨rfl, rfl⟩ | ⟨rfl, rfl⟩ | ⟨rfl, rfl⟩ | ⟨rfl, rfl⟩ | ⟨rfl, rfl⟩ | ⟨rfl, rfl⟩ | ⟨rfl, rfl⟩
    · have c2 : ¬ ∃ k, k < 9 ∧ y = nI k := fun ⟨k, hk, e⟩ => c1 k hk e
      simp only [c2, not_false_eq_true, not_true_eq_false, true_and, false_and, or_false, false_or, and_true, and_false, or_true, true_or, and_self, or_self] at hm
      obtain ⟨rfl, rfl⟩ := hm
      exact ⟨h.c, Or.inr ⟨_, _, by simp [os_g_sg], rfl, rfl⟩⟩
    · have c2 : ∃ k, k < 9 ∧ (0 : Int32) = nI k := ⟨0, by decide, by decide⟩
      simp [c2] at hm
      obtain ⟨rfl, rfl⟩ := hm
      exact ⟨h.c, Or.inl ⟨by simp [os_g_sg], _, rfl, by rw [(h.R e.2.2.2.2.2.2.2.2.2.2.2.1).1, e.2.1]⟩⟩
    · have c2 : ∃ k, k < 9 ∧ (1 : Int32) = nI k := ⟨1, by decide, by decide⟩
      simp [c2] at hm
      obtain ⟨rfl, rfl⟩ := hm
      exact ⟨h.c, Or.inl ⟨by simp [os_g_sg], _, rfl, by rw [e.2.2.1]⟩⟩
    · have c2 : ∃ k, k < 9 ∧ (2 : Int32) = nI k := ⟨2, by decide, by decide⟩
      simp [c2] at hm
      obtain ⟨rfl, rfl⟩ := hm
      exact ⟨h.c, Or.inl ⟨by simp [os_g_sg], _, rfl, by rw [e.2.2.2.1]⟩⟩
    · have c2 : ∃ k, k < 9 ∧ (3 : Int32) = nI k := ⟨3, by decide, by decide⟩
      simp [c2] at hm
      obtain ⟨rfl, rfl⟩ := hm
      exact ⟨h.c, Or.inl ⟨by simp [os_g_sg], _, rfl, by rw [e.2.2.2.2.1]⟩⟩
    · have c2 : ∃ k, k < 9 ∧ (4 : Int32) = nI k := ⟨4, by decide, by decide⟩
      simp [c2] at hm
      obtain ⟨rfl, rfl⟩ := hm
      exact ⟨h.c, Or.inl ⟨by simp [os_g_sg], _, rfl, by rw [e.2.2.2.2.2.1]⟩⟩
    · have c2 : ∃ k, k < 9 ∧ (5 : Int32) = nI k := ⟨5, by decide, by decide⟩
      simp [c2] at hm
      obtain ⟨rfl, rfl⟩ := hm
      exact ⟨h.c, Or.inl ⟨by simp [os_g_sg], _, rfl, by rw [e.2.2.2.2.2.2.1]⟩⟩
    · have c2 : ∃ k, k < 9 ∧ (6 : Int32) = nI k := ⟨6, by decide, by decide⟩
      simp [c2] at hm
      rcases e.2.2.2.2.2.2.2.2.2.2.2.2.2.2.1 with e5 | e5
      · rw [← e.2.2.2.2.2.2.2.2.1, e5] at hm
        simp at hm
        obtain ⟨rfl, rfl⟩ := hm
        exact ⟨h.c, Or.inl ⟨by simp [os_g_sg], _, rfl, by rw [e5]⟩⟩
      · rw [← e.2.2.2.2.2.2.2.2.1, e5] at hm
        simp at hm
        obtain ⟨rfl, rfl⟩ := hm
        exact ⟨h.c, Or.inl ⟨by simp [os_g_sg], _, rfl, by rw [e5]⟩⟩
    · have c2 : ∃ k, k < 9 ∧ (7 : Int32) = nI k := ⟨7, by decide, by decide⟩
      simp [c2] at hm
      obtain ⟨rfl, rfl⟩ := hm
      exact ⟨h.c, Or.inl ⟨by simp [os_g_sg], _, rfl, by rw [e.2.2.2.2.2.2.2.2.2.1]⟩⟩
    · have c2 : ∃ k, k < 9 ∧ (8 : Int32) = nI k := ⟨8, by decide, by decide⟩
      simp [c2] at hm
      obtain ⟨rfl, rfl⟩ := hm
      exact ⟨h.c, Or.inl ⟨by simp [os_g_sg], _, rfl, by rw [e.2.2.2.2.2.2.2.2.2.2.1]⟩⟩
theorem ok_told (h : Rel z t nP σ τ) (hq : q_told σ ad x y r σ1 ad1) (hm : m_told τ ad2 x y r2 τ1 ad3) : Rel z t nP σ1 τ1 ∧ agI [("java/util/NoSuchElementException", 1), ("java/lang/IllegalArgumentException", 2)] (os_g τ1 13 0 0) r r2 := by
  obtain ⟨-, rfl, hq⟩ := hq
  obtain ⟨-, hm⟩ := hm
  simp only [h.bR, bzN5] at hm
  rcases hq with ⟨c, rfl⟩ | ⟨i, hi, hq⟩
  · rw [noR_iff] at c
    simp only [c, not_false_eq_true, not_true_eq_false, true_and, false_and, or_false, false_or, and_true, and_false, or_true, true_or, and_self, or_self] at hm
    obtain ⟨rfl, rfl⟩ := hm
    exact ⟨h.c, Or.inr ⟨_, _, by simp [os_g_sg], rfl, rfl⟩⟩
  · obtain ⟨hi, hx⟩ := hi
    rw [Nat.add_zero] at hx
    subst hx
    have c : ∃ j, j < os_n σ 9 ∧ nI (i) = nI (j) := ⟨i, hi, rfl⟩
    have e := h.R hi
    have ix : iN (nI (i)) = i := iN9 (by have := h.n9; omega)
    simp only [c, ix, not_false_eq_true, not_true_eq_false, true_and, false_and, or_false, false_or, and_true, and_false, or_true, true_or, and_self, or_self] at hm
    rcases hq with ⟨c1, rfl⟩ | ⟨rfl, rfl⟩ | ⟨rfl, rfl⟩ | ⟨rfl, rfl⟩ | ⟨rfl, rfl⟩ | ⟨rfl, rfl⟩
    · have c2 : ¬ ∃ k, k < 5 ∧ y = nI k := fun ⟨k, hk, e⟩ => c1 k hk e
      simp only [c2, not_false_eq_true, not_true_eq_false, true_and, false_and, or_false, false_or, and_true, and_false, or_true, true_or, and_self, or_self] at hm
      obtain ⟨rfl, rfl⟩ := hm
      exact ⟨h.c, Or.inr ⟨_, _, by simp [os_g_sg], rfl, rfl⟩⟩
    · have c2 : ∃ k, k < 5 ∧ (0 : Int32) = nI k := ⟨0, by decide, by decide⟩
      simp [c2] at hm
      obtain ⟨rfl, rfl⟩ := hm
      exact ⟨h.c, Or.inl ⟨by simp [os_g_sg], _, rfl, by rw [e.2.2.1]⟩⟩
    · have c2 : ∃ k, k < 5 ∧ (1 : Int32) = nI k := ⟨1, by decide, by decide⟩
      simp [c2] at hm
      obtain ⟨rfl, rfl⟩ := hm
      exact ⟨h.c, Or.inl ⟨by simp [os_g_sg], _, rfl, by rw [e.2.1]⟩⟩
    · have c2 : ∃ k, k < 5 ∧ (2 : Int32) = nI k := ⟨2, by decide, by decide⟩
      simp [c2] at hm
      obtain ⟨rfl, rfl⟩ := hm
      exact ⟨h.c, Or.inl ⟨by simp [os_g_sg], _, rfl, by rw [e.2.2.2.1]⟩⟩
    · have c2 : ∃ k, k < 5 ∧ (3 : Int32) = nI k := ⟨3, by decide, by decide⟩
      simp [c2] at hm
      rw [mok_c, ← okM h hi] at hm
      obtain ⟨rfl, rfl⟩ := hm
      exact ⟨h.c, Or.inl ⟨by simp [os_g_sg], _, rfl, rfl⟩⟩
    · have c2 : ∃ k, k < 5 ∧ (4 : Int32) = nI k := ⟨4, by decide, by decide⟩
      simp [c2] at hm
      rcases e.2.2.2.2.2.2.2.1 with e5 | e5
      · rw [← e.2.2.2.2.1, e5] at hm
        simp at hm
        obtain ⟨rfl, rfl⟩ := hm
        exact ⟨h.c, Or.inl ⟨by simp [os_g_sg], _, rfl, by rw [e5]⟩⟩
      · rw [← e.2.2.2.2.1, e5] at hm
        simp at hm
        obtain ⟨rfl, rfl⟩ := hm
        exact ⟨h.c, Or.inl ⟨by simp [os_g_sg], _, rfl, by rw [e5]⟩⟩
end
