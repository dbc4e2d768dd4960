section
variable {z t nP : Nat} {σ τ σ1 τ1 : os_S} {ad ad1 ad2 ad3 : Nat → Nat → Nat} {x y : Int32} {r r2 : os_O}
theorem ok_load (h : Rel z t nP σ τ) (hq : q_load σ ad x y r σ1 ad1) (hm : m_load τ ad2 x y r2 τ1 ad3) : Rel z t nP σ1 τ1 ∧ agV [("java/util/NoSuchElementException", 1), ("java/lang/IllegalArgumentException", 2), ("java/lang/IllegalStateException", 3)] (os_g τ1 13 0 0) r r2 := by
  obtain ⟨-, hq⟩ := hq
  obtain ⟨-, hm⟩ := hm
  simp only [h.bR, bz_unit] at hm
  rcases hq with ⟨c, rfl, rfl⟩ | ⟨i, hi, hq⟩
  · rw [noR_iff] at c
    simp only [c, not_false_eq_true, not_true_eq_false, true_and, false_and, or_false, false_or, and_true, and_false, or_true, true_or, and_self, or_self] at hm
    obtain ⟨rfl, rfl⟩ := hm
    exact ⟨h.c, Or.inr ⟨_, by simp [os_g_sg], rfl, rfl⟩⟩
  · obtain ⟨hi, hx⟩ := hi
    rw [Nat.add_zero] at hx
    subst hx
    have c : ∃ j, j < os_n σ 9 ∧ nI i = nI j := ⟨i, hi, rfl⟩
    have e := h.R hi
    have ix : iN (nI i) = i := iN9 (by have := h.n9; omega)
    simp only [c, ix, ← e.2.2.1, not_false_eq_true, not_true_eq_false, true_and, false_and, or_false, false_or, and_true, and_false, or_true, true_or, and_self, or_self] at hm
    rcases hq with ⟨c1, rfl, rfl⟩ | ⟨c1, c2, rfl, rfl⟩ | ⟨c1, c2, rfl, rfl⟩
    · skip
      simp only [c1, not_false_eq_true, not_true_eq_false, true_and, false_and, or_false, false_or, and_true, and_false, or_true, true_or, and_self, or_self] at hm
      obtain ⟨rfl, rfl⟩ := hm
      exact ⟨h.c, Or.inr ⟨_, by simp [os_g_sg], rfl, rfl⟩⟩
    · skip
      simp only [c1, c2, not_false_eq_true, not_true_eq_false, true_and, false_and, or_false, false_or, and_true, and_false, or_true, true_or, and_self, or_self] at hm
      obtain ⟨rfl, rfl⟩ := hm
      exact ⟨h.c.c, Or.inr ⟨_, by simp [os_g_sg], rfl, rfl⟩⟩
    · skip
      simp only [c1, c2, not_false_eq_true, not_true_eq_false, true_and, false_and, or_false, false_or, and_true, and_false, or_true, true_or, and_self, or_self] at hm
      obtain ⟨rfl, rfl⟩ := hm
      exact ⟨h.c.c.unit hi, Or.inl ⟨by simp [os_g_sg], rfl, rfl⟩⟩
theorem ok_tow (h : Rel z t nP σ τ) (hq : q_tow σ ad x y r σ1 ad1) (hm : m_tow τ ad2 x y r2 τ1 ad3) : Rel z t nP σ1 τ1 ∧ agV [("java/util/NoSuchElementException", 1), ("java/lang/IllegalStateException", 2)] (os_g τ1 13 0 0) r r2 := by
  obtain ⟨-, hq⟩ := hq
  obtain ⟨-, hm⟩ := hm
  simp only [h.bR, h.bP] at hm
  rcases hq with ⟨c, rfl, rfl⟩ | ⟨i, hi, hp, hq⟩
  · rw [noR_iff, h.isP] at c
    rcases c with c | c
    · simp only [c, not_false_eq_true, not_true_eq_false, true_and, false_and, or_false, false_or, and_true, and_false, or_true, true_or, and_self, or_self] at hm
      obtain ⟨rfl, rfl⟩ := hm
      exact ⟨h.c, Or.inr ⟨_, by simp [os_g_sg], rfl, rfl⟩⟩
    · by_cases c2 : ∃ i, i < os_n σ 9 ∧ x = nI i
      · simp only [c, c2, not_false_eq_true, not_true_eq_false, true_and, false_and, or_false, false_or, and_true, and_false, or_true, true_or, and_self, or_self] at hm
        obtain ⟨rfl, rfl⟩ := hm
        exact ⟨h.c, Or.inr ⟨_, by simp [os_g_sg], rfl, rfl⟩⟩
      · simp only [c, c2, not_false_eq_true, not_true_eq_false, true_and, false_and, or_false, false_or, and_true, and_false, or_true, true_or, and_self, or_self] at hm
        obtain ⟨rfl, rfl⟩ := hm
        exact ⟨h.c, Or.inr ⟨_, by simp [os_g_sg], rfl, rfl⟩⟩
  · obtain ⟨hi, hx⟩ := hi
    rw [Nat.add_zero] at hx
    subst hx
    rw [h.isP] at hp
    obtain ⟨p, hp, rfl⟩ := hp
    have c : ∃ j, j < os_n σ 9 ∧ nI i = nI j := ⟨i, hi, rfl⟩
    have cp : ∃ j, j < z ∧ nI p = nI j := ⟨p, hp, rfl⟩
    have e := h.R hi
    have hz := h.C.2.2.1
    have ix : iN (nI i) = i := iN9 (by have := h.n9; omega)
    have px : iN (nI p) = p := iN9 (by omega)
    simp only [c, cp, ix, ← e.2.2.1, not_false_eq_true, not_true_eq_false, true_and, false_and, or_false, false_or, and_true, and_false, or_true, true_or, and_self, or_self] at hm
    rcases hq with ⟨c1, rfl, rfl⟩ | ⟨c1, rfl, rfl⟩
    · obtain ⟨c2, c3⟩ := not_or.mp c1
      simp only [c2, c3, not_false_eq_true, not_true_eq_false, true_and, false_and, or_false, false_or, and_true, and_false, or_true, true_or, and_self, or_self] at hm
      obtain ⟨rfl, rfl⟩ := hm
      exact ⟨h.c.c, Or.inr ⟨_, by simp [os_g_sg], rfl, rfl⟩⟩
    · have q1 := (h.c (v := 0)).c (v := 0)
      have q2 := q1.state (v := 3) hi
      have q3 := q2.piece (v := nI p) hi ⟨p, hp, rfl⟩
      by_cases c2 : os_g σ 9 2 i = 1
      · skip
        simp only [c2, not_false_eq_true, not_true_eq_false, true_and, false_and, or_false, false_or, and_true, and_false, or_true, true_or, and_self, or_self] at hm
        obtain ⟨rfl, rfl⟩ := hm
        exact ⟨q3, Or.inl ⟨by simp [os_g_sg], rfl, rfl⟩⟩
      · have c3 := c1.resolve_left c2
        simp only [c2, c3, show ¬ (3 : Int32) = 1 from by decide, not_false_eq_true, not_true_eq_false, true_and, false_and, or_false, false_or, and_true, and_false, or_true, true_or, and_self, or_self] at hm
        obtain ⟨rfl, rfl⟩ := hm
        exact ⟨q3, Or.inl ⟨by simp [os_g_sg], rfl, rfl⟩⟩
theorem ok_move (h : Rel z t nP σ τ) (hq : q_move σ ad x y r σ1 ad1) (hm : m_move τ ad2 x y r2 τ1 ad3) : Rel z t nP σ1 τ1 ∧ agV [("java/util/NoSuchElementException", 1), ("java/lang/IllegalStateException", 2)] (os_g τ1 13 0 0) r r2 := by
  obtain ⟨-, hq⟩ := hq
  obtain ⟨-, hm⟩ := hm
  simp only [h.bR, h.bP] at hm
  rcases hq with ⟨c, rfl, rfl⟩ | ⟨i, z2, hi, hp, z9, e9, hq⟩
  · rw [noR_iff, h.isP] at c
    rcases c with c | c
    · simp only [c, not_false_eq_true, not_true_eq_false, true_and, false_and, or_false, false_or, and_true, and_false, or_true, true_or, and_self, or_self] at hm
      obtain ⟨rfl, rfl⟩ := hm
      exact ⟨h.c, Or.inr ⟨_, by simp [os_g_sg], rfl, rfl⟩⟩
    · by_cases c2 : ∃ i, i < os_n σ 9 ∧ x = nI i
      · simp only [c, c2, not_false_eq_true, not_true_eq_false, true_and, false_and, or_false, false_or, and_true, and_false, or_true, true_or, and_self, or_self] at hm
        obtain ⟨rfl, rfl⟩ := hm
        exact ⟨h.c, Or.inr ⟨_, by simp [os_g_sg], rfl, rfl⟩⟩
      · simp only [c, c2, not_false_eq_true, not_true_eq_false, true_and, false_and, or_false, false_or, and_true, and_false, or_true, true_or, and_self, or_self] at hm
        obtain ⟨rfl, rfl⟩ := hm
        exact ⟨h.c, Or.inr ⟨_, by simp [os_g_sg], rfl, rfl⟩⟩
  · obtain ⟨hi, hx⟩ := hi
    rw [Nat.add_zero] at hx
    subst hx
    rw [h.isP] at hp
    obtain ⟨p, hp, rfl⟩ := hp
    have c : ∃ j, j < os_n σ 9 ∧ nI i = nI j := ⟨i, hi, rfl⟩
    have cp : ∃ j, j < z ∧ nI p = nI j := ⟨p, hp, rfl⟩
    have e := h.R hi
    have hz := h.C.2.2.1
    have ix : iN (nI i) = i := iN9 (by have := h.n9; omega)
    have px : iN (nI p) = p := iN9 (by omega)
    have ek := (h.K z2 p z9 (by omega)).1
    simp only [c, cp, ix, px, ← e.2.2.1, ← e.2.1, e9, iN9 (show z2 < 100000000 from by omega), not_false_eq_true, not_true_eq_false, true_and, false_and, or_false, false_or, and_true, and_false, or_true, true_or, and_self, or_self] at hm
    have ek2 : rf_holds (os_g σ 2 z2 0) (nI p) = true ↔ ¬ os_g τ 14 (20 * z2 + p) 0 = 0 := by rw [ek, decide_eq_true_iff]
    rw [ek2] at hq
    rcases hq with ⟨c1, rfl, rfl⟩ | ⟨⟨c1, c2⟩, rfl, rfl⟩
    · by_cases c2 : os_g σ 9 2 i = 0
      · have c3 : os_g τ 14 (20 * z2 + p) 0 = 0 := Decidable.byContradiction fun c3 => c1 ⟨c2, c3⟩
        simp only [c2, c3, not_false_eq_true, not_true_eq_false, true_and, false_and, or_false, false_or, and_true, and_false, or_true, true_or, and_self, or_self] at hm
        obtain ⟨rfl, rfl⟩ := hm
        exact ⟨h.c.c, Or.inr ⟨_, by simp [os_g_sg], rfl, rfl⟩⟩
      · skip
        simp only [c2, not_false_eq_true, not_true_eq_false, true_and, false_and, or_false, false_or, and_true, and_false, or_true, true_or, and_self, or_self] at hm
        obtain ⟨rfl, rfl⟩ := hm
        exact ⟨h.c.c, Or.inr ⟨_, by simp [os_g_sg], rfl, rfl⟩⟩
    · skip
      simp only [c1, c2, not_false_eq_true, not_true_eq_false, true_and, false_and, or_false, false_or, and_true, and_false, or_true, true_or, and_self, or_self] at hm
      obtain ⟨rfl, rfl⟩ := hm
      exact ⟨h.c.c.piece hi ⟨p, hp, rfl⟩, Or.inl ⟨by simp [os_g_sg], rfl, rfl⟩⟩
theorem ok_acknowledge (h : Rel z t nP σ τ) (hq : q_ack σ ad x y r σ1 ad1) (hm : m_acknowledge τ ad2 x y r2 τ1 ad3) : Rel z t nP σ1 τ1 ∧ agI [("java/util/NoSuchElementException", 1), ("java/lang/IllegalArgumentException", 2), ("java/lang/IllegalStateException", 3)] (os_g τ1 13 0 0) r r2 := by
  obtain ⟨-, hq⟩ := hq
  obtain ⟨-, hm⟩ := hm
  simp only [h.bA, bzK] at hm
  rcases hq with ⟨c, rfl, rfl⟩ | ⟨i, hi, hq⟩
  · rw [noL_iff] at c
    simp only [c, not_false_eq_true, not_true_eq_false, true_and, false_and, or_false, false_or, and_true, and_false, or_true, true_or, and_self, or_self] at hm
    obtain ⟨rfl, rfl⟩ := hm
    exact ⟨h.c, Or.inr ⟨_, _, by simp [os_g_sg], rfl, rfl⟩⟩
  · obtain ⟨hi, hx⟩ := hi
    rw [Nat.add_zero] at hx
    subst hx
    have c : ∃ j, j < os_n σ 11 ∧ nI i = nI j := ⟨i, hi, rfl⟩
    have e := h.A hi
    have ix : iN (nI i) = i := iN9 (by have := h.n11; omega)
    simp only [c, ix, ← e.2.2.2.2.2.2.1, ← e.2.2.2.2.1, not_false_eq_true, not_true_eq_false, true_and, false_and, or_false, false_or, and_true, and_false, or_true, true_or, and_self, or_self] at hm
    rw [kind_iff] at hq
    rcases hq with ⟨c1, rfl, rfl⟩ | ⟨c1, c2, rfl, rfl⟩ | ⟨c1, c2, rfl, rfl⟩
    · skip
      simp only [c1, not_false_eq_true, not_true_eq_false, true_and, false_and, or_false, false_or, and_true, and_false, or_true, true_or, and_self, or_self] at hm
      obtain ⟨rfl, rfl⟩ := hm
      exact ⟨h.c, Or.inr ⟨_, _, by simp [os_g_sg], rfl, rfl⟩⟩
    · skip
      simp only [c1, c2, not_false_eq_true, not_true_eq_false, true_and, false_and, or_false, false_or, and_true, and_false, or_true, true_or, and_self, or_self] at hm
      obtain ⟨rfl, rfl⟩ := hm
      exact ⟨h.c.c, Or.inr ⟨_, _, by simp [os_g_sg], rfl, rfl⟩⟩
    · skip
      simp only [c1, c2, not_false_eq_true, not_true_eq_false, true_and, false_and, or_false, false_or, and_true, and_false, or_true, true_or, and_self, or_self] at hm
      obtain ⟨rfl, rfl⟩ := hm
      exact ⟨h.c.c.heard, Or.inl ⟨by simp [os_g_sg], _, rfl, rfl⟩⟩
end
