section
variable {z t nP : Nat} {σ τ σ1 τ1 : os_S} {ad ad1 ad2 ad3 : Nat → Nat → Nat} {x y : Int32} {r r2 : os_O}
theorem ok_resume (h : Rel z t nP σ τ) (hq : q_resume σ ad x r σ1 ad1) (hm : m_resume τ ad2 x r2 τ1 ad3) : Rel z t nP σ1 τ1 ∧ agI [("java/util/NoSuchElementException", 1), ("java/lang/IllegalStateException", 2)] (os_g τ1 13 0 0) r r2 := by
  obtain ⟨-, hq⟩ := hq
  obtain ⟨-, hm⟩ := hm
  simp only [h.bR, mok_c] at hm
  rcases hq with ⟨c, rfl, rfl⟩ | ⟨i, hi, hq⟩
  · rw [noR_iff] at c
    simp only [c, not_false_eq_true, not_true_eq_false, true_and, false_and, or_false, false_or, and_true, and_false, or_true, true_or, and_self, or_self] at hm
    obtain ⟨rfl, rfl⟩ := hm
    exact ⟨h.c, Or.inr ⟨_, _, by simp [os_g_sg], rfl, rfl⟩⟩
  · obtain ⟨hi, hx⟩ := hi
    rw [Nat.add_zero] at hx
    subst hx
    have c : ∃ j, j < os_n σ 9 ∧ nI i = nI j := ⟨i, hi, rfl⟩
    have e := h.R hi
    have ix : iN (nI i) = i := iN9 (by have := h.n9; omega)
    simp only [c, ix, ← okM h hi, ← e.2.2.1, ← e.2.2.2.2.1, not_false_eq_true, not_true_eq_false, true_and, false_and, or_false, false_or, and_true, and_false, or_true, true_or, and_self, or_self] at hm
    rcases hq with ⟨c1, rfl, rfl⟩ | ⟨c1, ⟨c2, rfl, rfl⟩ | ⟨c2, c3, rfl, rfl⟩ | ⟨c2, c3, c4, rfl, rfl⟩ | ⟨c2, c3, c4, rfl, rfl⟩⟩
    · skip
      simp only [c1, not_false_eq_true, not_true_eq_false, true_and, false_and, or_false, false_or, and_true, and_false, or_true, true_or, and_self, or_self] at hm
      obtain ⟨rfl, rfl⟩ := hm
      exact ⟨h.c.c, Or.inr ⟨_, _, by simp [os_g_sg], rfl, rfl⟩⟩
    · skip
      simp only [c1, c2, not_false_eq_true, not_true_eq_false, true_and, false_and, or_false, false_or, and_true, and_false, or_true, true_or, and_self, or_self] at hm
      obtain ⟨rfl, rfl⟩ := hm
      exact ⟨h.c.c, Or.inl ⟨by simp [os_g_sg], _, rfl, rfl⟩⟩
    · skip
      simp only [c1, c2, c3, show ¬ (2 : Int32) = 0 from by decide, not_false_eq_true, not_true_eq_false, true_and, false_and, or_false, false_or, and_true, and_false, or_true, true_or, and_self, or_self] at hm
      obtain ⟨rfl, rfl⟩ := hm
      exact ⟨h.c.c, Or.inl ⟨by simp [os_g_sg], _, rfl, rfl⟩⟩
    · skip
      simp only [c1, c2, c3, c4, not_false_eq_true, not_true_eq_false, true_and, false_and, or_false, false_or, and_true, and_false, or_true, true_or, and_self, or_self] at hm
      obtain ⟨rfl, rfl⟩ := hm
      exact ⟨h.c.c, Or.inl ⟨by simp [os_g_sg], _, rfl, rfl⟩⟩
    · skip
      simp only [c1, c2, c3, c4, not_false_eq_true, not_true_eq_false, true_and, false_and, or_false, false_or, and_true, and_false, or_true, true_or, and_self, or_self] at hm
      obtain ⟨rfl, rfl⟩ := hm
      exact ⟨h.c.c.state hi, Or.inl ⟨by simp [os_g_sg], _, rfl, rfl⟩⟩
theorem ok_test {g : Bool} (h : Rel z t nP σ τ) (hq : q_test σ ad x g r σ1 ad1) (hm : m_test τ ad2 x g r2 τ1 ad3) : Rel z t nP σ1 τ1 ∧ agI [("java/util/NoSuchElementException", 1), ("java/lang/IllegalStateException", 2)] (os_g τ1 13 0 0) r r2 := by
  obtain ⟨-, hq⟩ := hq
  obtain ⟨-, hm⟩ := hm
  simp only [h.bR, mok_c] at hm
  rcases hq with ⟨c, rfl, rfl⟩ | ⟨i, hi, hq⟩
  · rw [noR_iff] at c
    simp only [c, not_false_eq_true, not_true_eq_false, true_and, false_and, or_false, false_or, and_true, and_false, or_true, true_or, and_self, or_self] at hm
    obtain ⟨rfl, rfl⟩ := hm
    exact ⟨h.c, Or.inr ⟨_, _, by simp [os_g_sg], rfl, rfl⟩⟩
  · obtain ⟨hi, hx⟩ := hi
    rw [Nat.add_zero] at hx
    subst hx
    have c : ∃ j, j < os_n σ 9 ∧ nI i = nI j := ⟨i, hi, rfl⟩
    have e := h.R hi
    have ix : iN (nI i) = i := iN9 (by have := h.n9; omega)
    simp only [c, ix, ← okM h hi, ← e.2.2.1, not_false_eq_true, not_true_eq_false, true_and, false_and, or_false, false_or, and_true, and_false, or_true, true_or, and_self, or_self] at hm
    rcases hq with ⟨c1, rfl, rfl⟩ | ⟨c1, c2, c3, rfl, rfl⟩
    · by_cases d1 : os_g σ 9 2 i = 0
      · skip
        simp only [d1, not_false_eq_true, not_true_eq_false, true_and, false_and, or_false, false_or, and_true, and_false, or_true, true_or, and_self, or_self] at hm
        obtain ⟨rfl, rfl⟩ := hm
        exact ⟨h.c.c, Or.inr ⟨_, _, by simp [os_g_sg], rfl, rfl⟩⟩
      · by_cases d2 : os_g σ 9 2 i = 2
        · skip
          simp only [d1, d2, show ¬ (2 : Int32) = 0 from by decide, not_false_eq_true, not_true_eq_false, true_and, false_and, or_false, false_or, and_true, and_false, or_true, true_or, and_self, or_self] at hm
          obtain ⟨rfl, rfl⟩ := hm
          exact ⟨h.c.c, Or.inr ⟨_, _, by simp [os_g_sg], rfl, rfl⟩⟩
        · have d3 := (c1.resolve_left d1).resolve_left d2
          simp only [d1, d2, d3, not_false_eq_true, not_true_eq_false, true_and, false_and, or_false, false_or, and_true, and_false, or_true, true_or, and_self, or_self] at hm
          obtain ⟨rfl, rfl⟩ := hm
          exact ⟨h.c.c, Or.inr ⟨_, _, by simp [os_g_sg], rfl, rfl⟩⟩
    · cases g with
      | true =>
        simp only [c1, c2, c3, show ¬ bz true = 0 from by decide, not_false_eq_true, not_true_eq_false, true_and, false_and, or_false, false_or, and_true, and_false, or_true, true_or, and_self, or_self] at hm
        obtain ⟨rfl, rfl⟩ := hm
        exact ⟨h.c.c.wants hi (Or.inl rfl), Or.inl ⟨by simp [os_g_sg], _, rfl, rfl⟩⟩
      | false =>
        simp only [c1, c2, c3, show bz false = 0 from by decide, not_false_eq_true, not_true_eq_false, true_and, false_and, or_false, false_or, and_true, and_false, or_true, true_or, and_self, or_self] at hm
        obtain ⟨rfl, rfl⟩ := hm
        exact ⟨h.c.c.wants hi (Or.inr rfl), Or.inl ⟨by simp [os_g_sg], _, rfl, rfl⟩⟩
theorem bitM : ∀ {m : Nat}, m < 256 → bitC (nI m) = mbt (nI m) 8 := by decide +kernel
theorem step_m {m q : Nat} (hm : m < 256) (hq : q < 8) : ∃ k, k < 256 ∧ nI m ||| ((1 : Int32) <<< (nI q &&& 31)) = nI k := by
  rw [nI_shl (by omega), nI_or]
  refine ⟨_, ?_, rfl⟩
  have h1 : 2 ^ q < 2 ^ 8 := Nat.pow_lt_pow_right (by decide) hq
  exact Nat.or_lt_two_pow (n := 8) hm h1
theorem lt_le {a b : Int32} : ¬ a < b ↔ b ≤ a := by rw [Int32.lt_iff_toInt_lt, Int32.le_iff_toInt_le]; omega
theorem ok_step (h : Rel z t nP σ τ) (hq : q_step σ ad x y r σ1 ad1) (hm : m_step τ ad2 x y r2 τ1 ad3) : Rel z t nP σ1 τ1 ∧ agI [("java/util/NoSuchElementException", 1), ("java/lang/IllegalArgumentException", 2), ("java/lang/IllegalStateException", 3)] (os_g τ1 13 0 0) r r2 := by
  obtain ⟨-, hq⟩ := hq
  obtain ⟨-, hm⟩ := hm
  simp only [h.bF, bzK] at hm
  rcases hq with ⟨c, rfl, rfl⟩ | ⟨i, hi, hq⟩
  · rw [noFt_iff] at c
    simp only [c, not_false_eq_true, not_true_eq_false, true_and, false_and, or_false, false_or, and_true, and_false, or_true, true_or, and_self, or_self] at hm
    obtain ⟨rfl, rfl⟩ := hm
    exact ⟨h.c, Or.inr ⟨_, _, by simp [os_g_sg], rfl, rfl⟩⟩
  · obtain ⟨hi, hx⟩ := hi
    subst hx
    have c : ∃ j, j < os_n σ 10 ∧ nI (i + 1) = nI (j + 1) := ⟨i, hi, rfl⟩
    have e := h.F hi
    have ix : iN (nI (i + 1)) = i + 1 := iN9 (by have := h.n10; omega)
    have es : os_g (os_sg (os_sg (os_sg τ 13 0 0 0) 13 0 0 0) 28 (i + 1) 0 (os_g σ 10 9 i ||| (1 : Int32) <<< (y &&& 31))) 28 (i + 1) 0 = (os_g σ 10 9 i ||| (1 : Int32) <<< (y &&& 31)) := by simp [os_g_sg]
    simp only [c, ix, ← e.2.2.2.2.1, ← e.2.2.2.2.2.2.1, ← e.2.2.2.2.2.2.2.1, es, not_false_eq_true, not_true_eq_false, true_and, false_and, or_false, false_or, and_true, and_false, or_true, true_or, and_self, or_self] at hm
    rw [kind_iff] at hq
    rcases hq with ⟨c1, rfl, rfl⟩ | ⟨c1, hq⟩
    · skip
      simp only [c1, not_false_eq_true, not_true_eq_false, true_and, false_and, or_false, false_or, and_true, and_false, or_true, true_or, and_self, or_self] at hm
      obtain ⟨rfl, rfl⟩ := hm
      exact ⟨h.c, Or.inr ⟨_, _, by simp [os_g_sg], rfl, rfl⟩⟩
    · rw [fop_iff] at hq
      have hh : rf_holds (os_g σ 10 9 i) y = true ↔ (os_g σ 10 9 i >>> (y &&& 31)) &&& 1 = 1 := decide_eq_true_iff
      rw [hh] at hq
      rcases hq with ⟨c2, rfl, rfl⟩ | ⟨c2, c3, rfl, rfl⟩ | ⟨c2, c3, rfl, rfl⟩
      · skip
        simp only [c1, c2, not_false_eq_true, not_true_eq_false, true_and, false_and, or_false, false_or, and_true, and_false, or_true, true_or, and_self, or_self] at hm
        obtain ⟨rfl, rfl⟩ := hm
        exact ⟨h.c.c, Or.inr ⟨_, _, by simp [os_g_sg], rfl, rfl⟩⟩
      · skip
        simp only [c1, c2, c3, not_false_eq_true, not_true_eq_false, true_and, false_and, or_false, false_or, and_true, and_false, or_true, true_or, and_self, or_self] at hm
        obtain ⟨rfl, rfl⟩ := hm
        exact ⟨h.c.c, Or.inl ⟨by simp [os_g_sg], _, rfl, rfl⟩⟩
      · obtain ⟨q, hq8, rfl⟩ := c1
        have c1 : ∃ j, j < 8 ∧ nI q = nI j := ⟨q, hq8, rfl⟩
        obtain ⟨m, hm8, em⟩ := e.2.2.2.2.2.2.2.2.2.2.2.2.2.2.2
        rw [em] at hm c3
        unfold fStep
        rw [em]
        obtain ⟨k, hk, ek⟩ := step_m hm8 hq8
        rw [ek] at hm ⊢
        rw [← bitM hk] at hm
        have q1 := ((h.c (v := 0)).c (v := 0)).steps (i := i) (v := nI k) ⟨k, hk, rfl⟩
        by_cases c4 : bitC (nI k) < os_g σ 10 4 i
        · have c5 : ¬ os_g σ 10 4 i ≤ bitC (nI k) := fun w => lt_le.mpr w c4
          rw [if_pos c4]
          simp only [c1, c2, c3, c5, not_false_eq_true, not_true_eq_false, true_and, false_and, or_false, false_or, and_true, and_false, or_true, true_or, and_self, or_self] at hm
          obtain ⟨rfl, rfl⟩ := hm
          refine ⟨q1, Or.inl ⟨by simp [os_g_sg], _, rfl, ?_⟩⟩
          rw [if_pos (fop_iff.mpr (by simp [os_g_sg]; exact c2))]
        · have c5 : os_g σ 10 4 i ≤ bitC (nI k) := lt_le.mp c4
          rw [if_neg c4]
          simp only [c1, c2, c3, c5, not_false_eq_true, not_true_eq_false, true_and, false_and, or_false, false_or, and_true, and_false, or_true, true_or, and_self, or_self] at hm
          obtain ⟨rfl, rfl⟩ := hm
          have et : os_g σ 0 10 0 = os_g τ 13 1 0 := h.C.2.2.2.1.trans h.C.2.2.2.2.1.symm
          rw [et]
          refine ⟨q1.reset (i := i) (v := os_g τ 13 1 0), Or.inl ⟨by simp [os_g_sg], _, rfl, ?_⟩⟩
          rw [if_neg (fun w => ?_)]
          have w := fop_iff.mp w
          simp [os_g_sg, h.C.2.2.2.2.1] at w
          have w2 := congrArg Int32.toInt w
          rw [nI_toInt (by have := h.C.2.2.2.2.2.1; omega), show (-1 : Int32).toInt = -1 from by decide] at w2
          omega
theorem ok_rule {k n q : Int32} {b : Bool} (h : Rel z t nP σ τ) (hq : q_rule σ ad k n q b r σ1 ad1) (hm : m_rule τ ad2 k n b q r2 τ1 ad3) : Rel z t nP σ1 τ1 ∧ agV [("java/lang/IllegalArgumentException", 1)] (os_g τ1 13 0 0) r r2 := by
  obtain ⟨-, hq⟩ := hq
  obtain ⟨-, hm⟩ := hm
  have e1 : bz (inF n 1 2) = 0 ↔ ¬ (¬ n < 1 ∧ n ≤ 2) := bzF.trans (not_congr (decide_eq_true_iff.trans (and_congr Iff.rfl lt_le)))
  have e2 : bz (inF q 1 5) = 0 ↔ ¬ (¬ q < 1 ∧ q ≤ 5) := bzF.trans (not_congr (decide_eq_true_iff.trans (and_congr Iff.rfl lt_le)))
  simp only [bzK, e1, e2] at hm
  unfold okRule at hq
  rw [kind_iff] at hq
  rcases hq with ⟨c, rfl, rfl⟩ | ⟨⟨c1, c2, c3, c4, c5⟩, rfl, a, ha, rfl, rfl⟩
  · by_cases c1 : ∃ a, a < 8 ∧ k = nI a
    · by_cases c2 : ¬ n < 1 ∧ n ≤ 2
      · have c3 : ¬ (¬ q < 1 ∧ q ≤ 5) := fun w => c ⟨c1, c2.1, c2.2, w⟩
        simp only [c1, c2, c3, not_false_eq_true, not_true_eq_false, true_and, false_and, or_false, false_or, and_true, and_false, or_true, true_or, and_self, or_self] at hm
        obtain ⟨rfl, rfl⟩ := hm
        exact ⟨h.c, Or.inr ⟨_, by simp [os_g_sg], rfl, rfl⟩⟩
      · skip
        simp only [c1, c2, not_false_eq_true, not_true_eq_false, true_and, false_and, or_false, false_or, and_true, and_false, or_true, true_or, and_self, or_self] at hm
        obtain ⟨rfl, rfl⟩ := hm
        exact ⟨h.c, Or.inr ⟨_, by simp [os_g_sg], rfl, rfl⟩⟩
    · skip
      simp only [c1, not_false_eq_true, not_true_eq_false, true_and, false_and, or_false, false_or, and_true, and_false, or_true, true_or, and_self, or_self] at hm
      obtain ⟨rfl, rfl⟩ := hm
      exact ⟨h.c, Or.inr ⟨_, by simp [os_g_sg], rfl, rfl⟩⟩
  · have ix : iN (nI a) = a := iN9 (by omega)
    have d2 : ¬ n < 1 ∧ n ≤ 2 := ⟨c2, c3⟩
    have d3 : ¬ q < 1 ∧ q ≤ 5 := ⟨c4, c5⟩
    simp only [c1, d2, d3, ix, not_false_eq_true, not_true_eq_false, true_and, false_and, or_false, false_or, and_true, and_false, or_true, true_or, and_self, or_self] at hm
    obtain ⟨rfl, rfl⟩ := hm
    exact ⟨(h.c (v := 0)).rule, Or.inl ⟨by simp [os_g_sg], rfl, rfl⟩⟩
theorem Rel.add {z t nP : Nat} {σ τ : os_S} (h : Rel z t nP σ τ) (hz : z < 20) : Rel (z + 1) t nP (os_sg σ 1 1 0 (os_g σ 1 1 0 + 1)) (os_sg τ 13 2 0 (os_g τ 13 2 0 + 1)) := by
  have hC := h.C
  obtain ⟨hA, hM, hR, hF, hL, hC, hK, hK2, hU, hr, h0, hf, ha, hp⟩ := h
  obtain ⟨m1, m2, m3, m4, m5, m6, m7, m8, m9, m10⟩ := hM
  obtain ⟨c1, c2, c3, c4⟩ := hC
  refine ⟨hA, ⟨m1, ?_, m3, m4, m5, m6, m7, m8, m9, m10⟩, hR, hF, hL, ⟨?_, ?_, by omega, c4⟩, fun p q hp hq => ⟨(hK p q hp hq).1, fun w => ?_⟩, hK2, hU, fun i hi => ?_, h0, hf, ha, hp⟩
  · unfold mdc
    rw [os_g_sg, if_pos ⟨rfl, rfl, rfl⟩, c2, nI_1, iN9 (by omega)]
    exact ⟨rfl, by omega⟩
  · rw [os_g_sg, if_pos ⟨rfl, rfl, rfl⟩, c1, nI_1]
  · rw [os_g_sg, if_pos ⟨rfl, rfl, rfl⟩, c2, nI_1]
  · have := (hK p q hp hq).2 w; omega
  · obtain ⟨q0, q1, q2, q3, q4, q5, ⟨p, q6, q7⟩, q8⟩ := hr i hi
    exact ⟨q0, q1, q2, q3, q4, q5, ⟨p, by omega, q7⟩, q8⟩
theorem ok_piece (h : Rel z t nP σ τ) (hq : q_piece σ ad r σ1 ad1) (hm : m_piece τ ad2 r2 τ1 ad3) : (∃ z, Rel z t nP σ1 τ1) ∧ agI [("java/lang/UnsupportedOperationException", 1)] (os_g τ1 13 0 0) r r2 := by
  obtain ⟨-, hq⟩ := hq
  obtain ⟨-, hm⟩ := hm
  have e1 := h.C.1
  have e2 := h.C.2.1
  have e3 := h.C.2.2.1
  have d1 : 20 ≤ os_g σ 1 1 0 ↔ z = 20 := by rw [e1, show (20 : Int32) = nI 20 from by decide, nI_leI (by decide) (by omega)]; omega
  have d2 : os_g τ 13 2 0 = 20 ↔ z = 20 := by rw [e2, show (20 : Int32) = nI 20 from by decide, nI_eq (by omega) (by decide)]
  simp only [d2] at hm
  rw [d1] at hq
  rcases hq with ⟨c, rfl, rfl⟩ | ⟨c, rfl, rfl⟩
  · simp only [c, not_false_eq_true, not_true_eq_false, true_and, false_and, or_false, false_or, and_true, and_false, or_true, true_or, and_self, or_self] at hm
    obtain ⟨rfl, rfl⟩ := hm
    exact ⟨⟨_, h.c⟩, Or.inr ⟨_, _, by simp [os_g_sg], rfl, rfl⟩⟩
  · simp only [c, not_false_eq_true, not_true_eq_false, true_and, false_and, or_false, false_or, and_true, and_false, or_true, true_or, and_self, or_self] at hm
    obtain ⟨rfl, rfl⟩ := hm
    refine ⟨⟨_, (h.c (v := 0)).add (by omega)⟩, Or.inl ⟨by simp [os_g_sg], _, rfl, ?_⟩⟩
    rw [e1, e2, nI_1, nI_pred]
end
