/-! CLASS AND REFERENCE ANSWER ALIKE: fault, first, count, zone, found, pass -/
section
variable {z t nP : Nat} {σ τ σ1 τ1 : os_S} {ad ad1 ad2 ad3 : Nat → Nat → Nat} {x y : Int32} {r r2 : os_O}
theorem mba_c {v : Int32} : mba (os_sg τ 13 0 0 v) x y = mba τ x y := rfl
theorem ok_fault (h : Rel z t nP σ τ) (hq : q_fault σ ad x y r σ1 ad1) (hm : m_fault τ ad2 x y r2 τ1 ad3) : Rel z t nP σ1 τ1 ∧ agI [("java/util/NoSuchElementException", 1), ("java/lang/IllegalArgumentException", 2), ("java/lang/IllegalStateException", 3), ("java/lang/UnsupportedOperationException", 4)] (os_g τ1 13 0 0) r r2 := by
  obtain ⟨-, hm⟩ := hm
  simp only [h.bR, bzK, mba_c] at hm
  rcases hq with ⟨c, rfl, rfl⟩ | ⟨i, hi, hq⟩
  · rw [noR_iff] at c
    simp only [c, not_false_eq_true, not_true_eq_false, true_and, false_and, or_false, false_or] at hm
    obtain ⟨rfl, rfl⟩ := hm
    exact ⟨h.c, Or.inr ⟨_, _, by simp [os_g_sg], rfl, rfl⟩⟩
  · obtain ⟨hi, hx⟩ := hi
    rw [Nat.add_zero] at hx
    subst hx
    have c : ∃ j, j < os_n σ 9 ∧ nI i = nI j := ⟨i, hi, rfl⟩
    simp only [c, not_false_eq_true, not_true_eq_false, true_and, false_and, or_false, false_or] at hm
    rw [kind_iff] at hq
    rcases hq with ⟨c1, rfl, rfl⟩ | ⟨a, ha, rfl, hq⟩
    · simp only [c1, not_false_eq_true, not_true_eq_false, true_and, false_and, or_false, false_or] at hm
      obtain ⟨rfl, rfl⟩ := hm
      exact ⟨h.c, Or.inr ⟨_, _, by simp [os_g_sg], rfl, rfl⟩⟩
    · have c1 : ∃ j, j < 8 ∧ nI a = nI j := ⟨a, ha, rfl⟩
      simp only [c1, not_false_eq_true, not_true_eq_false, true_and, false_and, or_false, false_or, mba_eq h.zero hi] at hm
      rcases hq with ⟨c2, rfl, rfl⟩ | ⟨c2, c3, rfl, rfl⟩ | ⟨c2, c3, hq⟩
      · simp only [c2, if_true, show ¬ (3 : Int32) ≤ 0 from by decide, not_false_eq_true, not_true_eq_false, true_and, false_and, or_false, false_or] at hm
        obtain ⟨rfl, rfl⟩ := hm
        exact ⟨h.c.c, Or.inr ⟨_, _, by simp [os_g_sg], rfl, rfl⟩⟩
      · simp only [c2, c3, if_false, show ¬ (4 : Int32) ≤ 0 from by decide, not_false_eq_true, not_true_eq_false, true_and, false_and, or_false, false_or, Bool.false_eq_true] at hm
        obtain ⟨rfl, rfl⟩ := hm
        exact ⟨h.c.c, Or.inr ⟨_, _, by simp [os_g_sg], rfl, rfl⟩⟩
      · simp only [c2, c3, if_true, if_false, show (0 : Int32) ≤ 0 from by decide, not_false_eq_true, not_true_eq_false, true_and, false_and, or_false, false_or, Bool.false_eq_true] at hm
        obtain ⟨rfl, rfl⟩ := hm
        have h2 := (h.c (v := 0)).c (v := 0)
        obtain ⟨k1, k2, k3⟩ := ok_come h2 hi ha ((rmF_iff h.zero).mp c3) hq
        exact ⟨k1, Or.inl ⟨by rw [k2]; simp [os_g_sg], _, k3, rfl⟩⟩
theorem ok_count (h : Rel z t nP σ τ) (hq : q_count σ ad y r σ1 ad1) (hm : os_sg τ 13 0 0 0 = τ1 ∧ ad2 = ad3 ∧ r2 = .inl (some (.int (mCt τ y)))) : Rel z t nP σ1 τ1 ∧ ∃ v, r = .inl (some (.int v)) ∧ r2 = .inl (some (.int v)) := by
  obtain ⟨-, rfl, hq⟩ := hq
  obtain ⟨rfl, -, rfl⟩ := hm
  refine ⟨h.c, ?_⟩
  obtain ⟨e3, e5, e7⟩ := ct_end h
  have hC := h.C
  have g6 : os_g σ 0 6 0 = nI (os_n σ 9) := h.2.2.1.2.1
  have g7 : os_g σ 0 7 0 = nI (os_n σ 10) := h.2.2.2.1.1.2.1
  have g8 : os_g σ 0 8 0 = nI (os_n σ 11) := h.2.2.2.2.1.1.2.1
  unfold mCt
  rcases hq with ⟨c, rfl⟩ | ⟨rfl, rfl⟩ | ⟨rfl, rfl⟩ | ⟨rfl, rfl⟩ | ⟨rfl, rfl⟩ | ⟨rfl, rfl⟩ | ⟨rfl, rfl⟩ | ⟨rfl, rfl⟩ | ⟨rfl, rfl⟩ | ⟨rfl, rfl⟩
  · have n0 : ¬ y = 0 := c 0 (by decide)
    have n1 : ¬ y = 1 := c 1 (by decide)
    have n2 : ¬ y = 2 := c 2 (by decide)
    have n3 : ¬ y = 3 := c 3 (by decide)
    have n4 : ¬ y = 4 := c 4 (by decide)
    have n5 : ¬ y = 5 := c 5 (by decide)
    have n6 : ¬ y = 6 := c 6 (by decide)
    have n7 : ¬ y = 7 := c 7 (by decide)
    have n8 : ¬ y = 8 := c 8 (by decide)
    simp only [n0, n1, n2, n3, n4, n5, n6, n7, n8, if_false, or_self]
    exact ⟨_, rfl, rfl⟩
  · exact ⟨_, rfl, by simp; rw [hC.1, hC.2.1]⟩
  · exact ⟨_, rfl, by simp; rw [g6, hC.2.2.2.2.2.2.1]⟩
  · exact ⟨_, rfl, by simp; rw [g7, hC.2.2.2.2.2.2.2.1]⟩
  · exact ⟨_, rfl, by simp; rw [e3]⟩
  · exact ⟨_, rfl, by simp; rw [g8, hC.2.2.2.2.2.2.2.2.1]⟩
  · exact ⟨_, rfl, by simp; rw [e5]⟩
  · exact ⟨_, rfl, by simp; rw [hC.2.2.2.1, hC.2.2.2.2.1]⟩
  · exact ⟨_, rfl, by simp; rw [e7]⟩
  · exact ⟨_, rfl, by simp; rw [hC.2.2.2.2.2.2.2.2.2.1, hC.2.2.2.2.2.2.2.2.2.2.1]⟩
/-- where a lost robot may be, by the class -/
def lostP (σ : os_S) (z i q : Nat) : Nat → Bool := fun p => rf_holds (pol σ z i q) (nI p)
theorem lost_q (h : Rel z t nP σ τ) {i : Nat} (hi : i < os_n σ 9) : ∃ q, q < 2 ^ 31 ∧ (os_g σ 0 10 0 - os_g σ 9 5 i) / 10 = nI q := by
  obtain ⟨s, s1, s2⟩ := (h.R hi).2.2.2.2.2.2.2.2
  have ht := h.C.2.2.2.2.2.1
  refine ⟨(t - s) / 10, by omega, ?_⟩
  rw [h.C.2.2.2.1, s2, nI_sub s1, show (10 : Int32) = nI 10 from by decide, nI_div (by omega) (by decide)]
theorem may_eq (h : Rel z t nP σ τ) {i q p : Nat} {g : Nat → Nat} (hi : i < os_n σ 9) (hq : q < 2 ^ 31) (eq : (os_g σ 0 10 0 - os_g σ 9 5 i) / 10 = nI q) (hg : farO (lkM τ) (iN (os_g τ 13 2 0)) (iN (os_g τ 15 (iN (nI i)) 0)) g) (hp : p < 20) : lostP σ z i q p = mayB τ (nI i) (g p) := by
  have h9 := h.n9
  have hz := h.C.2.2.1
  have e := h.R hi
  obtain ⟨f, hf, ef⟩ := e.2.2.2.2.2.2.1
  have ix : iN (nI i) = i := iN9 (by omega)
  have et : os_g τ 13 1 0 = os_g σ 0 10 0 := h.C.2.2.2.2.1.trans h.C.2.2.2.1.symm
  rw [ix, h.C.2.1, iN9 (by omega), ← e.2.1, ef, iN9 (by omega)] at hg
  have m := may_iff h (q := q) hg (show f < 20 from by omega) hp
  have g20 := (hg p hp).1
  unfold lostP pol mayB
  rw [ix, et, ← e.2.2.2.2.2.1, eq, ef, Bool.eq_iff_iff, decide_eq_true_iff, nI_leI (by omega) hq]
  exact m.symm
theorem ok_zone (h : Rel z t nP σ τ) {P : Nat → Bool} (hP : ∀ i q, i < os_n σ 9 → x = nI i → (os_g σ 0 10 0 - os_g σ 9 5 i) / 10 = nI q → q < 2 ^ 31 → P = lostP σ z i q) (hq : q_zone σ ad z x y r σ1 ad1) (hm : m_zone τ ad2 x y P r2 τ1 ad3) : Rel z t nP σ1 τ1 ∧ agI [("java/util/NoSuchElementException", 1), ("java/lang/IllegalArgumentException", 2), ("java/lang/IllegalStateException", 3)] (os_g τ1 13 0 0) r r2 := by
  obtain ⟨-, rfl, hq⟩ := hq
  obtain ⟨-, hm⟩ := hm
  simp only [h.bR] at hm
  have y0 : 0 ≤ y ↔ ¬ y < 0 := Int32.not_lt.symm
  simp only [y0] at hm
  rcases hq with ⟨c, rfl⟩ | ⟨i, hi, hq⟩
  · rw [noR_iff] at c
    simp only [c, not_false_eq_true, not_true_eq_false, true_and, false_and, or_false, false_or] at hm
    obtain ⟨rfl, rfl⟩ := hm
    exact ⟨h.c, Or.inr ⟨_, _, by simp [os_g_sg], rfl, rfl⟩⟩
  · obtain ⟨hi, hx⟩ := hi
    rw [Nat.add_zero] at hx
    subst hx
    have c : ∃ j, j < os_n σ 9 ∧ nI i = nI j := ⟨i, hi, rfl⟩
    have e := h.R hi
    have h9 := h.n9
    have ix : iN (nI i) = i := iN9 (by omega)
    simp only [c, ix, ← e.2.2.1, not_false_eq_true, not_true_eq_false, true_and, false_and, or_false, false_or] at hm
    rcases hq with ⟨c1, rfl⟩ | ⟨c1, c2, rfl⟩ | ⟨c1, c2, q, q1, q2, rfl⟩
    · simp only [c1, not_false_eq_true, not_true_eq_false, true_and, false_and, or_false, false_or] at hm
      obtain ⟨rfl, rfl⟩ := hm
      exact ⟨h.c, Or.inr ⟨_, _, by simp [os_g_sg], rfl, rfl⟩⟩
    · simp only [c1, c2, not_false_eq_true, not_true_eq_false, true_and, false_and, or_false, false_or] at hm
      obtain ⟨rfl, rfl⟩ := hm
      exact ⟨h.c.c, Or.inr ⟨_, _, by simp [os_g_sg], rfl, rfl⟩⟩
    · simp only [c1, c2, not_false_eq_true, not_true_eq_false, true_and, false_and, or_false, false_or] at hm
      obtain ⟨fe, rfl⟩ := hm
      have eP := hP i q hi rfl q2 q1
      subst eP
      have hz := h.C.2.2.1
      refine ⟨(h.c.c).fEq fe, Or.inl ⟨by rw [fe.2.2.2 13 0 0 (by decide)]; simp [os_g_sg], _, rfl, ?_⟩⟩
      obtain ⟨f, hf, ef⟩ := e.2.2.2.2.2.2.1
      rw [h.C.2.1, iN9 (by omega)]
      have k := zn_mzn (x := pol σ z i q) (P := lostP σ z i q) (l := y) z 0 (20 - z) y (fun p _ _ => Iff.rfl) (fun p h1 h2 w => ?_)
      · rw [show z + (20 - z) = 20 from by omega] at k
        rw [k]
      · unfold pol at w
        rw [ef, hold_S h (by omega) (by omega)] at w
        have lt : ∀ n p, rS (lkM τ) z f n p → p < z := by
          intro n
          induction n with
          | zero => intro p hp; rw [rS] at hp; omega
          | succ n ih => intro p hp; rcases hp with hp | hp; exact ih p hp; exact hp.1
        have := lt _ _ w
        omega
theorem ok_found (h : Rel z t nP σ τ) (hq : q_found σ ad z x y r σ1 ad1) (hm : m_found τ ad2 x y r2 τ1 ad3) : Rel z t nP σ1 τ1 ∧ agI [("java/util/NoSuchElementException", 1), ("java/lang/IllegalStateException", 2)] (os_g τ1 13 0 0) r r2 := by
  obtain ⟨-, hq⟩ := hq
  obtain ⟨-, hm⟩ := hm
  simp only [h.bR, h.bP] at hm
  rcases hq with ⟨c, rfl, rfl⟩ | ⟨i, hi, hp, hq⟩
  · rw [noR_iff, h.isP] at c
    rcases c with c | c
    · simp only [c, not_false_eq_true, not_true_eq_false, true_and, false_and, or_false, false_or] at hm
      obtain ⟨rfl, rfl⟩ := hm
      exact ⟨h.c, Or.inr ⟨_, _, by simp [os_g_sg], rfl, rfl⟩⟩
    · by_cases c2 : ∃ i, i < os_n σ 9 ∧ x = nI i
      · simp only [c, c2, not_false_eq_true, not_true_eq_false, true_and, false_and, or_false, false_or] at hm
        obtain ⟨rfl, rfl⟩ := hm
        exact ⟨h.c, Or.inr ⟨_, _, by simp [os_g_sg], rfl, rfl⟩⟩
      · simp only [c, c2, not_false_eq_true, not_true_eq_false, true_and, false_and, or_false, false_or] at hm
        obtain ⟨rfl, rfl⟩ := hm
        exact ⟨h.c, Or.inr ⟨_, _, by simp [os_g_sg], rfl, rfl⟩⟩
  · obtain ⟨hi, hx⟩ := hi
    rw [Nat.add_zero] at hx
    subst hx
    rw [h.isP] at hp
    obtain ⟨p, hp, rfl⟩ := hp
    have c : ∃ j, j < os_n σ 9 ∧ nI i = nI j := ⟨i, hi, rfl⟩
    have cp : ∃ j, j < z ∧ nI p = nI j := ⟨p, hp, rfl⟩
    have e := h.R hi
    have hz := h.C.2.2.1
    have h9 := h.n9
    have ix : iN (nI i) = i := iN9 (by omega)
    have px : iN (nI p) = p := iN9 (by omega)
    have e17 : os_g τ 17 (iN (nI i)) 0 = os_g σ 9 2 i := by rw [ix]; exact e.2.2.1.symm
    simp only [c, cp, e17, not_false_eq_true, not_true_eq_false, true_and, false_and, or_false, false_or] at hm
    rcases hq with ⟨c1, rfl, rfl⟩ | ⟨c1, q, q1, q2, hq⟩
    · simp only [c1, not_false_eq_true, not_true_eq_false, true_and, false_and, or_false, false_or] at hm
      obtain ⟨rfl, rfl⟩ := hm
      exact ⟨h.c.c, Or.inr ⟨_, _, by simp [os_g_sg], rfl, rfl⟩⟩
    · simp only [c1, not_false_eq_true, not_true_eq_false, true_and, false_and, or_false, false_or] at hm
      obtain ⟨g, u, fe, far, hm⟩ := hm
      have me := may_eq h hi q1 q2 far (p := p) (by omega)
      rw [px] at hm
      have hu : Rel z t nP σ u := (h.c.c).fEq fe
      obtain ⟨f, hf, ef⟩ := e.2.2.2.2.2.2.1
      rcases hq with ⟨c2, rfl, rfl⟩ | ⟨c2, rfl, rfl⟩
      · have c3 : bz (mayB τ (nI i) (g p)) = 0 := by rw [← me]; unfold lostP; exact bzF.mpr c2
        simp only [c3, not_true_eq_false, true_and, false_and, or_false] at hm
        obtain ⟨rfl, rfl⟩ := hm
        exact ⟨hu.c, Or.inr ⟨_, _, by simp [os_g_sg], rfl, rfl⟩⟩
      · have c3 : ¬ bz (mayB τ (nI i) (g p)) = 0 := by rw [← me]; unfold lostP; exact fun w => bzF.mp w c2
        simp only [c3, not_false_eq_true, true_and, false_and, false_or] at hm
        obtain ⟨rfl, rfl⟩ := hm
        have far2 := far
        rw [ix, h.C.2.1, iN9 (by omega), ← e.2.1, ef, iN9 (by omega)] at far2
        have lt : g p < 20 := by
          have := (may_iff h (q := q) far2 (show f < 20 from by omega) (show p < 20 from by omega)).mpr (by unfold pol at c2; rw [ef] at c2; exact c2)
          exact this.1
        have fw := few_eq h far2 (show f < 20 from by omega) (show p < 20 from by omega) lt
        rw [ix]
        have k1 := (hu.c (v := 0)).piece (i := i) (v := nI p) hi ⟨p, hp, rfl⟩
        have k2 := k1.state (i := i) (v := 1) hi
        refine ⟨?_, Or.inl ⟨by simp [os_g_sg], _, rfl, by rw [ef, fw]⟩⟩
        have sw : os_sg (os_sg σ 9 2 i 1) 9 1 i (nI p) = os_sg (os_sg σ 9 1 i (nI p)) 9 2 i 1 := by
          refine Prod.ext rfl (Prod.ext rfl (Prod.ext (funext fun K' => funext fun j' => funext fun i' => ?_) rfl))
          show (if K' = 9 ∧ j' = 1 ∧ i' = i then nI p else if K' = 9 ∧ j' = 2 ∧ i' = i then 1 else _) = if K' = 9 ∧ j' = 2 ∧ i' = i then 1 else if K' = 9 ∧ j' = 1 ∧ i' = i then nI p else _
          by_cases c1 : K' = 9 ∧ j' = 1 ∧ i' = i
          · rw [if_pos c1, if_neg (by omega), if_pos c1]
          · rw [if_neg c1, if_neg c1]
        rw [sw]
        exact k2
theorem ok_pass (h : Rel z t nP σ τ) (hq : q_pass σ x r σ1 ad1) (hm : m_pass τ ad2 x r2 τ1 ad3) : (∃ t nP, Rel z t nP σ1 τ1) ∧ agI [("java/lang/IllegalArgumentException", 1)] (os_g τ1 13 0 0) r r2 := by
  obtain ⟨-, hm⟩ := hm
  have ht := h.C.2.2.2.2.2.1
  have c4 := h.C.2.2.2.1
  have c5 := h.C.2.2.2.2.1
  have e1 : bz (inF x 0 1000) = 0 ↔ ¬ (¬ x < 0 ∧ x ≤ 1000) := bzF.trans (not_congr (decide_eq_true_iff.trans (and_congr Iff.rfl lt_le)))
  simp only [e1, c5] at hm
  have ar : ∀ n, n ≤ 1000 → ((100000 : Int32) - nI t < nI n ↔ ¬ t + n ≤ 100000) := fun n hn => by
    rw [show (100000 : Int32) = nI 100000 from by decide, nI_sub ht, nI_ltI (by omega) (by omega)]
    omega
  have br : ∀ n, n ≤ 1000 → (nI t + nI n ≤ 100000 ↔ t + n ≤ 100000) := fun n hn => by
    rw [nI_add, show (100000 : Int32) = nI 100000 from by decide, nI_leI (by omega) (by decide)]
  rcases hq with ⟨c, rfl, rfl⟩ | ⟨n, hn, rfl, c, rfl, rfl⟩
  · have k : (¬ (¬ x < 0 ∧ x ≤ 1000) ∨ 100000 - nI t < x) := by
      by_cases d : ¬ x < 0 ∧ x ≤ 1000
      · right
        obtain ⟨n, hn, rfl⟩ := nI_of2 (M := 1000) (n := 1000) (by decide) d.1 d.2
        rw [ar n hn, ← br n hn, ← c4]
        exact fun w => c ⟨d.1, d.2, w⟩
      · exact Or.inl d
    rcases hm with ⟨-, rfl, rfl⟩ | ⟨d1, d2, -⟩
    · exact ⟨⟨_, _, h.c⟩, Or.inr ⟨_, _, by simp [os_g_sg], rfl, rfl⟩⟩
    · rcases k with k | k
      · exact absurd k d1
      · exact absurd k d2
  · have d : ¬ nI n < 0 ∧ nI n ≤ 1000 := ⟨nI_pos (by omega), by rw [show (1000 : Int32) = nI 1000 from by decide]; exact nI_le hn (by decide)⟩
    rw [c4, br n hn] at c
    rcases hm with ⟨k, -⟩ | ⟨d1, d2, rfl, rfl⟩
    · rcases k with k | k
      · exact absurd d k
      · exact absurd c ((ar n hn).mp k)
    · obtain ⟨n2, k1, k2⟩ := pass_sim (h.c (v := 0)) c
      rw [iN9 (by omega), c4, nI_add]
      refine ⟨⟨_, _, k1⟩, Or.inl ⟨?_, _, rfl, by rw [k2]⟩⟩
      have code : ∀ k, os_g (mps (os_sg τ 13 0 0 0) k) 13 0 0 = 0 := by
        intro k
        induction k with
        | zero => rfl
        | succ k ih =>
          rw [mps]
          unfold mse
          rw [mra_13]
          unfold mst mpE
          rw [os_g_sg, if_neg (by decide), mpC_13 (by decide), os_g_sg, if_neg (by decide)]
          exact ih
      exact code n
end
