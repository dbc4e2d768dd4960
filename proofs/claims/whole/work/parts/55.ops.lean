section
variable {z t nP : Nat} {σ τ σ1 τ1 : os_S} {ad ad1 ad2 ad3 : Nat → Nat → Nat} {x y : Int32} {r r2 : os_O}
theorem tb_set {m b q : Nat} : (m ||| 2 ^ b).testBit q = (m.testBit q || decide (b = q)) := by rw [Nat.testBit_or, Nat.testBit_two_pow]
theorem h_set {m b q : Nat} (hm : m < 2 ^ 20) (hb : b < 20) (hq : q < 20) : rf_holds (nI m ||| ((1 : Int32) <<< (nI b &&& 31))) (nI q) = (rf_holds (nI m) (nI q) || decide (b = q)) := by
  have h1 : 2 ^ b < 2 ^ 20 := Nat.pow_lt_pow_right (by decide) hb
  have h2 : m ||| 2 ^ b < 2 ^ 20 := Nat.or_lt_two_pow hm h1
  rw [nI_shl (by omega), nI_or, holds_nI (by omega) (by omega), holds_nI (by omega) (by omega), tb_set]
theorem k2_set {m b : Nat} (hm : m < 2 ^ 20) (hb : b < 20) : ∃ k, k < 2 ^ 20 ∧ nI m ||| ((1 : Int32) <<< (nI b &&& 31)) = nI k := by
  have h1 : 2 ^ b < 2 ^ 20 := Nat.pow_lt_pow_right (by decide) hb
  exact ⟨m ||| 2 ^ b, Nat.or_lt_two_pow hm h1, by rw [nI_shl (by omega), nI_or]⟩
/-- one half of a link -/
theorem Rel.half {z t nP a b : Nat} {σ τ : os_S} (h : Rel z t nP σ τ) (ha : a < z) (hb : b < z) : Rel z t nP (os_sg σ 2 a 0 (os_g σ 2 a 0 ||| (1 : Int32) <<< (nI b &&& 31))) (os_sg τ 14 (20 * a + b) 0 1) := by
  have hz := h.C.2.2.1
  obtain ⟨hA, hM, hR, hF, hL, hC, hK, hK2, hU, hr, h0, hf, h1, hp⟩ := h
  obtain ⟨m, hm, em⟩ := hK2 a (by omega)
  refine ⟨hA, MI.k hM (by decide), hR, hF, hL, hC, fun p q hp hq => ?_, fun p hp => ?_, hU, hr, h0, hf, h1, hp⟩
  · have k := hK p q hp hq
    by_cases e : p = a
    · subst e
      have e1 : os_g (os_sg σ 2 p 0 (os_g σ 2 p 0 ||| (1 : Int32) <<< (nI b &&& 31))) 2 p 0 = nI m ||| (1 : Int32) <<< (nI b &&& 31) := by rw [os_g_sg, if_pos ⟨rfl, rfl, rfl⟩, em]
      rw [e1, h_set hm (by omega) hq]
      rw [em] at k
      by_cases e2 : b = q
      · subst e2
        rw [os_g_sg, if_pos ⟨rfl, rfl, rfl⟩]
        exact ⟨by simp, fun _ => ⟨ha, hb⟩⟩
      · rw [os_g_sg, if_neg (fun w => by omega)]
        simp only [e2, decide_false, Bool.or_false]
        exact k
    · rw [os_g_sg, if_neg (fun w => e w.2.1), os_g_sg, if_neg (fun w => by omega)]
      exact k
  · by_cases e : p = a
    · subst e
      rw [os_g_sg, if_pos ⟨rfl, rfl, rfl⟩, em]
      exact k2_set hm (by omega)
    · rw [os_g_sg, if_neg (fun w => e w.2.1)]
      exact hK2 p hp
theorem ok_link (h : Rel z t nP σ τ) (hq : q_link σ ad x y r σ1 ad1) (hm : m_link τ ad2 x y r2 τ1 ad3) : Rel z t nP σ1 τ1 ∧ agV [("java/util/NoSuchElementException", 1), ("java/lang/IllegalArgumentException", 2)] (os_g τ1 13 0 0) r r2 := by
  obtain ⟨-, hq⟩ := hq
  obtain ⟨-, hm⟩ := hm
  simp only [h.bP] at hm
  rw [h.isP, h.isP] at hq
  rcases hq with ⟨c, rfl, rfl⟩ | ⟨c1, c2, c3, rfl, rfl⟩ | ⟨c1, c2, c3, rfl, a, b, ha, hb, rfl, rfl, rfl⟩
  · by_cases c1 : ∃ i, i < z ∧ x = nI i
    · have c2 : ¬ ∃ i, i < z ∧ y = nI i := fun w => c ⟨c1, w⟩
      simp only [c1, c2, not_false_eq_true, not_true_eq_false, true_and, false_and, or_false, false_or, and_true, and_false, or_true, true_or, and_self, or_self] at hm
      obtain ⟨rfl, rfl⟩ := hm
      exact ⟨h.c, Or.inr ⟨_, by simp [os_g_sg], rfl, rfl⟩⟩
    · skip
      simp only [c1, not_false_eq_true, not_true_eq_false, true_and, false_and, or_false, false_or, and_true, and_false, or_true, true_or, and_self, or_self] at hm
      obtain ⟨rfl, rfl⟩ := hm
      exact ⟨h.c, Or.inr ⟨_, by simp [os_g_sg], rfl, rfl⟩⟩
  · subst c3
    simp only [c1, not_false_eq_true, not_true_eq_false, true_and, false_and, or_false, false_or, and_true, and_false, or_true, true_or, and_self, or_self] at hm
    obtain ⟨rfl, rfl⟩ := hm
    exact ⟨h.c, Or.inr ⟨_, by simp [os_g_sg], rfl, rfl⟩⟩
  · have ia : iN (nI a) = a := iN9 (by omega)
    have ib : iN (nI b) = b := iN9 (by omega)
    have az : a < z := by obtain ⟨i, hi, e⟩ := c1; rw [nI_in2 e (by omega) (by have := h.C.2.2.1; omega)]; exact hi
    have bz' : b < z := by obtain ⟨i, hi, e⟩ := c2; rw [nI_in2 e (by omega) (by have := h.C.2.2.1; omega)]; exact hi
    simp only [c1, c2, c3, ia, ib, not_false_eq_true, not_true_eq_false, true_and, false_and, or_false, false_or, and_true, and_false, or_true, true_or, and_self, or_self] at hm
    obtain ⟨rfl, rfl⟩ := hm
    exact ⟨((h.c (v := 0)).half az bz').half bz' az, Or.inl ⟨by simp [os_g_sg], rfl, rfl⟩⟩
theorem rfS.up {σ σ' : os_S} {Ka K N cf : Nat} (h : rfS σ Ka K N cf) (hn : os_n σ K < N) (h1 : os_n σ' K = os_n σ K + 1) (h2 : os_g σ' 0 cf 0 = os_g σ 0 cf 0 + 1) (h3 : ∀ j, os_r σ' Ka j 0 = if j = os_n σ K then some (os_n σ K) else os_r σ Ka j 0) : rfS σ' Ka K N cf := by
  obtain ⟨a, b, c⟩ := h
  refine ⟨by omega, by rw [h2, b, h1, nI_1], fun j hj => ?_⟩
  rw [h3 j, h1]
  by_cases e : j = os_n σ K
  · rw [if_pos e, if_pos (by omega), e]
  · rw [if_neg e, c j hj]
    by_cases e2 : j < os_n σ K
    · rw [if_pos e2, if_pos (by omega)]
    · rw [if_neg e2, if_neg (by omega)]
theorem Rel.newR {z t nP p : Nat} {σ τ : os_S} (h : Rel z t nP σ τ) (hn : os_n σ 9 < 8) (hp : p < z) : Rel z t nP (roS σ (nI p)) (os_sg (os_sg (os_sg τ 15 (os_n σ 9) 0 (nI p)) 16 (os_n σ 9) 0 (-1)) 13 4 0 (os_g τ 13 4 0 + 1)) := by
  have hz := h.C.2.2.1
  have h10 := h.n10
  obtain ⟨hA, hM, hR, hF, hL, hC, hK, hK2, hU, hr, h0, hf, h1, hpl⟩ := h
  have hM2 := MI.k (K := 16) (j := os_n σ 9) (i := 0) (v := -1) (MI.at (i := os_n σ 9) hM (show p < 20 from by omega)) (by decide)
  obtain ⟨m1, m2, m3, m4, m5, m6, m7, m8, m9, m10⟩ := hM2
  obtain ⟨c1, c2, c3, c4, c5, c6, c7, c8⟩ := hC
  have en : os_n (roS σ (nI p)) 9 = os_n σ 9 + 1 := rfl
  have eg : os_g σ 0 6 0 = nI (os_n σ 9) := hR.2.1
  refine ⟨?_, ⟨m1, m2, ?_, m4, m5, m6, m7, m8, m9, m10⟩, ?_, hF, hL, ⟨c1, c2, c3, c4, c5, c6, ?_, c8⟩, hK, hK2, hU, fun i hi => ?_, fun i h1 h2 => h0 i (by omega) h2, fun i hi => ?_, fun i hi => ?_, ?_, hpl.2⟩
  · have a1 : rfA (os_nw σ 9 0) := hA.nw (by decide)
    unfold roS
    exact (a1.sg.sg.sg.sg.sg.sg.sr (by decide) (by decide) (by decide)).sg
  · unfold mdc
    rw [os_g_sg, if_pos ⟨rfl, rfl, rfl⟩, c7, nI_1, iN9 (by omega)]
    exact ⟨rfl, by omega⟩
  · refine hR.up hn rfl ?_ (fun j => ?_)
    · simp [roS, os_g_sg, os_g_sr, os_g_nw]
    · simp [roS, os_r_sg, os_r_sr, os_r_nw]
  · rw [os_g_sg, if_pos ⟨rfl, rfl, rfl⟩, c7, nI_1, en]
  · by_cases e : i = os_n σ 9
    · subst e
      have q := h0 (os_n σ 9) (Nat.le_refl _) hn
      simp [eR, roS, os_g_sg, os_g_sr, os_g_nw, eg, q]
      exact ⟨⟨p, hp, rfl⟩, 0, by omega, rfl⟩
    · have q := hr i (by omega)
      have e2 : ¬ os_n σ 9 = i := fun w => e w.symm
      simp [eR, roS, os_g_sg, os_g_sr, os_g_nw, e]
      exact q
  · have q := hf i hi
    unfold eF at q ⊢
    obtain ⟨q0, q1, q2, q3, q4, q5, q6, q7, q8, q9, q10, q11, q12⟩ := q
    exact ⟨q0, q1, q2, q3, q4, q5, q6, q7, q8, q9, q10, Nat.lt_succ_of_lt q11, q12⟩
  · have q := h1 i hi
    unfold eA at q ⊢
    obtain ⟨q0, q1, q2, q3, q4, q5, q6, q7, q8, q9, q10⟩ := q
    exact ⟨q0, q1, q2, q3, q4, q5, q6, q7, q8, Nat.lt_succ_of_lt q9, q10⟩
  · intro j hj
    obtain ⟨u, w1, ⟨w2, w3, w4, w5⟩, w6⟩ := hpl.1 j hj
    exact ⟨u, w1, ⟨w2, w3, Nat.lt_succ_of_lt w4, w5⟩, w6⟩
theorem ok_robot (h : Rel z t nP σ τ) (hq : q_robot σ x r σ1 ad1) (hm : m_robot τ ad2 x r2 τ1 ad3) : Rel z t nP σ1 τ1 ∧ agI [("java/util/NoSuchElementException", 1), ("java/lang/UnsupportedOperationException", 2)] (os_g τ1 13 0 0) r r2 := by
  obtain ⟨-, hm⟩ := hm
  have e7 := h.C.2.2.2.2.2.2.1
  have h8 := h.n9
  have eg : os_g σ 0 6 0 = nI (os_n σ 9) := h.2.2.1.2.1
  have d1 : os_g σ 0 6 0 < 8 ↔ os_n σ 9 < 8 := by rw [eg, show (8 : Int32) = nI 8 from by decide, nI_ltI (by omega) (by decide)]
  have d2 : os_g τ 13 4 0 = 8 ↔ ¬ os_n σ 9 < 8 := by rw [e7, show (8 : Int32) = nI 8 from by decide, nI_eq (by omega) (by decide)]; omega
  simp only [h.bP, d2] at hm
  rcases hq with ⟨c, rfl, rfl⟩ | ⟨c, c2, rfl, rfl⟩ | ⟨c, c2, rfl, rfl⟩
  · rw [h.isP] at c
    simp only [c, not_false_eq_true, not_true_eq_false, true_and, false_and, or_false, false_or, and_true, and_false, or_true, true_or, and_self, or_self] at hm
    obtain ⟨rfl, rfl⟩ := hm
    exact ⟨h.c, Or.inr ⟨_, _, by simp [os_g_sg], rfl, rfl⟩⟩
  · rw [h.isP] at c
    rw [d1] at c2
    simp only [c, c2, not_false_eq_true, not_true_eq_false, true_and, false_and, or_false, false_or, and_true, and_false, or_true, true_or, and_self, or_self] at hm
    obtain ⟨rfl, rfl⟩ := hm
    exact ⟨h.c, Or.inr ⟨_, _, by simp [os_g_sg], rfl, rfl⟩⟩
  · rw [h.isP] at c
    rw [d1] at c2
    simp only [c, c2, not_false_eq_true, not_true_eq_false, true_and, false_and, or_false, false_or, and_true, and_false, or_true, true_or, and_self, or_self] at hm
    obtain ⟨rfl, rfl⟩ := hm
    obtain ⟨p, hp, rfl⟩ := c
    have q := (h.c (v := 0)).newR c2 hp
    rw [show os_g (os_sg τ 13 0 0 0) 13 4 0 = os_g τ 13 4 0 from rfl] at q
    rw [show iN (os_g τ 13 4 0) = os_n σ 9 from by rw [e7, iN9 (by omega)]]
    exact ⟨q, Or.inl ⟨by simp [os_g_sg], _, rfl, by rw [eg, e7, nI_1, nI_pred]⟩⟩
theorem MI.pl {τ : os_S} {j i a : Nat} {v : Int32} (h : MI τ) (hi : i < 8) (ha : a < 8) (hj : os_g τ 13 33 0 = nI j) (h10 : j < 10) : MI (os_sg (os_sg (os_sg (os_sg τ 41 j 0 (nI i)) 42 j 0 (nI a)) 43 j 0 v) 13 33 0 (os_g τ 13 33 0 + 1)) := by
  obtain ⟨m1, m2, m3, m4, m5, m6, m7, m8, m9, m10⟩ := h
  refine ⟨m1, m2, m3, m4, m5, ?_, m7, m8, fun i' hi' => ?_, fun i' hi' => ?_⟩
  · unfold mdc
    rw [os_g_sg, if_pos ⟨rfl, rfl, rfl⟩, hj, nI_1, iN9 (by omega)]
    exact ⟨rfl, by omega⟩
  · have q := m9 i' hi'
    by_cases e : i' = j
    · simp [os_g_sg, e, iN9 (show i < 100000000 from by omega)]; omega
    · simp [os_g_sg, e]; exact q
  · have q := m10 i' hi'
    by_cases e : i' = j
    · simp [os_g_sg, e, iN9 (show a < 100000000 from by omega)]; omega
    · simp [os_g_sg, e]; exact q
theorem Rel.newP {z t nP i a s : Nat} {σ τ : os_S} (h : Rel z t nP σ τ) (hn : nP < 10) (hi : i < os_n σ 9) (ha : a < 8) (hs : 1 ≤ s ∧ s ≤ 1000) : Rel z t (nP + 1) (plS σ i nP (nI a) (nI s)) (os_sg (os_sg (os_sg (os_sg τ 41 nP 0 (nI i)) 42 nP 0 (nI a)) 43 nP 0 (os_g τ 13 1 0 + nI s)) 13 33 0 (os_g τ 13 33 0 + 1)) := by
  have h9 := h.n9
  obtain ⟨hA, hM, hR, hF, hL, hC, hK, hK2, hU, hr, h0, hf, h1, hpl⟩ := h
  obtain ⟨c1, c2, c3, c4, c5, c6, c7, c8, c9, c10, c11, c12, c13⟩ := hC
  refine ⟨?_, MI.pl hM (by omega) ha c11 hn, hR, hF, hL, ⟨c1, c2, c3, c4, c5, c6, c7, c8, c9, ?_, ?_, by omega, c13⟩, hK, hK2, hU, hr, h0, hf, h1, fun j hj => ?_, fun j h1 h2 => ?_⟩
  · have a1 : rfA (os_nw σ 12 0) := hA.nw (by decide)
    unfold plS
    exact ((a1.sr (by decide) (by decide) (by decide)).sg.sg.sr (by decide) (by decide) (by decide)).sg
  · show os_g (os_sg _ 0 9 0 _) 0 9 0 = _
    rw [os_g_sg, if_pos ⟨rfl, rfl, rfl⟩, c10, nI_1]
  · rw [os_g_sg, if_pos ⟨rfl, rfl, rfl⟩, c11, nI_1]
  · by_cases e : j = nP
    · subst e
      refine ⟨os_n σ 12, by simp [plS, os_r_sg, os_r_sr], ⟨?_, ?_, ?_, ⟨a, ha, ?_⟩, ?_, ?_, ?_⟩, t + s, by omega, by omega, ?_⟩
      · simp [plS, os_n_sg, os_n_sr, os_n_nw]
      · simp [plS, pR, os_r_sg, os_r_sr]
      · simp [plS, pR, os_r_sg, os_r_sr]; exact hi
      · simp [plS, os_g_sg, os_g_sr]
      · simp [plS, pR, os_g_sg, os_r_sg, os_r_sr]
      · simp [plS, os_g_sg, os_g_sr]
      · simp [plS, os_g_sg, os_g_sr, c4, c5]
      · simp [plS, os_g_sg, os_g_sr, c4, nI_add]
    · obtain ⟨u, w1, ⟨w2, w3, w4, w5, w6, w7, w8⟩, w9⟩ := hpl.1 j (by omega)
      have eu : u ≠ os_n σ 12 := by omega
      refine ⟨u, by simp [plS, os_r_sg, os_r_sr, os_r_nw, e]; exact w1, ⟨Nat.lt_succ_of_lt w2, ?_, ?_, ?_, ?_, ?_, ?_⟩, ?_⟩
      · simp [plS, pR, os_r_sg, os_r_sr, os_r_nw, eu]; exact w3
      · simp [plS, pR, os_r_sg, os_r_sr, os_r_nw, eu]; exact w4
      · simp [plS, os_g_sg, os_g_sr, os_g_nw, eu]; exact w5
      · simp [plS, pR, os_g_sg, os_r_sg, os_r_sr, os_r_nw, eu, e]; exact w6
      · simp [plS, os_g_sg, os_g_sr, os_g_nw, eu, e]; exact w7
      · simp [plS, os_g_sg, os_g_sr, os_g_nw, eu, e]; exact w8
      · simp [plS, os_g_sg, os_g_sr, os_g_nw, eu]; exact w9
  · have e : j ≠ nP := by omega
    simp [plS, os_r_sg, os_r_sr, os_r_nw, e]
    exact hpl.2 j (by omega) h2
theorem ok_plant {s9 : Int32} (h : Rel z t nP σ τ) (hq : q_plant σ nP x y s9 r σ1 ad1) (hm : m_plant τ ad2 x y s9 r2 τ1 ad3) : (∃ nP, Rel z t nP σ1 τ1) ∧ agV [("java/util/NoSuchElementException", 1), ("java/lang/IllegalArgumentException", 2), ("java/lang/UnsupportedOperationException", 3)] (os_g τ1 13 0 0) r r2 := by
  obtain ⟨-, hm⟩ := hm
  have e1 : bz (inF s9 1 1000) = 0 ↔ ¬ (¬ s9 < 1 ∧ s9 ≤ 1000) := bzF.trans (not_congr (decide_eq_true_iff.trans (and_congr Iff.rfl lt_le)))
  have c10 := h.C.2.2.2.2.2.2.2.2.2.1
  have c11 := h.C.2.2.2.2.2.2.2.2.2.2.1
  have c12 := h.C.2.2.2.2.2.2.2.2.2.2.2.1
  have d1 : os_g σ 0 9 0 < 10 ↔ nP < 10 := by rw [c10, show (10 : Int32) = nI 10 from by decide, nI_ltI (by omega) (by decide)]
  have d2 : os_g τ 13 33 0 = 10 ↔ ¬ nP < 10 := by rw [c11, show (10 : Int32) = nI 10 from by decide, nI_eq (by omega) (by decide)]; omega
  simp only [h.bR, bzK, e1, d2, show iN (os_g τ 13 33 0) = nP from by rw [c11, iN9 (by omega)]] at hm
  rcases hq with ⟨c, rfl, rfl⟩ | ⟨i, hi, hq⟩
  · rw [noR_iff] at c
    simp only [c, not_false_eq_true, not_true_eq_false, true_and, false_and, or_false, false_or, and_true, and_false, or_true, true_or, and_self, or_self] at hm
    obtain ⟨rfl, rfl⟩ := hm
    exact ⟨⟨_, h.c⟩, Or.inr ⟨_, by simp [os_g_sg], rfl, rfl⟩⟩
  · obtain ⟨hi, hx⟩ := hi
    rw [Nat.add_zero] at hx
    subst hx
    have c : ∃ j, j < os_n σ 9 ∧ nI i = nI j := ⟨i, hi, rfl⟩
    simp only [c, not_false_eq_true, not_true_eq_false, true_and, false_and, or_false, false_or, and_true, and_false, or_true, true_or, and_self, or_self] at hm
    rw [kind_iff, d1] at hq
    rcases hq with ⟨c1, rfl, rfl⟩ | ⟨c1, c2, c3, c4, rfl, rfl⟩ | ⟨c1, c2, c3, c4, rfl, rfl⟩
    · by_cases c2 : ∃ a, a < 8 ∧ y = nI a
      · have c3 : ¬ (¬ s9 < 1 ∧ s9 ≤ 1000) := fun w => c1 ⟨c2, w⟩
        simp only [c2, c3, not_false_eq_true, not_true_eq_false, true_and, false_and, or_false, false_or, and_true, and_false, or_true, true_or, and_self, or_self] at hm
        obtain ⟨rfl, rfl⟩ := hm
        exact ⟨⟨_, h.c⟩, Or.inr ⟨_, by simp [os_g_sg], rfl, rfl⟩⟩
      · skip
        simp only [c2, not_false_eq_true, not_true_eq_false, true_and, false_and, or_false, false_or, and_true, and_false, or_true, true_or, and_self, or_self] at hm
        obtain ⟨rfl, rfl⟩ := hm
        exact ⟨⟨_, h.c⟩, Or.inr ⟨_, by simp [os_g_sg], rfl, rfl⟩⟩
    · have c5 : ¬ s9 < 1 ∧ s9 ≤ 1000 := ⟨c2, c3⟩
      simp only [c1, c5, c4, not_false_eq_true, not_true_eq_false, true_and, false_and, or_false, false_or, and_true, and_false, or_true, true_or, and_self, or_self] at hm
      obtain ⟨rfl, rfl⟩ := hm
      exact ⟨⟨_, h.c⟩, Or.inr ⟨_, by simp [os_g_sg], rfl, rfl⟩⟩
    · have c5 : ¬ s9 < 1 ∧ s9 ≤ 1000 := ⟨c2, c3⟩
      simp only [c1, c5, c4, not_false_eq_true, not_true_eq_false, true_and, false_and, or_false, false_or, and_true, and_false, or_true, true_or, and_self, or_self] at hm
      obtain ⟨rfl, rfl⟩ := hm
      obtain ⟨a, ha, rfl⟩ := c1
      obtain ⟨s, hs, rfl⟩ : ∃ s, (1 ≤ s ∧ s ≤ 1000) ∧ s9 = nI s := by
        have w1 : ¬ s9.toInt < 1 := fun w => c2 (Int32.lt_iff_toInt_lt.mpr w)
        have w2 : s9.toInt ≤ 1000 := Int32.le_iff_toInt_le.mp c3
        obtain ⟨j, hj, rfl⟩ := nI_of (x := s9) (fun w => w1 (by have := Int32.lt_iff_toInt_lt.mp w; rw [show (0 : Int32).toInt = 0 from by decide] at this; omega))
        rw [nI_toInt hj] at w1 w2
        exact ⟨j, by omega, rfl⟩
      exact ⟨⟨_, (h.c (v := 0)).newP c4 hi ha hs⟩, Or.inl ⟨by simp [os_g_sg], rfl, rfl⟩⟩
end
