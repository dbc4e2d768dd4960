/-! PLANTED FAULTS THAT COME -/
/-- the class's row of planted faults, gone through: the store, and how many are kept -/
def lpC (σ : os_S) : Nat → os_S × Nat
  | 0 => (σ, 0)
  | j + 1 => match os_r (lpC σ j).1 7 j 0 with
    | none => (os_sr (lpC σ j).1 7 j 0 none, (lpC σ j).2)
    | some p => if os_g (lpC σ j).1 0 10 0 < os_g (lpC σ j).1 12 2 p then (os_sr (os_sr (lpC σ j).1 7 j 0 none) 7 (lpC σ j).2 0 (some p), (lpC σ j).2 + 1) else (brS (os_sr (lpC σ j).1 7 j 0 none) p (iN (os_g (lpC σ j).1 12 1 p)), (lpC σ j).2)
/-- how many of them come -/
def lpD (σ : os_S) : Nat → Nat
  | 0 => 0
  | j + 1 => match os_r (lpC σ j).1 7 j 0 with
    | none => lpD σ j
    | some p => if os_g (lpC σ j).1 0 10 0 < os_g (lpC σ j).1 12 2 p then lpD σ j else lpD σ j + 1
theorem lpD_st {σ : os_S} {j : Nat} : lpD σ j ≤ lpD σ (j + 1) := by
  rw [lpD]
  split
  · exact Nat.le_refl _
  · split <;> omega
theorem lpD_le {σ : os_S} {j : Nat} : ∀ d, lpD σ j ≤ lpD σ (j + d)
  | 0 => Nat.le_refl _
  | d + 1 => Nat.le_trans (lpD_le d) lpD_st
def lpE (σ : os_S) : os_S := os_sg (lpC σ 10).1 0 9 0 (nI (lpC σ 10).2)
/-- a planted fault of the rows, its second at least s -/
def eQ (σ τ : os_S) (s s9 j : Nat) : Prop := ∃ p, os_r σ 7 j 0 = some p ∧ ePl σ τ p j ∧ ∃ s2, s ≤ s2 ∧ s2 ≤ s9 ∧ os_g σ 12 2 p = nI s2
section
variable {z t nP : Nat} {σ τ : os_S}
theorem Rel0.sr7 {j : Nat} {v : Option Nat} (h : Rel0 z t nP σ τ) : Rel0 z t nP (os_sr σ 7 j 0 v) τ := by
  obtain ⟨hA, hM, hR, hF, hL, hC, hK, hK2, hU, hr, h0, hf, ha⟩ := h
  exact ⟨hA.sr (by decide) (by decide) (by decide), hM, hR, hF, hL, hC, hK, hK2, hU, hr, h0, hf, ha⟩
theorem Rel0.pW {j k : Nat} (h : Rel0 z t nP σ τ) (hj : j < 10) : Rel0 z t nP σ (mpW τ j k) := by
  obtain ⟨hA, hM, hR, hF, hL, hC, hK, hK2, hU, hr, h0, hf, ha⟩ := h
  refine ⟨hA, ?_, hR, hF, hL, hC, hK, hK2, hU, hr, h0, hf, ha⟩
  obtain ⟨m1, m2, m3, m4, m5, m6, m7, m8, m9, m10⟩ := hM
  refine ⟨m1, m2, m3, m4, m5, m6, m7, m8, fun i' hi' => ?_, fun i' hi' => ?_⟩
  · by_cases e : i' = k
    · simp [mpW, os_g_sg, e]; exact m9 j hj
    · simp [mpW, os_g_sg, e]; exact m9 i' hi'
  · by_cases e : i' = k
    · simp [mpW, os_g_sg, e]; exact m10 j hj
    · simp [mpW, os_g_sg, e]; exact m10 i' hi'
theorem Rel0.pc {k : Nat} (h : Rel0 z t nP σ τ) (hk : k ≤ 10) : Rel0 z t k (os_sg σ 0 9 0 (nI k)) (os_sg τ 13 33 0 (nI k)) := by
  obtain ⟨hA, hM, hR, hF, hL, hC, hK, hK2, hU, hr, h0, hf, ha⟩ := h
  obtain ⟨m1, m2, m3, m4, m5, m6, m7, m8, m9, m10⟩ := hM
  obtain ⟨c1, c2, c3, c4, c5, c6, c7, c8, c9, c10, c11, c12, c13⟩ := hC
  refine ⟨hA, ⟨m1, m2, m3, m4, m5, ?_, m7, m8, m9, m10⟩, hR, hF, hL, ⟨c1, c2, c3, c4, c5, c6, c7, c8, c9, ?_, ?_, hk, c13⟩, hK, hK2, hU, hr, h0, hf, ha⟩
  · unfold mdc
    rw [os_g_sg, if_pos ⟨rfl, rfl, rfl⟩, iN9 (by omega)]
    exact ⟨rfl, hk⟩
  · rw [os_g_sg, if_pos ⟨rfl, rfl, rfl⟩]
  · rw [os_g_sg, if_pos ⟨rfl, rfl, rfl⟩]
theorem brS_keep {p a : Nat} : (∀ j u, os_r (brS σ p a) 7 j u = os_r σ 7 j u) ∧ (∀ j u, os_r (brS σ p a) 12 j u = os_r σ 12 j u) ∧ (∀ j u, os_g (brS σ p a) 12 j u = os_g σ 12 j u) ∧ os_n (brS σ p a) 12 = os_n σ 12 ∧ os_n (brS σ p a) 9 = os_n σ 9 ∧ os_g (brS σ p a) 0 10 0 = os_g σ 0 10 0 ∧ cuM (brS σ p a) = cuM σ := by
  unfold brS
  split
  · split
    · exact ⟨fun _ _ => rfl, fun _ _ => rfl, fun _ _ => rfl, rfl, rfl, rfl, rfl⟩
    · exact ⟨fun _ _ => nfS_r (by decide), fun _ _ => nfS_r (by decide), fun _ _ => nfS_g (by decide) (by omega), nfS_n (by decide), nfS_n (by decide), nfS_g (by decide) (by decide), cuM_nfS⟩
  · exact ⟨fun _ _ => rfl, fun _ _ => rfl, fun _ _ => rfl, rfl, rfl, rfl, rfl⟩
theorem mbr_keep {x k : Int32} : (∀ K j, 40 < K → os_g (mbr τ x k) K j 0 = os_g τ K j 0) ∧ (∀ j, j ≠ 13 ∧ j ≠ 24 → os_g (mbr τ x k) 13 j 0 = os_g τ 13 j 0) ∧ cuC (mbr τ x k) = cuC τ := by
  unfold mbr mcS
  split
  · split
    · exact ⟨fun _ _ h => mcm_4 h, fun _ h => mcm_13 h, cuC_mcm⟩
    · exact ⟨fun _ _ _ => rfl, fun _ _ => rfl, rfl⟩
  · exact ⟨fun _ _ _ => rfl, fun _ _ => rfl, rfl⟩
theorem Rel0.br {p a : Nat} (h : Rel0 z t nP σ τ) (hp : pR σ p < os_n σ 9) (ha : a < 8) : Rel0 z t nP (brS σ p a) (mbr τ (nI (pR σ p)) (nI a)) := by
  have h9 := h.n9
  unfold brS mbr
  rw [mba_eq h hp]
  by_cases c1 : nlF σ (pR σ p) (nI a) = true
  · rw [if_neg (fun w => w.1 c1), if_pos c1, if_neg (by decide)]
    exact h
  · by_cases c2 : rmF σ = true
    · rw [if_pos ⟨c1, c2⟩, if_neg c1, if_pos c2, if_pos rfl]
      unfold mcS
      cases c3 : ofA σ (pR σ p) (nI a) 40 with
      | none =>
        rw [if_pos ((mof_none h (by omega)).mpr c3)]
        exact (h.nf hp ha ((rmF_iff h).mp c2)).1
      | some u =>
        rw [if_neg (fun w => by rw [(mof_none h (by omega)).mp w] at c3; cases c3)]
        exact h
    · rw [if_neg (fun w => c2 w.2), if_neg c1, if_neg c2, if_neg (by decide)]
      exact h
theorem ePl.to {σ' τ' : os_S} {p j j' : Nat} (h : ePl σ τ p j) (h1 : ∀ u, os_r σ' 12 0 u = os_r σ 12 0 u) (h2 : ∀ u v, os_g σ' 12 u v = os_g σ 12 u v) (h3 : os_n σ' 12 = os_n σ 12) (h4 : os_n σ' 9 = os_n σ 9) (h5 : ∀ K, 40 < K → K < 44 → os_g τ' K j' 0 = os_g τ K j 0) : ePl σ' τ' p j' := by
  obtain ⟨w2, w3, w4, w5, w6, w7, w8⟩ := h
  have e : pR σ' p = pR σ p := by unfold pR; rw [h1]
  exact ⟨by rw [h3]; exact w2, by rw [h1, e]; exact w3, by rw [e, h4]; exact w4, by rw [h2]; exact w5, by rw [h5 41 (by decide) (by decide), e]; exact w6, by rw [h5 42 (by decide) (by decide), h2]; exact w7, by rw [h5 43 (by decide) (by decide), h2]; exact w8⟩
/-- how both rows stand after j planted faults -/
def lpI (z t nP s9 j : Nat) (σ τ : os_S) (k : Nat) : Prop := Rel0 z t nP σ τ ∧ k ≤ j ∧ (∀ u, u < k → eQ σ τ (t + 1) s9 u) ∧ (∀ u, k ≤ u → u < j → os_r σ 7 u 0 = none) ∧ (∀ u, j ≤ u → u < nP → eQ σ τ t s9 u) ∧ ∀ u, nP ≤ u → u < 10 → os_r σ 7 u 0 = none
theorem lp_sim {s9 : Nat} (h : Rel0 z t nP σ τ) (hq : ∀ u, u < nP → eQ σ τ t s9 u) (hz : ∀ u, nP ≤ u → u < 10 → os_r σ 7 u 0 = none) (h9 : s9 < 1000000) : ∀ j, j ≤ nP → ((lpC σ j).2 = (mpC τ j).2 ∧ (lpC σ j).2 + lpD σ j = j) ∧ lpI z t nP s9 j (lpC σ j).1 (mpC τ j).1 (lpC σ j).2
  | 0, _ => ⟨⟨rfl, rfl⟩, h, Nat.le_refl _, fun u hu => absurd hu (by exact Nat.not_lt_zero _), fun u _ hu => absurd hu (Nat.not_lt_zero _), fun u _ hu => hq u hu, hz⟩
  | j + 1, hj => by
    obtain ⟨⟨e1, e2⟩, i1, i2, i3, i4, i5, i6⟩ := lp_sim h hq hz h9 j (by omega)
    have hnP := i1.C.2.2.2.2.2.2.2.2.2.2.2.1
    have ht := i1.C.2.2.2.2.2.1
    have c4 := i1.C.2.2.2.1
    have c5 := i1.C.2.2.2.2.1
    rw [lpC, mpC, lpD]
    rw [← e1]
    generalize hk : (lpC σ j).2 = k at *
    generalize (lpC σ j).1 = σj at *
    generalize (mpC τ j).1 = τj at *
    obtain ⟨p, w1, w2, s2, w3, w4, w5⟩ := i5 j (Nat.le_refl _) (by omega)
    rw [w1]
    simp only
    have e43 : os_g τj 43 j 0 = nI s2 := w2.2.2.2.2.2.2.trans w5
    rw [e43, c5, c4, w5]
    have d1 : nI t < nI s2 ↔ t < s2 := nI_ltI (by omega) (by omega)
    have d2 : nI s2 = nI t ↔ ¬ t < s2 := by rw [nI_eq (by omega) (by omega)]; omega
    by_cases c : t < s2
    · rw [if_pos (d1.mpr c), if_neg (fun w => d2.mp w c), if_pos (d1.mpr c)]
      refine ⟨⟨rfl, by show k + 1 + lpD σ j = j + 1; omega⟩, (i1.sr7.sr7).pW (by omega), by show k + 1 ≤ j + 1; omega, fun u hu => ?_, fun u h1 h2 => ?_, fun u h1 h2 => ?_, fun u h1 h2 => ?_⟩
      · by_cases e : u = k
        · subst e
          refine ⟨p, by simp [os_r_sr], w2.to (fun _ => rfl) (fun _ _ => rfl) rfl rfl (fun K h1 h2 => ?_), s2, by omega, w4, w5⟩
          obtain rfl | rfl | rfl : K = 41 ∨ K = 42 ∨ K = 43 := by omega
          all_goals simp [mpW, os_g_sg]
        · have hu : u < k + 1 := hu
          obtain ⟨p', x1, x2, x3⟩ := i3 u (by omega)
          refine ⟨p', by simp [os_r_sr, e, show u ≠ j from by omega]; exact x1, x2.to (fun _ => rfl) (fun _ _ => rfl) rfl rfl (fun K h1 h2 => ?_), x3⟩
          obtain rfl | rfl | rfl : K = 41 ∨ K = 42 ∨ K = 43 := by omega
          all_goals simp [mpW, os_g_sg, e]
      · have h1 : k + 1 ≤ u := h1
        simp [os_r_sr, show u ≠ k from by omega]
        intro e
        exact i4 u (by omega) (by omega)
      · obtain ⟨p', x1, x2, x3⟩ := i5 u (by omega) h2
        refine ⟨p', by simp [os_r_sr, show u ≠ j from by omega, show u ≠ k from by omega]; exact x1, x2.to (fun _ => rfl) (fun _ _ => rfl) rfl rfl (fun K h1 h2 => ?_), x3⟩
        obtain rfl | rfl | rfl : K = 41 ∨ K = 42 ∨ K = 43 := by omega
        all_goals simp [mpW, os_g_sg, show u ≠ k from by omega]
      · simp [os_r_sr, show u ≠ k from by omega, show u ≠ j from by omega]
        exact i6 u h1 h2
    · rw [if_neg (fun w => c (d1.mp w)), if_pos (d2.mpr c), if_neg (fun w => c (d1.mp w))]
      obtain ⟨a, ha, ea⟩ := w2.2.2.2.1
      have r7 := i1.sr7 (j := j) (v := none)
      have w6 := w2.2.2.2.2.1
      have w7 := w2.2.2.2.2.2.1
      have br := r7.br (p := p) (a := a) w2.2.2.1 ha
      rw [ea, iN9 (by omega), w6, w7, ea]
      have pe : pR (os_sr σj 7 j 0 none) p = pR σj p := rfl
      rw [pe] at br
      obtain ⟨b1, b2, b3, b4, b5, -⟩ := brS_keep (σ := os_sr σj 7 j 0 none) (p := p) (a := a)
      obtain ⟨m1, -⟩ := mbr_keep (τ := τj) (x := nI (pR σj p)) (k := nI a)
      refine ⟨⟨rfl, by show k + (lpD σ j + 1) = j + 1; omega⟩, br, by show k ≤ j + 1; omega, fun u hu => ?_, fun u h1 h2 => ?_, fun u h1 h2 => ?_, fun u h1 h2 => ?_⟩
      · obtain ⟨p', x1, x2, s3, x3, x4, x5⟩ := i3 u hu
        have hu : u < k := hu
        exact ⟨p', by rw [b1]; simp [os_r_sr, show u ≠ j from by omega]; exact x1, x2.to (fun v => by rw [b2]; rfl) (fun v w => by rw [b3]; rfl) b4 b5 (fun K h1 h2 => m1 K u h1), s3, x3, x4, by rw [b3]; exact x5⟩
      · rw [b1]
        simp [os_r_sr]
        intro e
        exact i4 u h1 (by omega)
      · obtain ⟨p', x1, x2, s3, x3, x4, x5⟩ := i5 u (by omega) h2
        exact ⟨p', by rw [b1]; simp [os_r_sr, show u ≠ j from by omega]; exact x1, x2.to (fun v => by rw [b2]; rfl) (fun v w => by rw [b3]; rfl) b4 b5 (fun K h1 h2 => m1 K u h1), s3, x3, x4, by rw [b3]; exact x5⟩
      · rw [b1]
        simp [os_r_sr, show u ≠ j from by omega]
        exact i6 u h1 h2
end
section
variable {z t nP : Nat} {σ τ : os_S}
theorem lp_rest {s9 : Nat} (h : Rel0 z t nP σ τ) (hq : ∀ u, u < nP → eQ σ τ t s9 u) (hz : ∀ u, nP ≤ u → u < 10 → os_r σ 7 u 0 = none) (h9 : s9 < 1000000) : ∀ d, nP + d ≤ 10 → ((lpC σ (nP + d)).2 = (mpC τ nP).2 ∧ (lpC σ (nP + d)).2 + lpD σ (nP + d) = nP) ∧ lpI z t nP s9 (nP + d) (lpC σ (nP + d)).1 (mpC τ nP).1 (lpC σ (nP + d)).2
  | 0, _ => lp_sim h hq hz h9 nP (Nat.le_refl _)
  | d + 1, hd => by
    obtain ⟨⟨e1, e2⟩, i1, i2, i3, i4, i5, i6⟩ := lp_rest h hq hz h9 d (by omega)
    rw [show nP + (d + 1) = nP + d + 1 from by omega, lpC, lpD]
    generalize (lpC σ (nP + d)).2 = k at *
    generalize (lpC σ (nP + d)).1 = σj at *
    generalize (mpC τ nP).1 = τj at *
    rw [i6 (nP + d) (by omega) (by omega)]
    refine ⟨⟨e1, e2⟩, i1.sr7, by show k ≤ _; omega, fun u hu => ?_, fun u h1 h2 => ?_, fun u h1 h2 => absurd h2 (by omega), fun u h1 h2 => ?_⟩
    · obtain ⟨p, x1, x2, x3⟩ := i3 u hu
      have hu : u < k := hu
      exact ⟨p, by simp [os_r_sr, show u ≠ nP + d from by omega]; exact x1, x2, x3⟩
    · simp [os_r_sr]
      intro e
      exact i4 u h1 (by omega)
    · simp [os_r_sr]
      intro e
      exact i6 u h1 h2
/-- at every place of the row -/
theorem lp_any {s9 : Nat} (h : Rel0 z t nP σ τ) (hq : ∀ u, u < nP → eQ σ τ t s9 u) (hz : ∀ u, nP ≤ u → u < 10 → os_r σ 7 u 0 = none) (h9 : s9 < 1000000) {j : Nat} (hj : j ≤ 10) : ∃ τj, lpI z t nP s9 j (lpC σ j).1 τj (lpC σ j).2 := by
  by_cases c : j ≤ nP
  · exact ⟨_, (lp_sim h hq hz h9 j c).2⟩
  · have := (lp_rest h hq hz h9 (j - nP) (by omega)).2
    rw [show nP + (j - nP) = j from by omega] at this
    exact ⟨_, this⟩
theorem lp_end (h : Rel0 z t nP σ τ) (hq : ∀ u, u < nP → eQ σ τ t (t + 1000) u) (hz : ∀ u, nP ≤ u → u < 10 → os_r σ 7 u 0 = none) : ∃ k, k + lpD σ 10 = nP ∧ Rel z t k (lpE σ) (mpE τ) := by
  have hnP := h.C.2.2.2.2.2.2.2.2.2.2.2.1
  have ht := h.C.2.2.2.2.2.1
  have c11 := h.C.2.2.2.2.2.2.2.2.2.2.1
  obtain ⟨⟨e1, e2⟩, i1, i2, i3, i4, i5, i6⟩ := lp_rest h hq hz (by omega) (10 - nP) (by omega)
  rw [show nP + (10 - nP) = 10 from by omega] at e1 e2 i1 i2 i3 i4 i5 i6
  refine ⟨(lpC σ 10).2, e2, ?_⟩
  unfold lpE mpE
  rw [c11, iN9 (by omega), ← e1]
  refine (i1.pc i2).rel ⟨fun j hj => ?_, fun j h1 h2 => i4 j h1 h2⟩
  obtain ⟨p, x1, x2, s2, x3, x4, x5⟩ := i3 j hj
  exact ⟨p, x1, x2, s2, by omega, x4, x5⟩
end
section
variable {z t nP : Nat} {σ τ : os_S}
theorem rise_iff (h : Rel0 z t nP σ τ) {j : Nat} (hj : j < os_n σ 11) : (j < os_n σ 11 ∧ crF σ j = true ∧ rsF σ j (os_g σ 0 10 0) = true) ↔ mrF τ j = true := by
  obtain ⟨q0, q1, q2, q3, q4, q5, q6, q7, q8, q9, q10, l, q11, q12⟩ := h.A hj
  have ef := h.F q10
  obtain ⟨s, s1, s2⟩ := ef.2.2.2.2.2.2.2.2.2.2.2.2.2.1
  have h10 := h.n10
  have ht := h.C.2.2.2.2.2.1
  have d1 : os_g σ 11 4 j < 3 ↔ ¬ os_g σ 11 4 j = 3 := by
    rw [q12, show (3 : Int32) = nI 3 from by decide, nI_ltI (by omega) (by decide), nI_eq (by omega) (by decide)]; omega
  have d2 : ¬ nI t ≤ nI s ↔ ¬ nI t = nI s := by rw [nI_leI (by omega) (by omega), nI_eq (by omega) (by omega)]; omega
  rw [mrF_iff]
  unfold crF rsF
  rw [← q6, ← q4, q8, iN9 (by omega), ← ef.2.2.2.2.1, q7, h.C.2.2.2.1, h.C.2.2.2.2.1, s2]
  simp only [Bool.and_eq_true, decide_eq_true_iff, fop_iff, d1, d2]
  exact ⟨fun ⟨_, ⟨⟨a, b⟩, c⟩, d, e⟩ => ⟨a, b, c, d, e⟩, fun ⟨a, b, c, d, e⟩ => ⟨hj, ⟨⟨a, b⟩, c⟩, d, e⟩⟩
theorem ra_sim (h : Rel z t nP σ τ) : ∀ j, j ≤ os_n σ 11 → Rel z t nP (raS σ j) (mra τ j) ∧ raC σ j = mrc τ j ∧ os_n (raS σ j) 11 = os_n σ 11
  | 0, _ => ⟨h, rfl, rfl⟩
  | j + 1, hj => by
    obtain ⟨i1, i2, i3⟩ := ra_sim h j (by omega)
    have r := rise_iff i1.zero (j := j) (by omega)
    rw [i3] at r
    rw [raS, mra, raC, mrc, i2]
    by_cases c : mrF (mra τ j) j = true
    · rw [if_pos c, if_pos c, if_pos (r.mpr c), if_pos (r.mpr c)]
      have a := i1.A (i := j) (by omega)
      obtain ⟨l, l1, l2⟩ := a.2.2.2.2.2.2.2.2.2.2.2
      have l3 : l ≠ 3 := fun w => by
        have := (mrF_iff.mp c).2.2.1
        rw [← a.2.2.2.2.1, l2, w] at this
        exact this (by decide)
      have q := i1.level (i := j) (v := os_g (raS σ j) 11 4 j + 1) ⟨l + 1, by omega, by rw [l2, nI_1]⟩
      rw [show os_g (mra τ j) 36 j 0 = os_g (raS σ j) 11 4 j from a.2.2.2.2.1.symm]
      exact ⟨q, rfl, i3⟩
    · rw [if_neg c, if_neg c, if_neg (fun w => c (r.mp w)), if_neg (fun w => c (r.mp w))]
      exact ⟨i1, rfl, i3⟩
theorem ra_rest : ∀ d, raS σ (os_n σ 11 + d) = raS σ (os_n σ 11) ∧ raC σ (os_n σ 11 + d) = raC σ (os_n σ 11)
  | 0 => ⟨rfl, rfl⟩
  | d + 1 => by
    obtain ⟨a, b⟩ := ra_rest d
    rw [show os_n σ 11 + (d + 1) = os_n σ 11 + d + 1 from by omega, raS, raC, if_neg (fun w => by omega), if_neg (fun w => by omega)]
    exact ⟨a, b⟩
theorem ra_end (h : Rel z t nP σ τ) : Rel z t nP (raS σ 40) (mra τ (iN (os_g τ 13 24 0))) ∧ raC σ 40 = mrc τ (iN (os_g τ 13 24 0)) := by
  have h11 := h.n11
  obtain ⟨a, b, -⟩ := ra_sim h (os_n σ 11) (Nat.le_refl _)
  obtain ⟨c, d⟩ := ra_rest (σ := σ) (40 - os_n σ 11)
  rw [show os_n σ 11 + (40 - os_n σ 11) = 40 from by omega] at c d
  rw [h.C.2.2.2.2.2.2.2.2.1, iN9 (by omega), c, d]
  exact ⟨a, b⟩
end
