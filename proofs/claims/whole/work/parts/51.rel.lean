theorem nI_mo {n : Nat} (h : n < 2 ^ 31) : (nI n - 1).toInt = (n : Int) - 1 := by
  cases n with
  | zero => decide
  | succ k => rw [nI_pred, nI_toInt (by omega)]; omega
theorem inF_ix {x : Int32} {n : Nat} (hn : n < 2 ^ 31) : inF x 0 (nI n - 1) = true ↔ ∃ i, i < n ∧ x = nI i := by
  unfold inF
  rw [decide_eq_true_iff, Int32.lt_iff_toInt_lt, Int32.lt_iff_toInt_lt, nI_mo hn]
  constructor
  · rintro ⟨h1, h2⟩
    obtain ⟨j, hj, rfl⟩ := nI_of (x := x) (fun h => h1 (Int32.lt_iff_toInt_lt.mp h))
    rw [nI_toInt hj] at h2
    exact ⟨j, by omega, rfl⟩
  · rintro ⟨i, hi, rfl⟩
    rw [nI_toInt (by omega), show (0 : Int32).toInt = 0 from by decide]
    omega
theorem inF_up {x : Int32} {lo n : Nat} (hn : n < 2 ^ 31) (hl : lo < 2 ^ 31) : inF x (nI lo) (nI n) = true ↔ ∃ i, lo ≤ i ∧ i ≤ n ∧ x = nI i := by
  unfold inF
  rw [decide_eq_true_iff, Int32.lt_iff_toInt_lt, Int32.lt_iff_toInt_lt, nI_toInt hn, nI_toInt hl]
  constructor
  · rintro ⟨h1, h2⟩
    obtain ⟨j, hj, rfl⟩ := nI_of (x := x) (fun h => h1 (by have := Int32.lt_iff_toInt_lt.mp h; rw [show (0 : Int32).toInt = 0 from by decide] at this; omega))
    rw [nI_toInt hj] at h1 h2
    exact ⟨j, by omega, by omega, rfl⟩
  · rintro ⟨i, hi, h2, rfl⟩
    rw [nI_toInt (by omega)]
    omega
theorem bzF {b : Bool} : bz b = 0 ↔ ¬ b = true := ⟨fun h => by rw [bz_0 h]; decide, fun h => by cases b with
  | true => exact absurd rfl h
  | false => rfl⟩
theorem nI_in2 {a b : Nat} (h : nI a = nI b) (ha : a < 100000000) (hb : b < 100000000) : a = b := nI_inj h (by omega) (by omega)
/-- a number that names one of the first -/
theorem bzR {x : Int32} {n : Nat} (hn : n < 100000000) : bz (inF x 0 (nI n - 1)) = 0 ↔ ¬ ∃ i, i < n ∧ x = nI i := bzF.trans (not_congr (inF_ix (by omega)))
theorem bzU {x : Int32} {lo n : Nat} (hn : n < 100000000) (hl : lo < 100000000) : bz (inF x (nI lo) (nI n)) = 0 ↔ ¬ ∃ i, lo ≤ i ∧ i ≤ n ∧ x = nI i := bzF.trans (not_congr (inF_up (by omega) (by omega)))
theorem noR_iff {σ : os_S} {x : Int32} : noR σ x ↔ ¬ ∃ i, i < os_n σ 9 ∧ x = nI i := ⟨fun h ⟨i, hi, e⟩ => h i hi e, fun h i hi e => h ⟨i, hi, e⟩⟩
theorem noL_iff {σ : os_S} {x : Int32} : noL σ x ↔ ¬ ∃ i, i < os_n σ 11 ∧ x = nI i := ⟨fun h ⟨i, hi, e⟩ => h i hi e, fun h i hi e => h ⟨i, hi, e⟩⟩
theorem noFt_iff {σ : os_S} {x : Int32} : noFt σ x ↔ ¬ ∃ i, i < os_n σ 10 ∧ x = nI (i + 1) := ⟨fun h ⟨i, hi, e⟩ => h i hi e, fun h i hi e => h ⟨i, hi, e⟩⟩
theorem isP_iff {σ : os_S} {x : Int32} {z : Nat} (h : os_g σ 1 1 0 = nI z) (hz : z ≤ 20) : isP σ x ↔ ∃ i, i < z ∧ x = nI i := by
  unfold isP
  rw [h]
  constructor
  · rintro ⟨h1, h2⟩
    obtain ⟨j, hj, rfl⟩ := nI_of h1
    rw [nI_leI (by omega) hj] at h2
    exact ⟨j, by omega, rfl⟩
  · rintro ⟨i, hi, rfl⟩
    exact ⟨nI_pos (by omega), nI_ge hi (by omega)⟩
theorem kind_iff {k : Int32} : (¬ k < 0 ∧ k < 8) ↔ ∃ a, a < 8 ∧ k = nI a := by
  constructor
  · rintro ⟨h1, h2⟩
    obtain ⟨j, hj, rfl⟩ := nI_of h1
    rw [show (8 : Int32) = nI 8 from by decide, nI_ltI hj (by omega)] at h2
    exact ⟨j, h2, rfl⟩
  · rintro ⟨i, hi, rfl⟩
    exact ⟨nI_pos (by omega), by rw [show (8 : Int32) = nI 8 from by decide]; exact nI_lt hi (by decide)⟩
theorem MI.at {σ : os_S} {i p : Nat} (h : MI σ) (hp : p < 20) : MI (os_sg σ 15 i 0 (nI p)) := by
  obtain ⟨h1, h2, h3, h4, h5, h6, h7, h8, h9, h10⟩ := h
  refine ⟨h1.sg, h2, h3, h4, h5, h6, ?_, h8, h9, h10⟩
  intro i' hi'
  rw [os_g_sg]
  split
  · rw [iN9 (by omega)]; exact ⟨rfl, hp⟩
  · exact h7 i' hi'
theorem Rel.c {z t nP : Nat} {σ τ : os_S} {v : Int32} (h : Rel z t nP σ τ) : Rel z t nP σ (os_sg τ 13 0 0 v) := h
theorem Rel.unit {z t nP i : Nat} {σ τ : os_S} {v : Int32} (h : Rel z t nP σ τ) (hi : i < os_n σ 9)  : Rel z t nP (os_sg σ 9 3 i v) (os_sg τ 16 i 0 v) := by
  obtain ⟨hA, hM, hR, hF, hL, hC, hK, hK2, hU, hr, h0, hf, ha, hp⟩ := h
  refine ⟨hA, MI.k hM (by decide), hR, hF, hL, hC, hK, hK2, hU, ?_, h0, hf, ha, hp⟩
  intro i' hi'
  have q := hr i' hi'
  unfold eR at q ⊢
  by_cases e : i' = i
  · subst e
    simp [os_g_sg]
    obtain ⟨q0, q1, q2, q3, q4, q5, q6, q7, q8⟩ := q
    exact ⟨q0, q1, q2, q4, q5, q6, q7, q8⟩
  · simp [os_g_sg, e]
    exact q
theorem Rel.state {z t nP i : Nat} {σ τ : os_S} {v : Int32} (h : Rel z t nP σ τ) (hi : i < os_n σ 9)  : Rel z t nP (os_sg σ 9 2 i v) (os_sg τ 17 i 0 v) := by
  obtain ⟨hA, hM, hR, hF, hL, hC, hK, hK2, hU, hr, h0, hf, ha, hp⟩ := h
  refine ⟨hA, MI.k hM (by decide), hR, hF, hL, hC, hK, hK2, hU, ?_, fun i' h1 h2 => by have := h0 i' h1 h2; have e : i' ≠ i := Nat.ne_of_gt (Nat.lt_of_lt_of_le hi h1); simp [os_g_sg, e]; exact this, hf, ha, hp⟩
  intro i' hi'
  have q := hr i' hi'
  unfold eR at q ⊢
  by_cases e : i' = i
  · subst e
    simp [os_g_sg]
    obtain ⟨q0, q1, q2, q3, q4, q5, q6, q7, q8⟩ := q
    exact ⟨q0, q1, q3, q4, q5, q6, q7, q8⟩
  · simp [os_g_sg, e]
    exact q
theorem Rel.wants {z t nP i : Nat} {σ τ : os_S} {v : Int32} (h : Rel z t nP σ τ) (hi : i < os_n σ 9) (hv : v = 0 ∨ v = 1) : Rel z t nP (os_sg σ 9 4 i v) (os_sg τ 18 i 0 v) := by
  obtain ⟨hA, hM, hR, hF, hL, hC, hK, hK2, hU, hr, h0, hf, ha, hp⟩ := h
  refine ⟨hA, MI.k hM (by decide), hR, hF, hL, hC, hK, hK2, hU, ?_, fun i' h1 h2 => by have := h0 i' h1 h2; have e : i' ≠ i := Nat.ne_of_gt (Nat.lt_of_lt_of_le hi h1); simp [os_g_sg, e]; exact this, hf, ha, hp⟩
  intro i' hi'
  have q := hr i' hi'
  unfold eR at q ⊢
  by_cases e : i' = i
  · subst e
    simp [os_g_sg]
    obtain ⟨q0, q1, q2, q3, q4, q5, q6, q7, q8⟩ := q
    exact ⟨q0, q1, q2, q3, q5, q6, hv, q8⟩
  · simp [os_g_sg, e]
    exact q
theorem Rel.piece {z t nP i : Nat} {σ τ : os_S} {v : Int32} (h : Rel z t nP σ τ) (hi : i < os_n σ 9) (hv : ∃ p, p < z ∧ v = nI p) : Rel z t nP (os_sg σ 9 1 i v) (os_sg τ 15 i 0 v) := by
  obtain ⟨hA, hM, hR, hF, hL, hC, hK, hK2, hU, hr, h0, hf, ha, hp⟩ := h
  refine ⟨hA, (by obtain ⟨p, h1, rfl⟩ := hv; exact MI.at hM (Nat.lt_of_lt_of_le h1 hC.2.2.1)), hR, hF, hL, hC, hK, hK2, hU, ?_, h0, hf, ha, hp⟩
  intro i' hi'
  have q := hr i' hi'
  unfold eR at q ⊢
  by_cases e : i' = i
  · subst e
    simp [os_g_sg]
    obtain ⟨q0, q1, q2, q3, q4, q5, q6, q7, q8⟩ := q
    exact ⟨q0, q2, q3, q4, q5, hv, q7, q8⟩
  · simp [os_g_sg, e]
    exact q
theorem Rel.heard {z t nP i : Nat} {σ τ : os_S} {v : Int32} (h : Rel z t nP σ τ) : Rel z t nP (os_sg σ 11 6 i v) (os_sg τ 38 i 0 v) := by
  obtain ⟨hA, hM, hR, hF, hL, hC, hK, hK2, hU, hr, h0, hf, ha, hp⟩ := h
  refine ⟨hA, MI.k hM (by decide), hR, hF, hL, hC, hK, hK2, hU, hr, h0, hf, ?_, hp⟩
  intro i' hi'
  have q := ha i' hi'
  unfold eA at q ⊢
  by_cases e : i' = i
  · subst e
    simp [os_g_sg]
    obtain ⟨q0, q1, q2, q3, q4, q5, q6, q7⟩ := q
    exact ⟨q0, q1, q2, q3, q4, q5, q7⟩
  · simp [os_g_sg, e]
    exact q
theorem Rel.level {z t nP i : Nat} {σ τ : os_S} {v : Int32} (h : Rel z t nP σ τ) (hv : ∃ l, l ≤ 3 ∧ v = nI l) : Rel z t nP (os_sg σ 11 4 i v) (os_sg τ 36 i 0 v) := by
  obtain ⟨hA, hM, hR, hF, hL, hC, hK, hK2, hU, hr, h0, hf, ha, hp⟩ := h
  refine ⟨hA, MI.k hM (by decide), hR, hF, hL, hC, hK, hK2, hU, hr, h0, hf, ?_, hp⟩
  intro i' hi'
  have q := ha i' hi'
  unfold eA at q ⊢
  by_cases e : i' = i
  · subst e
    simp [os_g_sg]
    obtain ⟨q0, q1, q2, q3, q4, q5, q6, q7, q8, q9, q10, q11⟩ := q
    exact ⟨q0, q1, q2, q3, q5, q6, q7, q8, q9, q10, hv⟩
  · simp [os_g_sg, e]
    exact q
theorem Rel.steps {z t nP i : Nat} {σ τ : os_S} {v : Int32} (h : Rel z t nP σ τ) (hv : ∃ m, m < 256 ∧ v = nI m) : Rel z t nP (os_sg σ 10 9 i v) (os_sg τ 28 (i + 1) 0 v) := by
  obtain ⟨hA, hM, hR, hF, hL, hC, hK, hK2, hU, hr, h0, hf, ha, hp⟩ := h
  refine ⟨hA, MI.k hM (by decide), hR, hF, hL, hC, hK, hK2, hU, hr, h0, ?_, ha, hp⟩
  intro i' hi'
  have q := hf i' hi'
  unfold eF at q ⊢
  by_cases e : i' = i
  · subst e
    simp [os_g_sg]
    obtain ⟨q0, q1, q2, q3, q4, q5, q6, q7, q8, q9, q10, q11, q12, q13, q14, q15⟩ := q
    exact ⟨q0, q1, q2, q3, q4, q5, q7, q8, q9, q10, q11, q12, q13, q14, hv⟩
  · simp [os_g_sg, e]
    exact q
theorem Rel.reset {z t nP i : Nat} {σ τ : os_S} {v : Int32} (h : Rel z t nP σ τ) : Rel z t nP (os_sg σ 10 10 i v) (os_sg τ 26 (i + 1) 0 v) := by
  obtain ⟨hA, hM, hR, hF, hL, hC, hK, hK2, hU, hr, h0, hf, ha, hp⟩ := h
  refine ⟨hA, MI.k hM (by decide), hR, hF, hL, hC, hK, hK2, hU, hr, h0, ?_, ha, hp⟩
  intro i' hi'
  have q := hf i' hi'
  unfold eF at q ⊢
  by_cases e : i' = i
  · subst e
    simp [os_g_sg]
    obtain ⟨q0, q1, q2, q3, q4, q5⟩ := q
    exact ⟨q0, q1, q2, q3, q5⟩
  · simp [os_g_sg, e]
    exact q
theorem Rel.rule {z t nP a : Nat} {σ τ : os_S} {n q : Int32} {b : Bool} (h : Rel z t nP σ τ) : Rel z t nP (os_sg (os_sg (os_sg σ 8 0 a n) 8 1 a (bz b)) 8 2 a q) (os_sg (os_sg (os_sg τ 20 a 0 n) 21 a 0 (bz b)) 22 a 0 q) := by
  obtain ⟨hA, hM, hR, hF, hL, hC, hK, hK2, hU, hr, h0, hf, ha, hp⟩ := h
  refine ⟨hA, MI.k (MI.k (MI.k hM (by decide)) (by decide)) (by decide), hR, hF, hL, hC, hK, hK2, ?_, hr, h0, hf, ha, hp⟩
  intro k hk
  have q := hU k hk
  unfold eU at q ⊢
  by_cases e : k = a
  · subst e
    simp [os_g_sg]
    cases b <;> simp [bz]
  · simp [os_g_sg, e]
    exact q
