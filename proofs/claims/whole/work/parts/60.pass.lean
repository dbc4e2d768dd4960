/-! NUMBERS -/
theorem nI_mul (a b : Nat) : nI a * nI b = nI (a * b) := (Int32.ofNat_mul a b).symm
theorem nI_sub {a b : Nat} (h : b ≤ a) : nI a - nI b = nI (a - b) := (Int32.ofNat_sub a b h).symm
theorem nI_div {a b : Nat} (ha : a < 2 ^ 31) (hb : b < 2 ^ 31) : nI a / nI b = nI (a / b) := by
  have h2 : a / b ≤ a := Nat.div_le_self a b
  refine Int32.toInt_inj.mp ?_
  rw [Int32.toInt_div, nI_toInt ha, nI_toInt hb, nI_toInt (by omega), Int.tdiv_eq_ediv_of_nonneg (by omega)]
  have h3 : (a : Int) / (b : Int) = ((a / b : Nat) : Int) := by simp
  rw [h3]
  have h4 : ∀ c : Nat, c < 2 ^ 31 → ((c : Nat) : Int).bmod (2 ^ 32) = (c : Int) := fun c hc => Int.bmod_eq_of_le (by omega) (by omega)
  exact h4 _ (Nat.lt_of_le_of_lt h2 ha)
theorem nI_rem {a : Nat} (ha : a < 2 ^ 31) : nI a - nI a / 30 * 30 = 0 ↔ a % 30 = 0 := by
  rw [show (30 : Int32) = nI 30 from by decide, nI_div ha (by decide), nI_mul, nI_sub (by omega), show (0 : Int32) = nI 0 from by decide, nI_eq (by omega) (by decide)]
  omega
theorem nI_30 {a : Nat} (ha : a < 2 ^ 31) : nI a / 30 = nI (a / 30) := by
  rw [show (30 : Int32) = nI 30 from by decide, nI_div ha (by decide)]
theorem imin_nI {a b : Nat} (ha : a < 2 ^ 31) (hb : b < 2 ^ 31) : imin (nI a) (nI b) = nI (min a b) := by
  unfold imin
  by_cases c : b < a
  · rw [if_pos (nI_lt c ha), Nat.min_eq_right (by omega)]
  · rw [if_neg (nI_nlt (by omega) hb), Nat.min_eq_left (by omega)]
/-! TIME -/
theorem os_sg_self {σ : os_S} {K j i : Nat} {v : Int32} (h : os_g σ K j i = v) : os_sg σ K j i v = σ := by
  refine Prod.ext rfl (Prod.ext rfl (Prod.ext (funext fun K' => funext fun j' => funext fun i' => ?_) rfl))
  show (if K' = K ∧ j' = j ∧ i' = i then v else σ.2.2.1 K' j' i') = σ.2.2.1 K' j' i'
  split
  · rename_i c; obtain ⟨rfl, rfl, rfl⟩ := c; exact h.symm
  · rfl
theorem os_sg_sg {σ : os_S} {K j i : Nat} {v w : Int32} : os_sg (os_sg σ K j i v) K j i w = os_sg σ K j i w := by
  refine Prod.ext rfl (Prod.ext rfl (Prod.ext (funext fun K' => funext fun j' => funext fun i' => ?_) rfl))
  show (if K' = K ∧ j' = j ∧ i' = i then w else if K' = K ∧ j' = j ∧ i' = i then v else σ.2.2.1 K' j' i') = if K' = K ∧ j' = j ∧ i' = i then w else σ.2.2.1 K' j' i'
  split <;> rfl
/-- a busy second of the class -/
def nbS (σ : os_S) (e : Int32) : Int32 := nb2 σ (nb1 σ e 10) 40
def cst (σ : os_S) (e : Int32) : os_S := lpE (os_sg σ 0 10 0 (nbS σ e))
def cps (σ : os_S) (e : Int32) : Nat → os_S
  | 0 => σ
  | k + 1 => if os_g (cps σ e k) 0 10 0 < e then raS (cst (cps σ e k) e) 40 else cps σ e k
/-- how many planted faults came -/
def cpD (σ : os_S) (e : Int32) : Nat → Nat
  | 0 => 0
  | k + 1 => if os_g (cps σ e k) 0 10 0 < e then cpD σ e k + lpD (os_sg (cps σ e k) 0 10 0 (nbS (cps σ e k) e)) 10 else cpD σ e k
def cpc (σ : os_S) (e : Int32) : Nat → Int32
  | 0 => 0
  | k + 1 => if os_g (cps σ e k) 0 10 0 < e then cpc σ e k + raC (cst (cps σ e k) e) 40 else cpc σ e k
section
variable {z t nP : Nat} {σ τ : os_S}
theorem nb1_spec (h : Rel z t nP σ τ) {E : Nat} (hE : t < E) (hE2 : E < 1000000) : ∀ n, n ≤ 10 → ∃ s, nb1 σ (nI E) n = nI s ∧ t < s ∧ s ≤ E ∧ ∀ j p s2, j < n → j < nP → os_r σ 7 j 0 = some p → os_g σ 12 2 p = nI s2 → s2 < 1000000 → s ≤ s2
  | 0, _ => ⟨E, rfl, hE, Nat.le_refl _, fun j p s2 h1 => absurd h1 (Nat.not_lt_zero _)⟩
  | n + 1, hn => by
    obtain ⟨s, e1, e2, e3, e4⟩ := nb1_spec h hE hE2 n (by omega)
    have ht := h.C.2.2.2.2.2.1
    rw [nb1, e1]
    by_cases c : n < nP
    · obtain ⟨p, w1, w2, s2, w3, w4, w5⟩ := h.Pl.1 n c
      rw [w1]
      simp only
      rw [w5, imin_nI (by omega) (by omega)]
      refine ⟨min s s2, rfl, by omega, by omega, fun j p' s3 h1 h2 h3 h4 h5 => ?_⟩
      by_cases e : j = n
      · subst e
        rw [w1] at h3
        cases h3
        rw [w5] at h4
        have := nI_in2 h4 (by omega) (by omega)
        omega
      · have := e4 j p' s3 (by omega) h2 h3 h4 h5
        omega
    · rw [h.Pl.2 n (by omega) (by omega)]
      exact ⟨s, rfl, e2, e3, fun j p' s3 h1 h2 => e4 j p' s3 (by omega) h2⟩
theorem nrF_spec (h : Rel z t nP σ τ) {j : Nat} (hj : j < os_n σ 11) : ∃ s, s ≤ t ∧ os_g σ 10 3 (aL σ j) = nI s ∧ nrF σ j (os_g σ 0 10 0) = nI (s + ((t - s) / 30 + 1) * 30) := by
  have hl := (h.A hj).2.2.2.2.2.2.2.2.2.2.1
  obtain ⟨s, s1, s2⟩ := (h.F hl).2.2.2.2.2.2.2.2.2.2.2.2.2.1
  have ht := h.C.2.2.2.2.2.1
  refine ⟨s, s1, s2, ?_⟩
  unfold nrF
  rw [s2, h.C.2.2.2.1, nI_sub s1, nI_30 (by omega), nI_1, show (30 : Int32) = nI 30 from by decide, nI_mul, nI_add]
theorem nb2_spec (h : Rel z t nP σ τ) {x : Int32} {s0 : Nat} (hx : x = nI s0) (h0 : t < s0) (h1 : s0 < 1000000) : ∀ n, ∃ s, nb2 σ x n = nI s ∧ t < s ∧ s ≤ s0 ∧ ∀ j s2, j < n → j < os_n σ 11 → crF σ j = true → os_g σ 10 3 (aL σ j) = nI s2 → s2 < 1000000 → s ≤ s2 + ((t - s2) / 30 + 1) * 30
  | 0 => ⟨s0, hx, h0, Nat.le_refl _, fun j s2 h1 => absurd h1 (Nat.not_lt_zero _)⟩
  | n + 1 => by
    obtain ⟨s, e1, e2, e3, e4⟩ := nb2_spec h hx h0 h1 n
    have ht := h.C.2.2.2.2.2.1
    rw [nb2, e1]
    split
    · rename_i c
      obtain ⟨s2, w1, w2, w3⟩ := nrF_spec h c.1
      rw [w3, imin_nI (by omega) (by omega)]
      refine ⟨_, rfl, by omega, by omega, fun j s3 g1 g2 g3 g4 g5 => ?_⟩
      by_cases e : j = n
      · subst e
        rw [w2] at g4
        have := nI_in2 g4 (by omega) (by omega)
        subst this
        omega
      · have := e4 j s3 (by omega) g2 g3 g4 g5
        omega
    · rename_i c
      refine ⟨s, rfl, e2, e3, fun j s3 g1 g2 g3 g4 g5 => ?_⟩
      by_cases e : j = n
      · subst e; exact absurd ⟨g2, g3⟩ c
      · exact e4 j s3 (by omega) g2 g3 g4 g5
/-- the next busy second -/
theorem nb_spec (h : Rel z t nP σ τ) {E : Nat} (hE : t < E) (hE2 : E < 1000000) : ∃ s, nbS σ (nI E) = nI s ∧ t < s ∧ s ≤ E ∧ (∀ j p s2, j < nP → os_r σ 7 j 0 = some p → os_g σ 12 2 p = nI s2 → s2 < 1000000 → s ≤ s2) ∧ ∀ j s2, j < os_n σ 11 → crF σ j = true → os_g σ 10 3 (aL σ j) = nI s2 → s2 < 1000000 → s ≤ s2 + ((t - s2) / 30 + 1) * 30 := by
  obtain ⟨s1, e1, e2, e3, e4⟩ := nb1_spec h hE hE2 10 (Nat.le_refl _)
  obtain ⟨s, f1, f2, f3, f4⟩ := nb2_spec h e1 e2 (by omega) 40
  have h11 := h.n11
  have hnP := h.C.2.2.2.2.2.2.2.2.2.2.2.1
  exact ⟨s, f1, f2, by omega, fun j p s2 g1 g2 g3 g4 => Nat.le_trans f3 (e4 j p s2 (by omega) g1 g2 g3 g4), fun j s2 g1 => f4 j s2 (by omega) g1⟩
theorem Rel0.time {s : Nat} (h : Rel0 z t nP σ τ) (hs : t ≤ s) (h2 : s ≤ 100000) : Rel0 z s nP (os_sg σ 0 10 0 (nI s)) (os_sg τ 13 1 0 (nI s)) := by
  obtain ⟨hA, hM, hR, hF, hL, hC, hK, hK2, hU, hr, h0, hf, ha⟩ := h
  obtain ⟨c1, c2, c3, c4, c5, c6, c7⟩ := hC
  refine ⟨hA, hM, hR, hF, hL, ⟨c1, c2, c3, ?_, ?_, h2, c7⟩, hK, hK2, hU, fun i hi => ?_, h0, fun i hi => ?_, ha⟩
  · rw [os_g_sg, if_pos ⟨rfl, rfl, rfl⟩]
  · rw [os_g_sg, if_pos ⟨rfl, rfl, rfl⟩]
  · obtain ⟨q0, q1, q2, q3, q4, q5, q6, q7, u, q8, q9⟩ := hr i hi
    exact ⟨q0, q1, q2, q3, q4, q5, q6, q7, u, by omega, q9⟩
  · obtain ⟨q0, q1, q2, q3, q4, q5, q6, q7, q8, q9, q10, q11, q12, ⟨u, q13, q14⟩, q15⟩ := hf i hi
    exact ⟨q0, q1, q2, q3, q4, q5, q6, q7, q8, q9, q10, q11, q12, ⟨u, by omega, q14⟩, q15⟩
/-- an idle second of the reference -/
theorem idle (h : Rel z t nP σ τ) {s : Nat} (hs : t < s) (h5 : s ≤ 100000) (hp : ∀ j p s2, j < nP → os_r σ 7 j 0 = some p → os_g σ 12 2 p = nI s2 → s2 < 1000000 → s < s2) (hr : ∀ j s2, j < os_n σ 11 → crF σ j = true → os_g σ 10 3 (aL σ j) = nI s2 → s2 < 1000000 → s < s2 + ((t - s2) / 30 + 1) * 30) :
    let u := os_sg τ 13 1 0 (nI s)
    mpE u = u ∧ (∀ n, n ≤ os_n σ 11 → mra u n = u ∧ mrc u n = 0) := by
  intro u
  have hu : u = os_sg τ 13 1 0 (nI s) := rfl
  clear_value u
  have c11 := h.C.2.2.2.2.2.2.2.2.2.2.1
  have c12 := h.C.2.2.2.2.2.2.2.2.2.2.2.1
  have ht := h.C.2.2.2.2.2.1
  have e1 : ∀ n, n ≤ nP → mpC u n = (u, n) := by
    intro n
    induction n with
    | zero => intro _; rfl
    | succ n ih =>
      intro hn
      obtain ⟨p, w1, w2, s2, w3, w4, w5⟩ := h.Pl.1 n (by omega)
      have e43 : os_g u 43 n 0 = nI s2 := by rw [hu]; exact (w2.2.2.2.2.2.2).trans w5
      have e13 : os_g u 13 1 0 = nI s := by rw [hu, os_g_sg, if_pos ⟨rfl, rfl, rfl⟩]
      have := hp n p s2 (by omega) w1 w5 (by omega)
      rw [mpC, ih (by omega)]
      simp only
      rw [e43, e13, if_neg (fun w => by have := nI_in2 w (by omega) (by omega); omega)]
      refine congrArg (·, n + 1) ?_
      unfold mpW
      rw [os_sg_self (σ := u) rfl, os_sg_self (σ := u) rfl, os_sg_self (σ := u) rfl]
  have e33 : os_g u 13 33 0 = nI nP := by rw [hu]; exact c11
  refine ⟨?_, ?_⟩
  · unfold mpE
    rw [e33, iN9 (by omega), e1 nP (Nat.le_refl _)]
    exact os_sg_self e33
  · intro n
    induction n with
    | zero => intro _; exact ⟨rfl, rfl⟩
    | succ n ih =>
      intro hn
      obtain ⟨i1, i2⟩ := ih (by omega)
      have nr : ¬ mrF u n = true := by
        intro w
        have r0 := h.zero.time (s := s) (by omega) h5
        rw [← hu] at r0
        have w2 := (rise_iff r0 (j := n) (by exact hn)).mpr w
        have cr : crF σ n = true := w2.2.1
        obtain ⟨s2, g1, g2, g3⟩ := nrF_spec h (j := n) hn
        have := hr n s2 hn cr g2 (by omega)
        have rs := w2.2.2
        unfold rsF at rs
        rw [Bool.and_eq_true, decide_eq_true_iff, decide_eq_true_iff] at rs
        have a1 : os_g (os_sg σ 0 10 0 (nI s)) 10 3 (aL (os_sg σ 0 10 0 (nI s)) n) = nI s2 := g2
        have a2 : os_g (os_sg σ 0 10 0 (nI s)) 0 10 0 = nI s := by rw [os_g_sg, if_pos ⟨rfl, rfl, rfl⟩]
        rw [a1, a2, nI_sub (by omega), nI_rem (by omega)] at rs
        have := rs.2
        omega
      rw [mra, mrc, i1, i2, if_neg nr, if_neg nr]
      exact ⟨rfl, rfl⟩
end
section
variable {z t nP : Nat} {σ τ : os_S}
/-- the idle seconds before a busy one -/
theorem idles (h : Rel z t nP σ τ) {s : Nat} (h5 : s ≤ 100000) (hp : ∀ j p s2, j < nP → os_r σ 7 j 0 = some p → os_g σ 12 2 p = nI s2 → s2 < 1000000 → s ≤ s2) (hr : ∀ j s2, j < os_n σ 11 → crF σ j = true → os_g σ 10 3 (aL σ j) = nI s2 → s2 < 1000000 → s ≤ s2 + ((t - s2) / 30 + 1) * 30) : ∀ d, t + d < s → mps τ d = os_sg τ 13 1 0 (nI (t + d)) ∧ mpc τ d = 0
  | 0, _ => ⟨(os_sg_self h.C.2.2.2.2.1).symm, rfl⟩
  | d + 1, hd => by
    obtain ⟨i1, i2⟩ := idles h h5 hp hr d (by omega)
    obtain ⟨k1, k2⟩ := idle h (s := t + (d + 1)) (by omega) (by omega) (fun j p s2 g1 g2 g3 g4 => by have := hp j p s2 g1 g2 g3 g4; omega) (fun j s2 g1 g2 g3 g4 => by have := hr j s2 g1 g2 g3 g4; omega)
    have h11 := h.n11
    have e : mst (mps τ d) = os_sg τ 13 1 0 (nI (t + (d + 1))) := by
      unfold mst
      rw [i1, os_sg_sg, os_g_sg, if_pos ⟨rfl, rfl, rfl⟩, nI_1]
      exact k1
    have e24 : iN (os_g (os_sg τ 13 1 0 (nI (t + (d + 1)))) 13 24 0) = os_n σ 11 := by
      rw [show os_g (os_sg τ 13 1 0 (nI (t + (d + 1)))) 13 24 0 = os_g τ 13 24 0 from rfl, h.C.2.2.2.2.2.2.2.2.1, iN9 (by omega)]
    obtain ⟨q1, q2⟩ := k2 (os_n σ 11) (Nat.le_refl _)
    rw [mps, mpc, i2]
    unfold mse msc
    rw [e, e24, q1, q2]
    exact ⟨rfl, rfl⟩
/-- a busy second of the class is some seconds of the reference -/
theorem busy (h : Rel z t nP σ τ) {E : Nat} (hE : t < E) (hE2 : E ≤ 100000) : ∃ s nP2, t < s ∧ s ≤ E ∧ Rel z s nP2 (raS (cst σ (nI E)) 40) (mps τ (s - t)) ∧ raC (cst σ (nI E)) 40 = mpc τ (s - t) ∧ nP2 + lpD (os_sg σ 0 10 0 (nbS σ (nI E))) 10 = nP := by
  obtain ⟨s, e1, e2, e3, e4, e5⟩ := nb_spec h hE (by omega)
  obtain ⟨i1, i2⟩ := idles h (s := s) (by omega) e4 e5 (s - 1 - t) (by omega)
  have r0 := h.zero.time (s := s) (by omega) (by omega)
  have hpl := h.Pl
  have ht := h.C.2.2.2.2.2.1
  obtain ⟨k, hk, lp⟩ := lp_end r0 (fun u hu => by
      obtain ⟨p, w1, w2, s2, w3, w4, w5⟩ := hpl.1 u hu
      have := e4 u p s2 hu w1 w5 (by omega)
      exact ⟨p, w1, w2, s2, this, by omega, w5⟩) (fun u h1 h2 => hpl.2 u h1 h2)
  obtain ⟨ra, rc⟩ := ra_end lp
  have em : mst (mps τ (s - 1 - t)) = mpE (os_sg τ 13 1 0 (nI s)) := by
    unfold mst
    rw [i1, os_sg_sg, os_g_sg, if_pos ⟨rfl, rfl, rfl⟩, nI_1, show t + (s - 1 - t) + 1 = s from by omega]
  refine ⟨s, k, e2, e3, ?_⟩
  unfold cst
  rw [e1]
  rw [show s - t = s - 1 - t + 1 from by omega, mps, mpc, i2]
  unfold mse msc
  rw [em, Int32.zero_add]
  exact ⟨ra, rc, hk⟩
theorem mps_add {a : Nat} : ∀ b, mps τ (a + b) = mps (mps τ a) b ∧ mpc τ (a + b) = mpc τ a + mpc (mps τ a) b
  | 0 => ⟨rfl, (Int32.add_zero _).symm⟩
  | b + 1 => by
    obtain ⟨i1, i2⟩ := mps_add (a := a) b
    rw [show a + (b + 1) = a + b + 1 from by omega, mps, mpc, mps, mpc, i1, i2, Int32.add_assoc]
    exact ⟨rfl, rfl⟩
theorem cps_stop {e : Int32} {j : Nat} (h : ¬ os_g (cps σ e j) 0 10 0 < e) : ∀ d, cps σ e (j + d) = cps σ e j ∧ cpc σ e (j + d) = cpc σ e j ∧ cpD σ e (j + d) = cpD σ e j
  | 0 => ⟨rfl, rfl, rfl⟩
  | d + 1 => by
    obtain ⟨a, b, c⟩ := cps_stop h d
    rw [show j + (d + 1) = j + d + 1 from by omega, cps, cpc, cpD, a, if_neg h, if_neg h, if_neg h]
    exact ⟨rfl, b, c⟩
theorem cps_sim (h : Rel z t nP σ τ) {E : Nat} (hE : t ≤ E) (hE2 : E ≤ 100000) : ∀ k, ∃ s nP2, (t + k ≤ s ∨ s = E) ∧ t ≤ s ∧ s ≤ E ∧ Rel z s nP2 (cps σ (nI E) k) (mps τ (s - t)) ∧ cpc σ (nI E) k = mpc τ (s - t) ∧ nP2 + cpD σ (nI E) k = nP
  | 0 => ⟨t, nP, Or.inl (by omega), Nat.le_refl _, hE, by rw [Nat.sub_self]; exact h, by rw [Nat.sub_self]; rfl, rfl⟩
  | k + 1 => by
    obtain ⟨s, n2, i1, i0, i2, i3, i4, i5⟩ := cps_sim h hE hE2 k
    have c4 := i3.C.2.2.2.1
    rw [cps, cpc, cpD, c4, i4]
    by_cases c : s < E
    · rw [if_pos (nI_lt c (by omega)), if_pos (nI_lt c (by omega)), if_pos (nI_lt c (by omega))]
      obtain ⟨s2, n3, b1, b2, b3, b4, b5⟩ := busy i3 c hE2
      have q := mps_add (τ := τ) (a := s - t) (s2 - s)
      rw [show s - t + (s2 - s) = s2 - t from by omega] at q
      refine ⟨s2, n3, by omega, by omega, b2, ?_, ?_, by omega⟩
      · rw [q.1]; exact b3
      · rw [q.2, b4]
    · rw [if_neg (nI_nlt (by omega) (by omega)), if_neg (nI_nlt (by omega) (by omega)), if_neg (nI_nlt (by omega) (by omega))]
      exact ⟨s, n2, Or.inr (by omega), i0, i2, i3, rfl, i5⟩
/-- the class's pass is the reference's -/
theorem pass_sim (h : Rel z t nP σ τ) {n : Nat} (hn : t + n ≤ 100000) : ∃ nP2, Rel z (t + n) nP2 (cps σ (nI (t + n)) n) (mps τ n) ∧ cpc σ (nI (t + n)) n = mpc τ n := by
  obtain ⟨s, n2, i1, i0, i2, i3, i4, -⟩ := cps_sim h (E := t + n) (by omega) hn n
  have : s = t + n := by omega
  subst this
  rw [show t + n - t = n from by omega] at i3 i4
  exact ⟨n2, i3, i4⟩
end
