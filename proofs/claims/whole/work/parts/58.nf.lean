/-! WHICH ALARM A FAULT JOINS -/
theorem laA_some {σ : os_S} {r : Nat} {k : Int32} {u : Nat} : ∀ {n : Nat}, laA σ r k n = some u → u < n ∧ (u < os_n σ 11 ∧ aR σ u = r ∧ os_g σ 11 2 u = k) ∧ ∀ j, u < j → j < n → ¬ (j < os_n σ 11 ∧ aR σ j = r ∧ os_g σ 11 2 j = k)
  | 0, h => by cases h
  | n + 1, h => by
    rw [laA] at h
    split at h
    · rename_i hc
      cases h
      exact ⟨by omega, hc, fun j h1 h2 => absurd h1 (by omega)⟩
    · rename_i hc
      obtain ⟨a, b, c⟩ := laA_some h
      refine ⟨by omega, b, fun j h1 h2 => ?_⟩
      by_cases e : j = n
      · subst e; exact hc
      · exact c j h1 (by omega)
theorem laA_none {σ : os_S} {r : Nat} {k : Int32} : ∀ {n : Nat}, laA σ r k n = none → ∀ j, j < n → ¬ (j < os_n σ 11 ∧ aR σ j = r ∧ os_g σ 11 2 j = k)
  | 0, _, j, h => absurd h (by omega)
  | n + 1, h, j, hj => by
    rw [laA] at h
    split at h
    · cases h
    · rename_i hc
      by_cases e : j = n
      · subst e; exact hc
      · exact laA_none h j (by omega)
theorem mla_some {τ : os_S} {x k : Int32} {u : Nat} : ∀ {n : Nat}, mla τ x k n = some u → u < n ∧ (os_g τ 33 u 0 = x ∧ os_g τ 34 u 0 = k) ∧ ∀ j, u < j → j < n → ¬ (os_g τ 33 j 0 = x ∧ os_g τ 34 j 0 = k)
  | 0, h => by cases h
  | n + 1, h => by
    rw [mla] at h
    split at h
    · rename_i hc
      cases h
      exact ⟨by omega, hc, fun j h1 h2 => absurd h1 (by omega)⟩
    · rename_i hc
      obtain ⟨a, b, c⟩ := mla_some h
      refine ⟨by omega, b, fun j h1 h2 => ?_⟩
      by_cases e : j = n
      · subst e; exact hc
      · exact c j h1 (by omega)
theorem mla_none {τ : os_S} {x k : Int32} : ∀ {n : Nat}, mla τ x k n = none → ∀ j, j < n → ¬ (os_g τ 33 j 0 = x ∧ os_g τ 34 j 0 = k)
  | 0, _, j, h => absurd h (by omega)
  | n + 1, h, j, hj => by
    rw [mla] at h
    split at h
    · cases h
    · rename_i hc
      by_cases e : j = n
      · subst e; exact hc
      · exact mla_none h j (by omega)
section
variable {z t nP : Nat} {σ τ : os_S}
theorem Rel0.a_iff (h : Rel0 z t nP σ τ) {i a j : Nat} (hi : i < 8) (hj : j < os_n σ 11) : (os_g τ 33 j 0 = nI i ∧ os_g τ 34 j 0 = nI a) ↔ (j < os_n σ 11 ∧ aR σ j = i ∧ os_g σ 11 2 j = nI a) := by
  have e := h.A hj
  have h9 := h.n9
  have e9 := e.2.2.2.2.2.2.2.2.2.1
  rw [e.2.1, ← e.2.2.1, nI_eq (by omega) (by omega)]
  exact ⟨fun ⟨a, b⟩ => ⟨hj, a, b⟩, fun ⟨_, a, b⟩ => ⟨a, b⟩⟩
theorem Rel0.la (h : Rel0 z t nP σ τ) {i a : Nat} (hi : i < 8) : laA σ i (nI a) 40 = mla τ (nI i) (nI a) (os_n σ 11) := by
  have h11 := h.n11
  cases e1 : laA σ i (nI a) 40 with
  | none =>
    cases e2 : mla τ (nI i) (nI a) (os_n σ 11) with
    | none => rfl
    | some u =>
      obtain ⟨b1, b2, b3⟩ := mla_some e2
      exact absurd ((h.a_iff hi b1).mp b2) (laA_none e1 u (by omega))
  | some u =>
    obtain ⟨a1, a2, a3⟩ := laA_some e1
    have a4 := a2.1
    cases e2 : mla τ (nI i) (nI a) (os_n σ 11) with
    | none => exact absurd ((h.a_iff hi a4).mpr a2) (mla_none e2 u a4)
    | some w =>
      obtain ⟨b1, b2, b3⟩ := mla_some e2
      by_cases g1 : u < w
      · exact absurd ((h.a_iff hi b1).mp b2) (a3 w g1 (by omega))
      · by_cases g2 : w < u
        · exact absurd ((h.a_iff hi a4).mpr a2) (b3 u g2 a4)
        · rw [show u = w from by omega]
theorem Rel0.jn (h : Rel0 z t nP σ τ) {i a : Nat} {b : Bool} (hi : i < 8) : jnA (nfB σ i a b) (os_n σ 10) i = mjn τ (nI i) (nI a) := by
  have eal : iN (os_g τ 13 24 0) = os_n σ 11 := by rw [h.C.2.2.2.2.2.2.2.2.1, iN9 (by have := h.n11; omega)]
  have e0 : os_g (nfB σ i a b) 10 2 (os_n σ 10) = nI a := by simp [nfB, fNew, os_g_sg, os_g_sr]
  have e1 : ∀ n, laA (nfB σ i a b) i (nI a) n = laA σ i (nI a) n := by
    intro n
    induction n with
    | zero => rfl
    | succ n ih =>
      rw [laA, laA, ih]
      have w1 : os_n (nfB σ i a b) 11 = os_n σ 11 := rfl
      have w2 : aR (nfB σ i a b) n = aR σ n := by unfold aR; simp [nfB, fNew, os_r_sg, os_r_sr, os_r_nw]
      have w3 : os_g (nfB σ i a b) 11 2 n = os_g σ 11 2 n := by simp [nfB, fNew, os_g_sg, os_g_sr, os_g_nw]
      rw [w1, w2, w3]
  unfold jnA mjn
  rw [e0, e1, h.la hi, eal]
  cases e2 : mla τ (nI i) (nI a) (os_n σ 11) with
  | none => rfl
  | some u =>
    obtain ⟨b1, -, -⟩ := mla_some e2
    have e := h.A b1
    have w2 : aL (nfB σ i a b) u = aL σ u := by unfold aL; simp [nfB, fNew, os_r_sg, os_r_sr, os_r_nw]
    have w3 : aL σ u ≠ os_n σ 10 := by have := e.2.2.2.2.2.2.2.2.2.2.1; omega
    have w4 : os_g (nfB σ i a b) 10 3 (aL (nfB σ i a b) u) = os_g τ 39 u 0 := by rw [w2, e.2.2.2.2.2.2.2.1]; simp [nfB, fNew, os_g_sg, os_g_sr, os_g_nw, w3]
    have w5 : os_g (nfB σ i a b) 0 10 0 = os_g τ 13 1 0 := by rw [h.C.2.2.2.2.1, ← h.C.2.2.2.1]; rfl
    simp only
    rw [w4, w5]
theorem Rel0.mjn_K (h : Rel0 z t nP σ τ) {i a : Nat} {b : Bool} (hi : i < 8) (ha : a < 8) (hn : os_n σ 10 < 40) : mjn (mcR (mc0 τ (nI i) (nI a) b) (nI i) (nI a) (os_n σ 10 + 1)) (nI i) (nI a) = mjn τ (nI i) (nI a) := by
  have e1 : ∀ n, mla (mcR (mc0 τ (nI i) (nI a) b) (nI i) (nI a) (os_n σ 10 + 1)) (nI i) (nI a) n = mla τ (nI i) (nI a) n := by
    intro n
    induction n with
    | zero => rfl
    | succ n ih =>
      rw [mla, mla, ih]
      rw [mcR_g (by decide), mcR_g (by decide), mc0_K (by decide), mc0_K (by decide)]
  have e2 : os_g (mcR (mc0 τ (nI i) (nI a) b) (nI i) (nI a) (os_n σ 10 + 1)) 13 24 0 = os_g τ 13 24 0 := (mcR_g (by decide)).trans rfl
  have e3 : os_g (mcR (mc0 τ (nI i) (nI a) b) (nI i) (nI a) (os_n σ 10 + 1)) 13 1 0 = os_g τ 13 1 0 := (mcR_g (by decide)).trans rfl
  unfold mjn
  rw [e1, e2, e3]
  cases e4 : mla τ (nI i) (nI a) (iN (os_g τ 13 24 0)) with
  | none => rfl
  | some u => simp only; rw [mcR_g (by decide), mc0_K (by decide)]
/-- a new fault, in both -/
theorem Rel0.nf (h : Rel0 z t nP σ τ) {i a : Nat} {b : Bool} (hi : i < os_n σ 9) (ha : a < 8) (hn : os_n σ 10 < 40) : Rel0 z t nP (nfS σ i a b) (mcm τ (nI i) (nI a) b) ∧ os_g (nfS σ i a b) 10 0 (os_n σ 10) = nI (os_n σ 10 + 1) ∧ iN (os_g τ 13 13 0) = os_n σ 10 := by
  have h9 := h.n9
  have hle := h.C.2.2.2.2.2.2.2.2.2.2.2.2
  have ef : iN (os_g τ 13 13 0) = os_n σ 10 := by rw [h.C.2.2.2.2.2.2.2.1, iN9 (by omega)]
  have eal : iN (os_g τ 13 24 0) = os_n σ 11 := by rw [h.C.2.2.2.2.2.2.2.2.1, iN9 (by omega)]
  have e24 : iN (os_g (mcR (mc0 τ (nI i) (nI a) b) (nI i) (nI a) (os_n σ 10 + 1)) 13 24 0) = os_n σ 11 := by rw [mcR_al]; exact eal
  have e1 := h.mjn_K (i := i) (a := a) (b := b) (by omega) ha hn
  have key : Rel0 z t nP (nfS σ i a b) (mcm τ (nI i) (nI a) b) := by
    unfold mcm maS mal nfS
    rw [ef, h.jn (by omega), e1]
    cases e2 : mjn τ (nI i) (nI a) with
    | none =>
      simp only
      rw [e24]
      exact h.newA hi ha hn (by omega)
    | some u =>
      simp only
      have := mjn_lt e2
      exact h.join hi ha hn (by omega)
  refine ⟨key, ?_, ef⟩
  have h3 : os_n σ 10 < os_n (nfS σ i a b) 10 := by
    unfold nfS
    split
    · unfold nfN; rw [rSuf_n]; exact Nat.lt_succ_self _
    · unfold nfJ; rw [rSuf_n]; exact Nat.lt_succ_self _
  exact (key.F h3).1
end
/-! WHAT A NEW FAULT KEEPS -/
theorem nfB_rr {σ : os_S} {i a K j u : Nat} {b : Bool} (h : K ≠ 5 ∧ K ≠ 10) : os_r (nfB σ i a b) K j u = os_r σ K j u := by simp [nfB, fNew, os_r_sg, os_r_sr, os_r_nw, h]
theorem nfS_r {σ : os_S} {i a K j u : Nat} {b : Bool} (h : K ≠ 5 ∧ K ≠ 10 ∧ K ≠ 6 ∧ K ≠ 11) : os_r (nfS σ i a b) K j u = os_r σ K j u := by
  unfold nfS
  split
  · simp [nfN, rSuf_r, aNew, os_r_sg, os_r_sr, os_r_nw, h, nfB_rr]
  · simp [nfJ, rSuf_r, aJoin, os_r_sg, os_r_sr, os_r_nw, h, nfB_rr]
theorem nfS_g {σ : os_S} {i a K j u : Nat} {b : Bool} (h : K ≠ 9 ∧ K ≠ 10 ∧ K ≠ 11) (h0 : ¬ (K = 0 ∧ (j = 7 ∨ j = 8))) : os_g (nfS σ i a b) K j u = os_g σ K j u := by
  have e7 : ¬ (K = 0 ∧ j = 7 ∧ u = 0) := fun w => h0 ⟨w.1, Or.inl w.2.1⟩
  have e8 : ¬ (K = 0 ∧ j = 8 ∧ u = 0) := fun w => h0 ⟨w.1, Or.inr w.2.1⟩
  unfold nfS
  split
  · simp [nfN, rSuf_g, aNew, nfB, fNew, os_g_sg, os_g_sr, os_g_nw, h, e7, e8]
  · simp [nfJ, rSuf_g, aJoin, nfB, fNew, os_g_sg, os_g_sr, os_g_nw, h, e7, e8]
theorem nfS_n {σ : os_S} {i a K : Nat} {b : Bool} (h : K ≠ 10 ∧ K ≠ 11) : os_n (nfS σ i a b) K = os_n σ K := by
  unfold nfS
  split
  · simp [nfN, rSuf_n, aNew, nfB, fNew, os_n_sg, os_n_sr, os_n_nw, h]
  · simp [nfJ, rSuf_n, aJoin, nfB, fNew, os_n_sg, os_n_sr, os_n_nw, h]
theorem nfS_l {σ : os_S} {i a K j : Nat} {b : Bool} (h : K ≠ 10 ∧ K ≠ 11) : os_l (nfS σ i a b) K j = os_l σ K j := by
  unfold nfS
  split
  · simp [nfN, rSuf_l, aNew, nfB, fNew, os_l_sg, os_l_sr, os_l_nw, h]
  · simp [nfJ, rSuf_l, aJoin, nfB, fNew, os_l_sg, os_l_sr, os_l_nw, h]
theorem cuM_nfS {σ : os_S} {i a : Nat} {b : Bool} : cuM (nfS σ i a b) = cuM σ := cuM_ext fun K hK => ⟨nfS_n (by omega), fun _ => nfS_l (by omega), fun _ _ => nfS_g (by omega) (by omega), fun _ _ => nfS_r (by omega)⟩
theorem pR_nfS {σ : os_S} {i a p : Nat} {b : Bool} : pR (nfS σ i a b) p = pR σ p := by unfold pR; rw [nfS_r (by decide)]
theorem cuC_mcR {τ : os_S} {x k : Int32} {f : Nat} : cuC (mcR τ x k f) = cuC τ := by
  unfold mcR; simp only; (repeat' split) <;> simp [cuC_sg]
theorem cuC_maS {τ : os_S} {x k : Int32} : cuC (maS τ x k) = cuC τ := by
  unfold maS; split
  · unfold maN; simp [cuC_sg]
  · rfl
theorem cuC_mcm {τ : os_S} {x k : Int32} {b : Bool} : cuC (mcm τ x k b) = cuC τ := by
  unfold mcm mc9
  simp only [cuC_sg (show 13 ≤ 27 from by decide), cuC_sg (show 13 ≤ 37 from by decide), cuC_sg (show 13 ≤ 38 from by decide), cuC_sg (show 13 ≤ 39 from by decide), cuC_sg (show 13 ≤ 40 from by decide), cuC_maS, cuC_mcR]
  unfold mc0
  simp [cuC_sg]
theorem mcm_4 {τ : os_S} {x k : Int32} {b : Bool} {K j : Nat} (h : 40 < K) : os_g (mcm τ x k b) K j 0 = os_g τ K j 0 := by
  unfold mcm mc9
  have e : ∀ n, n ≤ 40 → K ≠ n := fun n hn => by omega
  simp [os_g_sg, e]
  rw [maS_g (by omega) (by omega), mcR_g (by omega)]
  simp [mc0, os_g_sg, e]
section
variable {z t nP : Nat} {σ τ : os_S}
theorem eP.nf {i a : Nat} {b : Bool} {x k : Int32} (h : eP σ τ t nP) : eP (nfS σ i a b) (mcm τ x k b) t nP := by
  obtain ⟨h1, h2⟩ := h
  refine ⟨fun j hj => ?_, fun j h3 h4 => by rw [nfS_r (by decide)]; exact h2 j h3 h4⟩
  obtain ⟨p, w1, ⟨w2, w3, w4, w5, w6, w7, w8⟩, w9⟩ := h1 j hj
  refine ⟨p, by rw [nfS_r (by decide)]; exact w1, ⟨?_, ?_, ?_, ?_, ?_, ?_, ?_⟩, ?_⟩
  · rw [nfS_n (by decide)]; exact w2
  · rw [nfS_r (by decide), pR_nfS]; exact w3
  · rw [nfS_n (by decide), pR_nfS]; exact w4
  · rw [nfS_g (by decide) (by decide)]; exact w5
  · rw [mcm_4 (by decide), pR_nfS]; exact w6
  · rw [mcm_4 (by decide), nfS_g (by decide) (by decide)]; exact w7
  · rw [mcm_4 (by decide), nfS_g (by decide) (by decide)]; exact w8
  · rw [nfS_g (by decide) (by decide)]; exact w9
theorem rmF_iff (h : Rel0 z t nP σ τ) : rmF σ = true ↔ os_n σ 10 < 40 := by
  unfold rmF
  rw [decide_eq_true_iff, show os_g σ 0 7 0 = nI (os_n σ 10) from h.2.2.2.1.1.2.1, show os_g σ 0 8 0 = nI (os_n σ 11) from h.2.2.2.2.1.1.2.1, show (40 : Int32) = nI 40 from by decide, nI_leI (by decide) (by have := h.n10; omega), nI_leI (by decide) (by have := h.n11; omega)]
  have := h.C.2.2.2.2.2.2.2.2.2.2.2.2
  omega
theorem nlF_iff {i : Nat} {k : Int32} : nlF σ i k = true ↔ k = 2 ∧ os_g σ 9 3 i = -1 := by
  unfold nlF
  rw [Bool.and_eq_true, decide_eq_true_iff, decide_eq_true_iff]
theorem mba_eq (h : Rel0 z t nP σ τ) {i : Nat} {k : Int32} (hi : i < os_n σ 9) : mba τ (nI i) k = if nlF σ i k = true then 3 else if rmF σ = true then 0 else 4 := by
  have e : (os_g τ 13 13 0 = 40) ↔ ¬ rmF σ = true := by
    rw [rmF_iff h, h.C.2.2.2.2.2.2.2.1, show (40 : Int32) = nI 40 from by decide, nI_eq (by have := h.n10; omega) (by decide)]
    have := h.n10
    omega
  unfold mba
  rw [iN9 (by have := h.n9; omega), ← (h.R hi).2.2.2.1]
  by_cases c1 : nlF σ i k = true
  · rw [if_pos c1, if_pos (nlF_iff.mp c1)]
  · rw [if_neg c1, if_neg (fun w => c1 (nlF_iff.mpr w))]
    by_cases c2 : rmF σ = true
    · rw [if_pos c2, if_neg (fun w => e.mp w c2)]
    · rw [if_neg c2, if_pos (e.mpr c2)]
end
section
variable {z t nP i a : Nat} {σ τ σ1 τ1 : os_S} {ad1 ad2 ad3 : Nat → Nat → Nat} {b : Bool} {r r2 : os_O}
theorem ok_come (h : Rel z t nP σ τ) (hi : i < os_n σ 9) (ha : a < 8) (hn : os_n σ 10 < 40) (hq : q_oon σ i a b r σ1 ad1) : Rel z t nP σ1 (mcS τ (nI i) (nI a) b) ∧ os_g (mcS τ (nI i) (nI a) b) 13 0 0 = os_g τ 13 0 0 ∧ r = .inl (some (.int (mcV τ (nI i) (nI a)))) := by
  have h9 := h.n9
  rcases hq with ⟨u, c, rfl, rfl⟩ | ⟨c, rfl, rfl⟩
  · obtain ⟨e1, e2⟩ := mof_some h.zero (by omega) c
    have c2 : ¬ mof τ (nI i) (nI a) ≤ 0 := by rw [e1]; exact nI_nle (by omega) (by have := h.n10; omega)
    unfold mcS mcV
    rw [if_neg c2, if_neg c2, e1]
    exact ⟨h, rfl, by rw [(h.F e2).1]⟩
  · have c2 := (mof_none h.zero (k := nI a) (show i < 8 from by omega)).mpr c
    obtain ⟨k1, k2, k3⟩ := h.zero.nf (b := b) hi ha hn
    unfold mcS mcV
    rw [if_pos c2, if_pos c2]
    exact ⟨k1.rel h.Pl.nf, mcm_13 (by decide), by rw [k2, k3]⟩
end
