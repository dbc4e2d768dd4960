section
variable {z t nP i a t0 : Nat} {σ τ : os_S} {b : Bool}
theorem Rel0.join (h : Rel0 z t nP σ τ) (hi : i < os_n σ 9) (ha : a < 8) (hn : os_n σ 10 < 40) (ht : t0 < os_n σ 11) : Rel0 z t nP (nfJ σ i a b t0) (mc9 (mcR (mc0 τ (nI i) (nI a) b) (nI i) (nI a) (os_n σ 10 + 1)) (os_n σ 10 + 1) t0) := by
  have h9 := h.n9
  have h11 := h.n11
  have ei : iN (nI i) = i := iN9 (by omega)
  have ea : iN (nI a) = a := iN9 (by omega)
  obtain ⟨hA, hM, hR, hF, hL, hC, hK, hK2, hU, hr, h0, hf, h1⟩ := h
  obtain ⟨c1, c2, c3, c4, c5, c6, c7, c8, c9, c10, c11, c12, c13⟩ := hC
  have ef : iN (os_g τ 13 13 0) = os_n σ 10 := by rw [c8, iN9 (by omega)]
  have eal : iN (os_g τ 13 24 0) = os_n σ 11 := by rw [c9, iN9 (by omega)]
  have e6 : os_g σ 0 6 0 = nI (os_n σ 9) := hR.2.1
  have e7 : os_g σ 0 7 0 = nI (os_n σ 10) := hF.1.2.1
  have e8 : os_g σ 0 8 0 = nI (os_n σ 11) := hL.1.2.1
  have ar := hr i hi
  have au := hU a ha
  have e24 : iN (os_g (mcR (mc0 τ (nI i) (nI a) b) (nI i) (nI a) (os_n σ 10 + 1)) 13 24 0) = os_n σ 11 := by rw [mcR_al]; unfold mc0; simp [os_g_sg]; exact eal
  refine ⟨?_, ?_, ?_, ⟨?_, ?_⟩, ⟨?_, ?_, ?_⟩, ?_, ?_, ?_, ?_, ?_, ?_, ?_, ?_⟩
  · unfold nfJ aJoin
    exact ((hA.nB.sr (by decide) (by decide) (by decide)).sg.sg.sg).suf
  · exact MI.c9 (MI.R (MI.c0 hM (by omega))) (by omega)
  · have q := hR
    unfold rfS at q ⊢
    simp [nfJ, nfN, rSuf_n, rSuf_r, rSuf_g, aJoin, aNew, nfB, fNew, os_n_sg, os_n_sr, os_n_nw, os_r_sg, os_r_sr, os_r_nw, os_g_sg, os_g_sr, os_g_nw]
    exact q
  · refine hF.1.up hn ?_ ?_ (fun j => ?_) <;> simp [nfJ, nfN, rSuf_n, rSuf_r, rSuf_g, aJoin, aNew, nfB, fNew, os_n_sg, os_n_sr, os_n_nw, os_r_sg, os_r_sr, os_r_nw, os_g_sg, os_g_sr, os_g_nw]
  · intro i' hi'
    by_cases e : i' = os_n σ 10
    · subst e; simp [fR, nfJ, nfN, rSuf_n, rSuf_r, rSuf_g, aJoin, aNew, nfB, fNew, os_n_sg, os_n_sr, os_n_nw, os_r_sg, os_r_sr, os_r_nw, os_g_sg, os_g_sr, os_g_nw]
    · have q := hf i' (by simp [nfJ, nfN, rSuf_n, rSuf_r, rSuf_g, aJoin, aNew, nfB, fNew, os_n_sg, os_n_sr, os_n_nw, os_r_sg, os_r_sr, os_r_nw, os_g_sg, os_g_sr, os_g_nw] at hi'; omega)
      have q2 := hF.2 i' (by simp [nfJ, nfN, rSuf_n, rSuf_r, rSuf_g, aJoin, aNew, nfB, fNew, os_n_sg, os_n_sr, os_n_nw, os_r_sg, os_r_sr, os_r_nw, os_g_sg, os_g_sr, os_g_nw] at hi'; omega)
      unfold fR at q2 ⊢
      simp [e, nfJ, nfN, rSuf_n, rSuf_r, rSuf_g, aJoin, aNew, nfB, fNew, os_n_sg, os_n_sr, os_n_nw, os_r_sg, os_r_sr, os_r_nw, os_g_sg, os_g_sr, os_g_nw]
      exact q2
  · have q := hL.1
    unfold rfS at q ⊢
    simp [nfJ, nfN, rSuf_n, rSuf_r, rSuf_g, aJoin, aNew, nfB, fNew, os_n_sg, os_n_sr, os_n_nw, os_r_sg, os_r_sr, os_r_nw, os_g_sg, os_g_sr, os_g_nw]
    exact q
  · intro i' hi'
    have q2 := hL.2.1 i' (by simp [nfJ, nfN, rSuf_n, rSuf_r, rSuf_g, aJoin, aNew, nfB, fNew, os_n_sg, os_n_sr, os_n_nw, os_r_sg, os_r_sr, os_r_nw, os_g_sg, os_g_sr, os_g_nw] at hi'; exact hi')
    unfold aR at q2 ⊢
    simp [nfJ, nfN, rSuf_n, rSuf_r, rSuf_g, aJoin, aNew, nfB, fNew, os_n_sg, os_n_sr, os_n_nw, os_r_sg, os_r_sr, os_r_nw, os_g_sg, os_g_sr, os_g_nw]
    exact q2
  · intro i' hi'
    by_cases e : i' = t0
    · subst e; simp [aL, nfJ, nfN, rSuf_n, rSuf_r, rSuf_g, aJoin, aNew, nfB, fNew, os_n_sg, os_n_sr, os_n_nw, os_r_sg, os_r_sr, os_r_nw, os_g_sg, os_g_sr, os_g_nw]
    · have q2 := hL.2.2 i' (by simp [nfJ, nfN, rSuf_n, rSuf_r, rSuf_g, aJoin, aNew, nfB, fNew, os_n_sg, os_n_sr, os_n_nw, os_r_sg, os_r_sr, os_r_nw, os_g_sg, os_g_sr, os_g_nw] at hi'; exact hi')
      unfold aL at q2 ⊢
      simp [e, nfJ, nfN, rSuf_n, rSuf_r, rSuf_g, aJoin, aNew, nfB, fNew, os_n_sg, os_n_sr, os_n_nw, os_r_sg, os_r_sr, os_r_nw, os_g_sg, os_g_sr, os_g_nw]
      exact q2
  · unfold eC
    simp [nfJ, nfN, rSuf_n, rSuf_r, rSuf_g, aJoin, aNew, nfB, fNew, os_n_sg, os_n_sr, os_n_nw, os_r_sg, os_r_sr, os_r_nw, os_g_sg, os_g_sr, os_g_nw, mc9, maN, mc0, mcR_g, mcR_32, os_g_sg, ef, ei, ea]
    refine ⟨c1, c2, c3, c4, c5, c6, c7, by rw [c8, nI_1], c9, c10, c11, c12, by omega⟩
  · unfold eK
    simp [nfJ, nfN, rSuf_n, rSuf_r, rSuf_g, aJoin, aNew, nfB, fNew, os_n_sg, os_n_sr, os_n_nw, os_r_sg, os_r_sr, os_r_nw, os_g_sg, os_g_sr, os_g_nw, mc9, maN, mc0, mcR_g, mcR_32, os_g_sg, ef, ei, ea]
    simp [eK] at hK
    exact hK
  · unfold eK2
    simp [nfJ, nfN, rSuf_n, rSuf_r, rSuf_g, aJoin, aNew, nfB, fNew, os_n_sg, os_n_sr, os_n_nw, os_r_sg, os_r_sr, os_r_nw, os_g_sg, os_g_sr, os_g_nw]
    exact hK2
  · intro k hk
    have q := hU k hk
    unfold eU at q ⊢
    simp [nfJ, nfN, rSuf_n, rSuf_r, rSuf_g, aJoin, aNew, nfB, fNew, os_n_sg, os_n_sr, os_n_nw, os_r_sg, os_r_sr, os_r_nw, os_g_sg, os_g_sr, os_g_nw, mc9, maN, mc0, mcR_g, mcR_32, os_g_sg, ef, ei, ea]
    exact q
  · intro i' hi'
    have q := hr i' (by simp [nfJ, nfN, rSuf_n, rSuf_r, rSuf_g, aJoin, aNew, nfB, fNew, os_n_sg, os_n_sr, os_n_nw, os_r_sg, os_r_sr, os_r_nw, os_g_sg, os_g_sr, os_g_nw] at hi'; exact hi')
    by_cases e : i' = i
    · subst e
      obtain ⟨q0, q1, q2, q3, q4, q5, q6, q7, q8⟩ := q
      unfold eR
      simp only [nfJ, (rSuf_i).1, (rSuf_i).2.1, (rSuf_i).2.2.1, (rSuf_i).2.2.2.1, (rSuf_i).2.2.2.2.1, (rSuf_i).2.2.2.2.2]
      have w1 := (mcR_i (τ := mc0 τ (nI i') (nI a) b) (x := nI i') (k := nI a) (f := os_n σ 10 + 1)).1
      have w2 := (mcR_i (τ := mc0 τ (nI i') (nI a) b) (x := nI i') (k := nI a) (f := os_n σ 10 + 1)).2.1
      have w3 := (mcR_i (τ := mc0 τ (nI i') (nI a) b) (x := nI i') (k := nI a) (f := os_n σ 10 + 1)).2.2.1
      have w4 := (mcR_i (τ := mc0 τ (nI i') (nI a) b) (x := nI i') (k := nI a) (f := os_n σ 10 + 1)).2.2.2
      rw [ei] at w1 w2 w3 w4
      rw [ea] at w3
      have v1 : os_g (mc0 τ (nI i') (nI a) b) 17 i' 0 = os_g τ 17 i' 0 := mc0_K (by decide)
      have v2 : os_g (mc0 τ (nI i') (nI a) b) 16 i' 0 = os_g τ 16 i' 0 := mc0_K (by decide)
      have v3 : os_g (mc0 τ (nI i') (nI a) b) 18 i' 0 = os_g τ 18 i' 0 := mc0_K (by decide)
      have v4 : os_g (mc0 τ (nI i') (nI a) b) 19 i' 0 = os_g τ 19 i' 0 := mc0_K (by decide)
      have v5 : os_g (mc0 τ (nI i') (nI a) b) 21 a 0 = os_g τ 21 a 0 := mc0_K (by decide)
      have v6 : os_g (mc0 τ (nI i') (nI a) b) 13 1 0 = os_g τ 13 1 0 := rfl
      have v7 : os_g (mcR (mc0 τ (nI i') (nI a) b) (nI i') (nI a) (os_n σ 10 + 1)) 15 i' 0 = os_g τ 15 i' 0 := (mcR_g (by decide)).trans (mc0_K (by decide))
      rw [v1] at w1
      rw [v2] at w2
      rw [v5, v3] at w3
      rw [v4, v6] at w4
      simp [nfJ, nfN, rSuf_n, rSuf_r, rSuf_g, aJoin, aNew, nfB, fNew, os_n_sg, os_n_sr, os_n_nw, os_r_sg, os_r_sr, os_r_nw, os_g_sg, os_g_sr, os_g_nw, mc9, maN, w1, w2, w3, w4, v7]
      refine ⟨q0, q1, by rw [q2], by rw [q3], ?_, by rw [c4, c5, q5], q6, ?_, ?_⟩
      · rcases au.2.2.2 with u | u
        · rw [← au.2.1, u]; simp; exact q4
        · rw [← au.2.1, u]; simp
      · by_cases u : os_g σ 8 1 a = 1 <;> simp [u]; exact q7
      · by_cases u : nI a = 1
        · simp [u]; exact ⟨t, Nat.le_refl _, c4⟩
        · simp [u]; exact q8
    · unfold eR at q ⊢
      simp [nfJ, nfN, rSuf_n, rSuf_r, rSuf_g, aJoin, aNew, nfB, fNew, os_n_sg, os_n_sr, os_n_nw, os_r_sg, os_r_sr, os_r_nw, os_g_sg, os_g_sr, os_g_nw, e, mc9, maN, os_g_sg, mcR_g, mcR_u, ei, mc0_K]
      exact q
  · intro i' h2 h3
    have q := h0 i' (by simp [nfJ, nfN, rSuf_n, rSuf_r, rSuf_g, aJoin, aNew, nfB, fNew, os_n_sg, os_n_sr, os_n_nw, os_r_sg, os_r_sr, os_r_nw, os_g_sg, os_g_sr, os_g_nw] at h2; exact h2) h3
    have e : i' ≠ i := by simp [nfJ, nfN, rSuf_n, rSuf_r, rSuf_g, aJoin, aNew, nfB, fNew, os_n_sg, os_n_sr, os_n_nw, os_r_sg, os_r_sr, os_r_nw, os_g_sg, os_g_sr, os_g_nw] at h2; omega
    simp [nfJ, nfN, rSuf_n, rSuf_r, rSuf_g, aJoin, aNew, nfB, fNew, os_n_sg, os_n_sr, os_n_nw, os_r_sg, os_r_sr, os_r_nw, os_g_sg, os_g_sr, os_g_nw, e, mc9, maN, os_g_sg, mcR_g, mcR_u, ei, mc0_K]
    exact q
  · intro i' hi'
    by_cases e : i' = os_n σ 10
    · subst e
      unfold eF
      obtain ⟨q0, q1, q2, q3, q4, q5, q6, q7, q8⟩ := ar
      simp [fR, nfJ, nfN, rSuf_n, rSuf_r, rSuf_g, aJoin, aNew, nfB, fNew, os_n_sg, os_n_sr, os_n_nw, os_r_sg, os_r_sr, os_r_nw, os_g_sg, os_g_sr, os_g_nw, mc9, maN, mc0, mcR_g, mcR_32, os_g_sg, ef, ei, ea, mcR_g]
      refine ⟨by rw [e7, nI_1], by rw [c4, c5], ?_, au.1, q1, ?_, hi, ⟨a, ha, rfl⟩, ⟨t, Nat.le_refl _, c4⟩, by cases b <;> simp [bz], ⟨0, by omega, rfl⟩⟩
      · exact (h1 t0 ht).1
      · by_cases u : nI a = 2
        · simp [u]; exact q3
        · simp [u]
    · have q := hf i' (by simp [nfJ, nfN, rSuf_n, rSuf_r, rSuf_g, aJoin, aNew, nfB, fNew, os_n_sg, os_n_sr, os_n_nw, os_r_sg, os_r_sr, os_r_nw, os_g_sg, os_g_sr, os_g_nw] at hi'; omega)
      unfold eF fR at q ⊢
      simp [nfJ, nfN, rSuf_n, rSuf_r, rSuf_g, aJoin, aNew, nfB, fNew, os_n_sg, os_n_sr, os_n_nw, os_r_sg, os_r_sr, os_r_nw, os_g_sg, os_g_sr, os_g_nw, mc9, maN, mc0, mcR_g, mcR_32, os_g_sg, ef, ei, ea, e]
      exact q
  · intro i' hi'
    have q := h1 i' (by simp [nfJ, nfN, rSuf_n, rSuf_r, rSuf_g, aJoin, aNew, nfB, fNew, os_n_sg, os_n_sr, os_n_nw, os_r_sg, os_r_sr, os_r_nw, os_g_sg, os_g_sr, os_g_nw] at hi'; exact hi')
    by_cases e : i' = t0
    · subst e
      obtain ⟨q0, q1, q2, q3, q4, q5, q6, q7, q8, q9, q10, q11⟩ := q
      unfold eA
      simp [nfJ, nfN, rSuf_n, rSuf_r, rSuf_g, aJoin, aNew, nfB, fNew, os_n_sg, os_n_sr, os_n_nw, os_r_sg, os_r_sr, os_r_nw, os_g_sg, os_g_sr, os_g_nw, mc9, maN, mc0, mcR_g, mcR_32, os_g_sg, ef, ei, ea, aL, aR]
      exact ⟨q0, q1, q2, q3, q4, q5, by rw [c4, c5], q9, q11⟩
    · obtain ⟨q0, q1, q2, q3, q4, q5, q6, q7, q8, q9, q10, q11⟩ := q
      have el : aL σ i' ≠ os_n σ 10 := by omega
      unfold eA
      unfold aL at *
      unfold aR at *
      simp [nfJ, nfN, rSuf_n, rSuf_r, rSuf_g, aJoin, aNew, nfB, fNew, os_n_sg, os_n_sr, os_n_nw, os_r_sg, os_r_sr, os_r_nw, os_g_sg, os_g_sr, os_g_nw, mc9, maN, mc0, mcR_g, mcR_32, os_g_sg, ef, ei, ea, e, el]
      exact ⟨q0, q1, q2, q3, q4, q5, q6, q7, q8, q9, by omega, q11⟩
theorem Rel0.newA (h : Rel0 z t nP σ τ) (hi : i < os_n σ 9) (ha : a < 8) (hn : os_n σ 10 < 40) (ht : os_n σ 11 < 40) : Rel0 z t nP (nfN σ i a b) (mc9 (maN (mcR (mc0 τ (nI i) (nI a) b) (nI i) (nI a) (os_n σ 10 + 1)) (nI i) (nI a)) (os_n σ 10 + 1) (os_n σ 11)) := by
  have h9 := h.n9
  have h11 := h.n11
  have ei : iN (nI i) = i := iN9 (by omega)
  have ea : iN (nI a) = a := iN9 (by omega)
  obtain ⟨hA, hM, hR, hF, hL, hC, hK, hK2, hU, hr, h0, hf, h1⟩ := h
  obtain ⟨c1, c2, c3, c4, c5, c6, c7, c8, c9, c10, c11, c12, c13⟩ := hC
  have ef : iN (os_g τ 13 13 0) = os_n σ 10 := by rw [c8, iN9 (by omega)]
  have eal : iN (os_g τ 13 24 0) = os_n σ 11 := by rw [c9, iN9 (by omega)]
  have e6 : os_g σ 0 6 0 = nI (os_n σ 9) := hR.2.1
  have e7 : os_g σ 0 7 0 = nI (os_n σ 10) := hF.1.2.1
  have e8 : os_g σ 0 8 0 = nI (os_n σ 11) := hL.1.2.1
  have ar := hr i hi
  have au := hU a ha
  have e24 : iN (os_g (mcR (mc0 τ (nI i) (nI a) b) (nI i) (nI a) (os_n σ 10 + 1)) 13 24 0) = os_n σ 11 := by rw [mcR_al]; unfold mc0; simp [os_g_sg]; exact eal
  refine ⟨?_, ?_, ?_, ⟨?_, ?_⟩, ⟨?_, ?_, ?_⟩, ?_, ?_, ?_, ?_, ?_, ?_, ?_, ?_⟩
  · unfold nfN aNew
    exact (((((((hA.nB.nw (K := 11) (L := 0) (by decide)).sg.sg.sg.sg).sr (by decide) (by decide) (by decide)).sg.sg).sr (by decide) (by decide) (by decide)).sr (by decide) (by decide) (by decide)).sg.sg).suf
  · exact MI.c9 (MI.N (MI.R (MI.c0 hM (by omega))) (by rw [e24]; exact ht)) (by omega)
  · have q := hR
    unfold rfS at q ⊢
    simp [nfJ, nfN, rSuf_n, rSuf_r, rSuf_g, aJoin, aNew, nfB, fNew, os_n_sg, os_n_sr, os_n_nw, os_r_sg, os_r_sr, os_r_nw, os_g_sg, os_g_sr, os_g_nw]
    exact q
  · refine hF.1.up hn ?_ ?_ (fun j => ?_) <;> simp [nfJ, nfN, rSuf_n, rSuf_r, rSuf_g, aJoin, aNew, nfB, fNew, os_n_sg, os_n_sr, os_n_nw, os_r_sg, os_r_sr, os_r_nw, os_g_sg, os_g_sr, os_g_nw]
  · intro i' hi'
    by_cases e : i' = os_n σ 10
    · subst e; simp [fR, nfJ, nfN, rSuf_n, rSuf_r, rSuf_g, aJoin, aNew, nfB, fNew, os_n_sg, os_n_sr, os_n_nw, os_r_sg, os_r_sr, os_r_nw, os_g_sg, os_g_sr, os_g_nw]
    · have q := hf i' (by simp [nfJ, nfN, rSuf_n, rSuf_r, rSuf_g, aJoin, aNew, nfB, fNew, os_n_sg, os_n_sr, os_n_nw, os_r_sg, os_r_sr, os_r_nw, os_g_sg, os_g_sr, os_g_nw] at hi'; omega)
      have q2 := hF.2 i' (by simp [nfJ, nfN, rSuf_n, rSuf_r, rSuf_g, aJoin, aNew, nfB, fNew, os_n_sg, os_n_sr, os_n_nw, os_r_sg, os_r_sr, os_r_nw, os_g_sg, os_g_sr, os_g_nw] at hi'; omega)
      unfold fR at q2 ⊢
      simp [e, nfJ, nfN, rSuf_n, rSuf_r, rSuf_g, aJoin, aNew, nfB, fNew, os_n_sg, os_n_sr, os_n_nw, os_r_sg, os_r_sr, os_r_nw, os_g_sg, os_g_sr, os_g_nw]
      exact q2
  · refine hL.1.up ht ?_ ?_ (fun j => ?_) <;> simp [nfJ, nfN, rSuf_n, rSuf_r, rSuf_g, aJoin, aNew, nfB, fNew, os_n_sg, os_n_sr, os_n_nw, os_r_sg, os_r_sr, os_r_nw, os_g_sg, os_g_sr, os_g_nw]
  · intro i' hi'
    by_cases e : i' = os_n σ 11
    · subst e; simp [aR, nfJ, nfN, rSuf_n, rSuf_r, rSuf_g, aJoin, aNew, nfB, fNew, os_n_sg, os_n_sr, os_n_nw, os_r_sg, os_r_sr, os_r_nw, os_g_sg, os_g_sr, os_g_nw]
    · have q2 := hL.2.1 i' (by simp [nfJ, nfN, rSuf_n, rSuf_r, rSuf_g, aJoin, aNew, nfB, fNew, os_n_sg, os_n_sr, os_n_nw, os_r_sg, os_r_sr, os_r_nw, os_g_sg, os_g_sr, os_g_nw] at hi'; omega)
      unfold aR at q2 ⊢
      simp [e, nfJ, nfN, rSuf_n, rSuf_r, rSuf_g, aJoin, aNew, nfB, fNew, os_n_sg, os_n_sr, os_n_nw, os_r_sg, os_r_sr, os_r_nw, os_g_sg, os_g_sr, os_g_nw]
      exact q2
  · intro i' hi'
    by_cases e : i' = os_n σ 11
    · subst e; simp [aL, nfJ, nfN, rSuf_n, rSuf_r, rSuf_g, aJoin, aNew, nfB, fNew, os_n_sg, os_n_sr, os_n_nw, os_r_sg, os_r_sr, os_r_nw, os_g_sg, os_g_sr, os_g_nw]
    · have q2 := hL.2.2 i' (by simp [nfJ, nfN, rSuf_n, rSuf_r, rSuf_g, aJoin, aNew, nfB, fNew, os_n_sg, os_n_sr, os_n_nw, os_r_sg, os_r_sr, os_r_nw, os_g_sg, os_g_sr, os_g_nw] at hi'; omega)
      unfold aL at q2 ⊢
      simp [e, nfJ, nfN, rSuf_n, rSuf_r, rSuf_g, aJoin, aNew, nfB, fNew, os_n_sg, os_n_sr, os_n_nw, os_r_sg, os_r_sr, os_r_nw, os_g_sg, os_g_sr, os_g_nw]
      exact q2
  · unfold eC
    simp [nfJ, nfN, rSuf_n, rSuf_r, rSuf_g, aJoin, aNew, nfB, fNew, os_n_sg, os_n_sr, os_n_nw, os_r_sg, os_r_sr, os_r_nw, os_g_sg, os_g_sr, os_g_nw, mc9, maN, mc0, mcR_g, mcR_32, os_g_sg, ef, ei, ea, eal]
    refine ⟨c1, c2, c3, c4, c5, c6, c7, by rw [c8, nI_1], by rw [c9, nI_1], c10, c11, c12, by omega⟩
  · unfold eK
    simp [nfJ, nfN, rSuf_n, rSuf_r, rSuf_g, aJoin, aNew, nfB, fNew, os_n_sg, os_n_sr, os_n_nw, os_r_sg, os_r_sr, os_r_nw, os_g_sg, os_g_sr, os_g_nw, mc9, maN, mc0, mcR_g, mcR_32, os_g_sg, ef, ei, ea]
    simp [eK] at hK
    exact hK
  · unfold eK2
    simp [nfJ, nfN, rSuf_n, rSuf_r, rSuf_g, aJoin, aNew, nfB, fNew, os_n_sg, os_n_sr, os_n_nw, os_r_sg, os_r_sr, os_r_nw, os_g_sg, os_g_sr, os_g_nw]
    exact hK2
  · intro k hk
    have q := hU k hk
    unfold eU at q ⊢
    simp [nfJ, nfN, rSuf_n, rSuf_r, rSuf_g, aJoin, aNew, nfB, fNew, os_n_sg, os_n_sr, os_n_nw, os_r_sg, os_r_sr, os_r_nw, os_g_sg, os_g_sr, os_g_nw, mc9, maN, mc0, mcR_g, mcR_32, os_g_sg, ef, ei, ea]
    exact q
  · intro i' hi'
    have q := hr i' (by simp [nfJ, nfN, rSuf_n, rSuf_r, rSuf_g, aJoin, aNew, nfB, fNew, os_n_sg, os_n_sr, os_n_nw, os_r_sg, os_r_sr, os_r_nw, os_g_sg, os_g_sr, os_g_nw] at hi'; exact hi')
    by_cases e : i' = i
    · subst e
      obtain ⟨q0, q1, q2, q3, q4, q5, q6, q7, q8⟩ := q
      unfold eR
      simp only [nfN, (rSuf_i).1, (rSuf_i).2.1, (rSuf_i).2.2.1, (rSuf_i).2.2.2.1, (rSuf_i).2.2.2.2.1, (rSuf_i).2.2.2.2.2]
      have w1 := (mcR_i (τ := mc0 τ (nI i') (nI a) b) (x := nI i') (k := nI a) (f := os_n σ 10 + 1)).1
      have w2 := (mcR_i (τ := mc0 τ (nI i') (nI a) b) (x := nI i') (k := nI a) (f := os_n σ 10 + 1)).2.1
      have w3 := (mcR_i (τ := mc0 τ (nI i') (nI a) b) (x := nI i') (k := nI a) (f := os_n σ 10 + 1)).2.2.1
      have w4 := (mcR_i (τ := mc0 τ (nI i') (nI a) b) (x := nI i') (k := nI a) (f := os_n σ 10 + 1)).2.2.2
      rw [ei] at w1 w2 w3 w4
      rw [ea] at w3
      have v1 : os_g (mc0 τ (nI i') (nI a) b) 17 i' 0 = os_g τ 17 i' 0 := mc0_K (by decide)
      have v2 : os_g (mc0 τ (nI i') (nI a) b) 16 i' 0 = os_g τ 16 i' 0 := mc0_K (by decide)
      have v3 : os_g (mc0 τ (nI i') (nI a) b) 18 i' 0 = os_g τ 18 i' 0 := mc0_K (by decide)
      have v4 : os_g (mc0 τ (nI i') (nI a) b) 19 i' 0 = os_g τ 19 i' 0 := mc0_K (by decide)
      have v5 : os_g (mc0 τ (nI i') (nI a) b) 21 a 0 = os_g τ 21 a 0 := mc0_K (by decide)
      have v6 : os_g (mc0 τ (nI i') (nI a) b) 13 1 0 = os_g τ 13 1 0 := rfl
      have v7 : os_g (mcR (mc0 τ (nI i') (nI a) b) (nI i') (nI a) (os_n σ 10 + 1)) 15 i' 0 = os_g τ 15 i' 0 := (mcR_g (by decide)).trans (mc0_K (by decide))
      rw [v1] at w1
      rw [v2] at w2
      rw [v5, v3] at w3
      rw [v4, v6] at w4
      simp [nfJ, nfN, rSuf_n, rSuf_r, rSuf_g, aJoin, aNew, nfB, fNew, os_n_sg, os_n_sr, os_n_nw, os_r_sg, os_r_sr, os_r_nw, os_g_sg, os_g_sr, os_g_nw, mc9, maN, w1, w2, w3, w4, v7]
      refine ⟨q0, q1, by rw [q2], by rw [q3], ?_, by rw [c4, c5, q5], q6, ?_, ?_⟩
      · rcases au.2.2.2 with u | u
        · rw [← au.2.1, u]; simp; exact q4
        · rw [← au.2.1, u]; simp
      · by_cases u : os_g σ 8 1 a = 1 <;> simp [u]; exact q7
      · by_cases u : nI a = 1
        · simp [u]; exact ⟨t, Nat.le_refl _, c4⟩
        · simp [u]; exact q8
    · unfold eR at q ⊢
      simp [nfJ, nfN, rSuf_n, rSuf_r, rSuf_g, aJoin, aNew, nfB, fNew, os_n_sg, os_n_sr, os_n_nw, os_r_sg, os_r_sr, os_r_nw, os_g_sg, os_g_sr, os_g_nw, e, mc9, maN, os_g_sg, mcR_g, mcR_u, ei, mc0_K]
      exact q
  · intro i' h2 h3
    have q := h0 i' (by simp [nfJ, nfN, rSuf_n, rSuf_r, rSuf_g, aJoin, aNew, nfB, fNew, os_n_sg, os_n_sr, os_n_nw, os_r_sg, os_r_sr, os_r_nw, os_g_sg, os_g_sr, os_g_nw] at h2; exact h2) h3
    have e : i' ≠ i := by simp [nfJ, nfN, rSuf_n, rSuf_r, rSuf_g, aJoin, aNew, nfB, fNew, os_n_sg, os_n_sr, os_n_nw, os_r_sg, os_r_sr, os_r_nw, os_g_sg, os_g_sr, os_g_nw] at h2; omega
    simp [nfJ, nfN, rSuf_n, rSuf_r, rSuf_g, aJoin, aNew, nfB, fNew, os_n_sg, os_n_sr, os_n_nw, os_r_sg, os_r_sr, os_r_nw, os_g_sg, os_g_sr, os_g_nw, e, mc9, maN, os_g_sg, mcR_g, mcR_u, ei, mc0_K]
    exact q
  · intro i' hi'
    by_cases e : i' = os_n σ 10
    · subst e
      unfold eF
      obtain ⟨q0, q1, q2, q3, q4, q5, q6, q7, q8⟩ := ar
      simp [fR, nfJ, nfN, rSuf_n, rSuf_r, rSuf_g, aJoin, aNew, nfB, fNew, os_n_sg, os_n_sr, os_n_nw, os_r_sg, os_r_sr, os_r_nw, os_g_sg, os_g_sr, os_g_nw, mc9, maN, mc0, mcR_g, mcR_32, os_g_sg, ef, ei, ea, mcR_g, eal]
      refine ⟨by rw [e7, nI_1], by rw [c4, c5], ?_, au.1, q1, ?_, hi, ⟨a, ha, rfl⟩, ⟨t, Nat.le_refl _, c4⟩, by cases b <;> simp [bz], ⟨0, by omega, rfl⟩⟩
      · exact e8
      · by_cases u : nI a = 2
        · simp [u]; exact q3
        · simp [u]
    · have q := hf i' (by simp [nfJ, nfN, rSuf_n, rSuf_r, rSuf_g, aJoin, aNew, nfB, fNew, os_n_sg, os_n_sr, os_n_nw, os_r_sg, os_r_sr, os_r_nw, os_g_sg, os_g_sr, os_g_nw] at hi'; omega)
      unfold eF fR at q ⊢
      simp [nfJ, nfN, rSuf_n, rSuf_r, rSuf_g, aJoin, aNew, nfB, fNew, os_n_sg, os_n_sr, os_n_nw, os_r_sg, os_r_sr, os_r_nw, os_g_sg, os_g_sr, os_g_nw, mc9, maN, mc0, mcR_g, mcR_32, os_g_sg, ef, ei, ea, e]
      exact q
  · intro i' hi'
    by_cases e : i' = os_n σ 11
    · subst e
      unfold eA
      simp [nfJ, nfN, rSuf_n, rSuf_r, rSuf_g, aJoin, aNew, nfB, fNew, os_n_sg, os_n_sr, os_n_nw, os_r_sg, os_r_sr, os_r_nw, os_g_sg, os_g_sr, os_g_nw, mc9, maN, mc0, mcR_g, mcR_32, os_g_sg, ef, ei, ea, eal, aL, aR]
      exact ⟨e8, au.2.2.1, by rw [c4, c5], hi, ⟨0, by omega, rfl⟩⟩
    · obtain ⟨q0, q1, q2, q3, q4, q5, q6, q7, q8, q9, q10, q11⟩ := h1 i' (by simp [nfJ, nfN, rSuf_n, rSuf_r, rSuf_g, aJoin, aNew, nfB, fNew, os_n_sg, os_n_sr, os_n_nw, os_r_sg, os_r_sr, os_r_nw, os_g_sg, os_g_sr, os_g_nw] at hi'; omega)
      have el : aL σ i' ≠ os_n σ 10 := by omega
      unfold eA
      unfold aL at *
      unfold aR at *
      simp [nfJ, nfN, rSuf_n, rSuf_r, rSuf_g, aJoin, aNew, nfB, fNew, os_n_sg, os_n_sr, os_n_nw, os_r_sg, os_r_sr, os_r_nw, os_g_sg, os_g_sr, os_g_nw, mc9, maN, mc0, mcR_g, mcR_32, os_g_sg, ef, ei, ea, eal, e, el]
      exact ⟨q0, q1, q2, q3, q4, q5, q6, q7, q8, q9, by omega, q11⟩
end
