/-! A NEW FAULT, CLASS AND REFERENCE -/
theorem rSuf_n {σ : os_S} {i : Nat} {k t : Int32} {b : Bool} {K : Nat} : os_n (rSuf σ i k t b) K = os_n σ K := by unfold rSuf; simp only; (repeat' split) <;> rfl
theorem rSuf_l {σ : os_S} {i : Nat} {k t : Int32} {b : Bool} {K j : Nat} : os_l (rSuf σ i k t b) K j = os_l σ K j := by unfold rSuf; simp only; (repeat' split) <;> rfl
theorem rSuf_r {σ : os_S} {i : Nat} {k t : Int32} {b : Bool} {K j u : Nat} : os_r (rSuf σ i k t b) K j u = os_r σ K j u := by unfold rSuf; simp only; (repeat' split) <;> rfl
theorem rSuf_g {σ : os_S} {i : Nat} {k t : Int32} {b : Bool} {K j u : Nat} (h : K ≠ 9 ∨ u ≠ i) : os_g (rSuf σ i k t b) K j u = os_g σ K j u := by
  have e : ∀ j', ¬ (K = 9 ∧ j = j' ∧ u = i) := fun j' w => by omega
  unfold rSuf; simp only; repeat' split
  all_goals simp only [os_g_sg, e, if_false]
theorem rSuf_i {σ : os_S} {i : Nat} {k t : Int32} {b : Bool} : os_g (rSuf σ i k t b) 9 0 i = os_g σ 9 0 i ∧ os_g (rSuf σ i k t b) 9 1 i = os_g σ 9 1 i ∧ os_g (rSuf σ i k t b) 9 2 i = (if k = 1 then 2 else if os_g σ 9 2 i = 0 then 1 else os_g σ 9 2 i) ∧ os_g (rSuf σ i k t b) 9 3 i = (if k = 2 then -1 else os_g σ 9 3 i) ∧ os_g (rSuf σ i k t b) 9 4 i = (if b = true then 1 else os_g σ 9 4 i) ∧ os_g (rSuf σ i k t b) 9 5 i = (if k = 1 then t else os_g σ 9 5 i) := by
  unfold rSuf; simp only
  by_cases h1 : k = 1
  · subst h1
    cases b <;> simp [os_g_sg]
  · by_cases h2 : k = 2
    · subst h2
      by_cases h3 : os_g σ 9 2 i = 0 <;> cases b <;> simp [os_g_sg, h3]
    · by_cases h3 : os_g σ 9 2 i = 0 <;> cases b <;> simp [os_g_sg, h1, h2, h3]
theorem mcR_r {τ : os_S} {x k : Int32} {f K j u : Nat} : os_r (mcR τ x k f) K j u = os_r τ K j u := by unfold mcR; simp only; (repeat' split) <;> rfl
theorem mcR_n {τ : os_S} {x k : Int32} {f K : Nat} : os_n (mcR τ x k f) K = os_n τ K := by unfold mcR; simp only; (repeat' split) <;> rfl
theorem mcR_u {τ : os_S} {x k : Int32} {f K u : Nat} (h : K ≠ 32) (h2 : u ≠ iN x) : os_g (mcR τ x k f) K u 0 = os_g τ K u 0 := by
  unfold mcR; simp only; repeat' split
  all_goals simp [os_g_sg, h, h2]
theorem mcR_32 {τ : os_S} {x k : Int32} {f u : Nat} : os_g (mcR τ x k f) 32 u 0 = if u = f then (if k = 2 then os_g τ 16 (iN x) 0 else -1) else os_g τ 32 u 0 := by
  unfold mcR; simp only; repeat' split
  all_goals simp [os_g_sg, *]
theorem mcR_i {τ : os_S} {x k : Int32} {f : Nat} : os_g (mcR τ x k f) 17 (iN x) 0 = (if k = 1 then 2 else if os_g τ 17 (iN x) 0 = 0 then 1 else os_g τ 17 (iN x) 0) ∧ os_g (mcR τ x k f) 16 (iN x) 0 = (if k = 2 then -1 else os_g τ 16 (iN x) 0) ∧ os_g (mcR τ x k f) 18 (iN x) 0 = (if os_g τ 21 (iN k) 0 = 0 then os_g τ 18 (iN x) 0 else 1) ∧ os_g (mcR τ x k f) 19 (iN x) 0 = (if k = 1 then os_g τ 13 1 0 else os_g τ 19 (iN x) 0) := by
  unfold mcR; simp only
  by_cases h0 : os_g τ 21 (iN k) 0 = 0
  · by_cases h1 : k = 1
    · subst h1
      simp [os_g_sg, h0]
    · by_cases h2 : k = 2
      · subst h2
        by_cases h3 : os_g τ 17 (iN x) 0 = 0 <;> simp [os_g_sg, h3, h0]
      · by_cases h3 : os_g τ 17 (iN x) 0 = 0 <;> simp [os_g_sg, h1, h2, h3, h0]
  · by_cases h1 : k = 1
    · subst h1
      simp [os_g_sg, h0]
    · by_cases h2 : k = 2
      · subst h2
        by_cases h3 : os_g τ 17 (iN x) 0 = 0 <;> simp [os_g_sg, h3, h0]
      · by_cases h3 : os_g τ 17 (iN x) 0 = 0 <;> simp [os_g_sg, h1, h2, h3, h0]
theorem rfA.suf {σ : os_S} {i : Nat} {k t : Int32} {b : Bool} (h : rfA σ) : rfA (rSuf σ i k t b) := by
  unfold rfA at h ⊢
  simp only [rSuf_n, rSuf_r, rSuf_l]
  exact h
theorem rfA.nB {σ : os_S} {i a : Nat} {b : Bool} (h : rfA σ) : rfA (nfB σ i a b) := by
  unfold nfB
  exact ((((h.nw (K := 10) (L := 0) (by decide)).fN).sr (by decide) (by decide) (by decide)).sg)
/-- the reference's fault, its fields -/
theorem mc0_g {τ : os_S} {x k : Int32} {b : Bool} {f K j : Nat} (hf : iN (os_g τ 13 13 0) = f) (hK : K ≠ 13) (hj : j ≠ f + 1) : os_g (mc0 τ x k b) K j 0 = os_g τ K j 0 := by
  unfold mc0
  rw [hf]
  simp [os_g_sg, hK, hj]
theorem mc0_K {τ : os_S} {x k : Int32} {b : Bool} {K j : Nat} (hK : K ∉ [13, 23, 24, 25, 26, 28, 29, 30, 31]) : os_g (mc0 τ x k b) K j 0 = os_g τ K j 0 := by
  simp at hK
  unfold mc0
  simp [os_g_sg, hK]
