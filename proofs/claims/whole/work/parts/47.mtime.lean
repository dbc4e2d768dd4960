/-! THE REFERENCE: planted faults and time, what it does and keeps -/
def mbr (τ : os_S) (x k : Int32) : os_S := if mba τ x k = 0 then mcS τ x k true else τ
def mpW (τ : os_S) (j k : Nat) : os_S := os_sg (os_sg (os_sg τ 41 k 0 (os_g τ 41 j 0)) 42 k 0 (os_g τ 42 j 0)) 43 k 0 (os_g τ 43 j 0)
def mpC (τ : os_S) : Nat → os_S × Nat
  | 0 => (τ, 0)
  | j + 1 => if os_g (mpC τ j).1 43 j 0 = os_g (mpC τ j).1 13 1 0 then (mbr (mpC τ j).1 (os_g (mpC τ j).1 41 j 0) (os_g (mpC τ j).1 42 j 0), (mpC τ j).2) else (mpW (mpC τ j).1 j (mpC τ j).2, (mpC τ j).2 + 1)
def mpE (τ : os_S) : os_S := os_sg (mpC τ (iN (os_g τ 13 33 0))).1 13 33 0 (nI (mpC τ (iN (os_g τ 13 33 0))).2)
/-! ALARMS THAT RISE -/
def mrF (τ : os_S) (a : Nat) : Bool := decide (os_g τ 38 a 0 = -1 ∧ os_g τ 26 (iN (os_g τ 40 a 0)) 0 = -1 ∧ ¬ os_g τ 36 a 0 = 3 ∧ ¬ os_g τ 13 1 0 = os_g τ 39 a 0 ∧ (os_g τ 13 1 0 - os_g τ 39 a 0) - (os_g τ 13 1 0 - os_g τ 39 a 0) / 30 * 30 = 0)
theorem mrF_iff {τ : os_S} {a : Nat} : mrF τ a = true ↔ (os_g τ 38 a 0 = -1 ∧ os_g τ 26 (iN (os_g τ 40 a 0)) 0 = -1 ∧ ¬ os_g τ 36 a 0 = 3 ∧ ¬ os_g τ 13 1 0 = os_g τ 39 a 0 ∧ (os_g τ 13 1 0 - os_g τ 39 a 0) - (os_g τ 13 1 0 - os_g τ 39 a 0) / 30 * 30 = 0) := decide_eq_true_iff
def mra (τ : os_S) : Nat → os_S
  | 0 => τ
  | j + 1 => if mrF (mra τ j) j = true then os_sg (mra τ j) 36 j 0 (os_g (mra τ j) 36 j 0 + 1) else mra τ j
def mrc (τ : os_S) : Nat → Int32
  | 0 => 0
  | j + 1 => if mrF (mra τ j) j = true then mrc τ j + 1 else mrc τ j
/-- a second of the reference -/
def mst (τ : os_S) : os_S := mpE (os_sg τ 13 1 0 (os_g τ 13 1 0 + 1))
def mse (τ : os_S) : os_S := mra (mst τ) (iN (os_g (mst τ) 13 24 0))
def msc (τ : os_S) : Int32 := mrc (mst τ) (iN (os_g (mst τ) 13 24 0))
def mps (τ : os_S) : Nat → os_S
  | 0 => τ
  | k + 1 => mse (mps τ k)
def mpc (τ : os_S) : Nat → Int32
  | 0 => 0
  | k + 1 => mpc τ k + msc (mps τ k)
theorem iN9 {n : Nat} (h : n < 100000000) : iN (nI n) = n := iN_nI (by omega)
theorem MI.lf {τ : os_S} {j f : Nat} (h : MI τ) (hf : f < 41) : MI (os_sg τ 40 j 0 (nI f)) := by
  obtain ⟨m1, m2, m3, m4, m5, m6, m7, m8, m9, m10⟩ := h
  refine ⟨m1, m2, m3, m4, m5, m6, m7, fun i' hi' => ?_, m9, m10⟩
  have q := m8 i' hi'
  by_cases e : i' = j
  · simp [os_g_sg, e, iN9 (show f < 100000000 from by omega)]; omega
  · simp [os_g_sg, e]; exact q
theorem MI.c0 {τ : os_S} {x k : Int32} {b : Bool} (h : MI τ) (hf : iN (os_g τ 13 13 0) < 40) : MI (mc0 τ x k b) := by
  unfold mc0
  exact MI.k (MI.k (MI.k (MI.k (MI.k (MI.k (MI.k (MI.k (MI.f h hf) (by decide)) (by decide)) (by decide)) (by decide)) (by decide)) (by decide)) (by decide)) (by decide)
theorem MI.c9 {τ : os_S} {f al : Nat} (h : MI τ) (hf : f < 41) : MI (mc9 τ f al) := by
  unfold mc9
  exact MI.lf (MI.k (MI.k (MI.k (MI.k h (by decide)) (by decide)) (by decide)) (by decide)) hf
theorem maS_g {τ : os_S} {x k : Int32} {K j u : Nat} (h : K ≠ 33 ∧ K ≠ 34 ∧ K ≠ 35 ∧ K ≠ 36 ∧ K ≠ 37) (h2 : ¬ (K = 13 ∧ j = 24)) : os_g (maS τ x k) K j u = os_g τ K j u := by
  have e : ¬ (K = 13 ∧ j = 24 ∧ u = 0) := fun w => h2 ⟨w.1, w.2.1⟩
  unfold maS; split
  · simp [maN, os_g_sg, h, e]
  · rfl
/-- the reference's shape, and no more alarms than faults -/
def MJ (σ : os_S) : Prop := MI σ ∧ iN (os_g σ 13 24 0) ≤ iN (os_g σ 13 13 0)
theorem mcm_f {σ : os_S} {x k : Int32} {b : Bool} : os_g (mcm σ x k b) 13 13 0 = os_g σ 13 13 0 + 1 := by
  unfold mcm mc9
  simp [os_g_sg]
  rw [maS_g (by decide) (by decide), mcR_g (by decide)]
  simp [mc0, os_g_sg]
theorem mcm_a {σ : os_S} {x k : Int32} {b : Bool} : os_g (mcm σ x k b) 13 24 0 = os_g σ 13 24 0 ∨ os_g (mcm σ x k b) 13 24 0 = os_g σ 13 24 0 + 1 := by
  unfold mcm mc9
  simp [os_g_sg]
  generalize hX : mcR (mc0 σ x k b) x k (iN (os_g σ 13 13 0) + 1) = X
  have e : os_g X 13 24 0 = os_g σ 13 24 0 := by rw [← hX, mcR_al]; rfl
  unfold maS
  split
  · right; simp [maN, os_g_sg]; rw [e]
  · left; exact e
theorem MJ.cm {σ : os_S} {x k : Int32} {b : Bool} (h : MJ σ) (hf : iN (os_g σ 13 13 0) < 40) : MJ (mcm σ x k b) := by
  obtain ⟨hM, ha⟩ := h
  have hal : iN (os_g (mcR (mc0 σ x k b) x k (iN (os_g σ 13 13 0) + 1)) 13 24 0) < 40 := by
    rw [mcR_al, show os_g (mc0 σ x k b) 13 24 0 = os_g σ 13 24 0 from rfl]
    omega
  refine ⟨?_, ?_⟩
  · unfold mcm
    exact MI.c9 (MI.S (MI.R (MI.c0 hM hf)) hal) (by omega)
  · have e1 := hM.2.2.2.1.1
    have e2 := hM.2.2.2.2.1.1
    have e3 : iN (os_g (mcm σ x k b) 13 13 0) = iN (os_g σ 13 13 0) + 1 := by rw [mcm_f, e1, nI_1, iN9 (by omega), iN9 (by omega)]
    rw [e3]
    rcases mcm_a (σ := σ) (x := x) (k := k) (b := b) with e | e
    · rw [e]; omega
    · rw [e, e2, nI_1, iN9 (by omega)]; omega
theorem MJ.br {σ : os_S} {x k : Int32} (h : MJ σ) : MJ (mbr σ x k) := by
  unfold mbr mcS
  split
  · rename_i c
    split
    · exact h.cm (mba_f (by rw [c]; decide) h.1.2.2.2.1)
    · exact h
  · exact h
theorem MJ.pW {σ : os_S} {j k : Nat} (h : MJ σ) (hj : j < 10) : MJ (mpW σ j k) := by
  obtain ⟨⟨m1, m2, m3, m4, m5, m6, m7, m8, m9, m10⟩, ha⟩ := h
  refine ⟨⟨m1, m2, m3, m4, m5, m6, m7, m8, fun i' hi' => ?_, fun i' hi' => ?_⟩, ha⟩
  · by_cases e : i' = k
    · simp [mpW, os_g_sg, e]; exact m9 j hj
    · simp [mpW, os_g_sg, e]; exact m9 i' hi'
  · by_cases e : i' = k
    · simp [mpW, os_g_sg, e]; exact m10 j hj
    · simp [mpW, os_g_sg, e]; exact m10 i' hi'
theorem mpC_s {σ τ : os_S} {j : Nat} (h : (mpC σ j).1 = τ) : mpC σ (j + 1) = if os_g τ 43 j 0 = os_g τ 13 1 0 then (mbr τ (os_g τ 41 j 0) (os_g τ 42 j 0), (mpC σ j).2) else (mpW τ j (mpC σ j).2, (mpC σ j).2 + 1) := by rw [mpC, h]
theorem mpC_le {σ : os_S} : ∀ j, (mpC σ j).2 ≤ j
  | 0 => Nat.le_refl _
  | j + 1 => by
    have := mpC_le (σ := σ) j
    rw [mpC]
    split
    · show (mpC σ j).2 ≤ _; omega
    · show (mpC σ j).2 + 1 ≤ _; omega
theorem MJ.pC {σ : os_S} (h : MJ σ) : ∀ j, j ≤ 10 → MJ (mpC σ j).1
  | 0, _ => h
  | j + 1, hj => by
    have i := MJ.pC h j (by omega)
    rw [mpC]
    split
    · exact i.br
    · exact i.pW (by omega)
theorem mcm_13 {τ : os_S} {x k : Int32} {b : Bool} {j : Nat} (h : j ≠ 13 ∧ j ≠ 24) : os_g (mcm τ x k b) 13 j 0 = os_g τ 13 j 0 := by
  unfold mcm mc9
  simp [os_g_sg]
  rw [maS_g (by decide) (by omega), mcR_g (by decide)]
  simp [mc0, os_g_sg, h]
theorem mbr_13 {τ : os_S} {x k : Int32} {j : Nat} (h : j ≠ 13 ∧ j ≠ 24) : os_g (mbr τ x k) 13 j 0 = os_g τ 13 j 0 := by
  unfold mbr mcS
  split
  · split
    · exact mcm_13 h
    · rfl
  · rfl
theorem mpC_13 {σ : os_S} {i : Nat} (h : i ≠ 13 ∧ i ≠ 24) : ∀ j, os_g (mpC σ j).1 13 i 0 = os_g σ 13 i 0
  | 0 => rfl
  | j + 1 => by
    rw [mpC]
    split
    · exact (mbr_13 h).trans (mpC_13 h j)
    · exact (show os_g (mpW (mpC σ j).1 j (mpC σ j).2) 13 i 0 = os_g (mpC σ j).1 13 i 0 from by simp [mpW, os_g_sg]).trans (mpC_13 h j)
theorem MJ.pE {σ : os_S} (h : MJ σ) : MJ (mpE σ) := by
  have hp := h.1.2.2.2.2.2.1.2
  have i := h.pC (iN (os_g σ 13 33 0)) hp
  have l := mpC_le (σ := σ) (iN (os_g σ 13 33 0))
  unfold mpE
  obtain ⟨⟨m1, m2, m3, m4, m5, m6, m7, m8, m9, m10⟩, ha⟩ := i
  refine ⟨⟨m1, m2, m3, m4, m5, ?_, m7, m8, m9, m10⟩, ha⟩
  unfold mdc
  rw [os_g_sg, if_pos ⟨rfl, rfl, rfl⟩, iN9 (by omega)]
  exact ⟨rfl, by omega⟩
theorem MJ.time {σ : os_S} {v : Int32} (h : MJ σ) : MJ (os_sg σ 13 1 0 v) := h
theorem MJ.st {σ : os_S} (h : MJ σ) : MJ (mst σ) := (MJ.time h).pE
theorem mra_13 {σ : os_S} {i : Nat} : ∀ j, os_g (mra σ j) 13 i 0 = os_g σ 13 i 0
  | 0 => rfl
  | j + 1 => by
    rw [mra]
    split
    · exact (show os_g (os_sg (mra σ j) 36 j 0 _) 13 i 0 = os_g (mra σ j) 13 i 0 from by simp [os_g_sg]).trans (mra_13 j)
    · exact mra_13 j
theorem MJ.ra {σ : os_S} (h : MJ σ) : ∀ j, MJ (mra σ j)
  | 0 => h
  | j + 1 => by
    have i := MJ.ra h j
    rw [mra]
    split
    · exact ⟨MI.k i.1 (by decide), i.2⟩
    · exact i
theorem MJ.ps {σ : os_S} (h : MJ σ) : ∀ j, MJ (mps σ j)
  | 0 => h
  | j + 1 => (MJ.st (MJ.ps h j)).ra _
