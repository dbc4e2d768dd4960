/-! CLASS AND REFERENCE SIDE BY SIDE: σ holds the class, τ the reference -/
def eU (σ τ : os_S) (k : Nat) : Prop := os_g σ 8 0 k = os_g τ 20 k 0 ∧ os_g σ 8 1 k = os_g τ 21 k 0 ∧ os_g σ 8 2 k = os_g τ 22 k 0 ∧ (os_g σ 8 1 k = 0 ∨ os_g σ 8 1 k = 1)
def eR (σ τ : os_S) (z t i : Nat) : Prop := os_g σ 9 0 i = nI i ∧ os_g σ 9 1 i = os_g τ 15 i 0 ∧ os_g σ 9 2 i = os_g τ 17 i 0 ∧ os_g σ 9 3 i = os_g τ 16 i 0 ∧ os_g σ 9 4 i = os_g τ 18 i 0 ∧ os_g σ 9 5 i = os_g τ 19 i 0 ∧
  (∃ p, p < z ∧ os_g σ 9 1 i = nI p) ∧ (os_g σ 9 4 i = 0 ∨ os_g σ 9 4 i = 1) ∧ ∃ s, s ≤ t ∧ os_g σ 9 5 i = nI s
def eF (σ τ : os_S) (t i : Nat) : Prop := os_g σ 10 0 i = nI (i + 1) ∧ os_g τ 23 (i + 1) 0 = nI (fR σ i) ∧ os_g σ 10 2 i = os_g τ 24 (i + 1) 0 ∧ os_g σ 10 3 i = os_g τ 25 (i + 1) 0 ∧ os_g σ 10 10 i = os_g τ 26 (i + 1) 0 ∧ os_g σ 10 8 i = os_g τ 27 (i + 1) 0 ∧ os_g σ 10 9 i = os_g τ 28 (i + 1) 0 ∧ os_g σ 10 4 i = os_g τ 29 (i + 1) 0 ∧ os_g σ 10 5 i = os_g τ 30 (i + 1) 0 ∧ os_g σ 10 6 i = os_g τ 31 (i + 1) 0 ∧ os_g σ 10 7 i = os_g τ 32 (i + 1) 0 ∧
  fR σ i < os_n σ 9 ∧ (∃ a, a < 8 ∧ os_g σ 10 2 i = nI a) ∧ (∃ s, s ≤ t ∧ os_g σ 10 3 i = nI s) ∧ (os_g σ 10 5 i = 0 ∨ os_g σ 10 5 i = 1) ∧ ∃ m, m < 256 ∧ os_g σ 10 9 i = nI m
def eA (σ τ : os_S) (i : Nat) : Prop := os_g σ 11 0 i = nI i ∧ os_g τ 33 i 0 = nI (aR σ i) ∧ os_g σ 11 2 i = os_g τ 34 i 0 ∧ os_g σ 11 3 i = os_g τ 35 i 0 ∧ os_g σ 11 4 i = os_g τ 36 i 0 ∧ os_g σ 11 5 i = os_g τ 37 i 0 ∧ os_g σ 11 6 i = os_g τ 38 i 0 ∧ os_g τ 39 i 0 = os_g σ 10 3 (aL σ i) ∧ os_g τ 40 i 0 = nI (aL σ i + 1) ∧
  aR σ i < os_n σ 9 ∧ aL σ i < os_n σ 10 ∧ ∃ l, l ≤ 3 ∧ os_g σ 11 4 i = nI l
/-- a planted fault, at its place in the class's row and in the reference's -/
def ePl (σ τ : os_S) (p j : Nat) : Prop := p < os_n σ 12 ∧ os_r σ 12 0 p = some (pR σ p) ∧ pR σ p < os_n σ 9 ∧ (∃ a, a < 8 ∧ os_g σ 12 1 p = nI a) ∧ os_g τ 41 j 0 = nI (pR σ p) ∧ os_g τ 42 j 0 = os_g σ 12 1 p ∧ os_g τ 43 j 0 = os_g σ 12 2 p
def eP (σ τ : os_S) (t nP : Nat) : Prop := (∀ j, j < nP → ∃ p, os_r σ 7 j 0 = some p ∧ ePl σ τ p j ∧ ∃ s, t < s ∧ s ≤ t + 1000 ∧ os_g σ 12 2 p = nI s) ∧ ∀ j, nP ≤ j → j < 10 → os_r σ 7 j 0 = none
/-- the links -/
def eK (σ τ : os_S) (z : Nat) : Prop := ∀ p q, p < 20 → q < 20 → (rf_holds (os_g σ 2 p 0) (nI q) = decide (¬ os_g τ 14 (20 * p + q) 0 = 0)) ∧ (rf_holds (os_g σ 2 p 0) (nI q) = true → p < z ∧ q < z)
def eK2 (σ : os_S) : Prop := ∀ p, p < 20 → ∃ m, m < 2 ^ 20 ∧ os_g σ 2 p 0 = nI m
/-- the counts and the time -/
def eC (σ τ : os_S) (z t nP : Nat) : Prop := os_g σ 1 1 0 = nI z ∧ os_g τ 13 2 0 = nI z ∧ z ≤ 20 ∧ os_g σ 0 10 0 = nI t ∧ os_g τ 13 1 0 = nI t ∧ t ≤ 100000 ∧ os_g τ 13 4 0 = nI (os_n σ 9) ∧ os_g τ 13 13 0 = nI (os_n σ 10) ∧ os_g τ 13 24 0 = nI (os_n σ 11) ∧ os_g σ 0 9 0 = nI nP ∧ os_g τ 13 33 0 = nI nP ∧ nP ≤ 10 ∧ os_n σ 11 ≤ os_n σ 10
def e0 (σ τ : os_S) : Prop := ∀ i, os_n σ 9 ≤ i → i < 8 → os_g τ 17 i 0 = 0 ∧ os_g τ 18 i 0 = 0 ∧ os_g τ 19 i 0 = 0
def Rel (z t nP : Nat) (σ τ : os_S) : Prop := rfA σ ∧ MI τ ∧ rfS σ 4 9 8 6 ∧ rfF σ ∧ rfL σ ∧ eC σ τ z t nP ∧ eK σ τ z ∧ eK2 σ ∧ (∀ k, k < 8 → eU σ τ k) ∧ (∀ i, i < os_n σ 9 → eR σ τ z t i) ∧ e0 σ τ ∧ (∀ i, i < os_n σ 10 → eF σ τ t i) ∧ (∀ i, i < os_n σ 11 → eA σ τ i) ∧ eP σ τ t nP
/-- all but the planted faults -/
def Rel0 (z t nP : Nat) (σ τ : os_S) : Prop := rfA σ ∧ MI τ ∧ rfS σ 4 9 8 6 ∧ rfF σ ∧ rfL σ ∧ eC σ τ z t nP ∧ eK σ τ z ∧ eK2 σ ∧ (∀ k, k < 8 → eU σ τ k) ∧ (∀ i, i < os_n σ 9 → eR σ τ z t i) ∧ e0 σ τ ∧ (∀ i, i < os_n σ 10 → eF σ τ t i) ∧ (∀ i, i < os_n σ 11 → eA σ τ i)
theorem Rel.zero {z t nP : Nat} {σ τ : os_S} (h : Rel z t nP σ τ) : Rel0 z t nP σ τ := by
  obtain ⟨hA, hM, hR, hF, hL, hC, hK, hK2, hU, hr, h0, hf, ha, hp⟩ := h
  exact ⟨hA, hM, hR, hF, hL, hC, hK, hK2, hU, hr, h0, hf, ha⟩
theorem Rel0.rel {z t nP : Nat} {σ τ : os_S} (h : Rel0 z t nP σ τ) (hp : eP σ τ t nP) : Rel z t nP σ τ := by
  obtain ⟨hA, hM, hR, hF, hL, hC, hK, hK2, hU, hr, h0, hf, ha⟩ := h
  exact ⟨hA, hM, hR, hF, hL, hC, hK, hK2, hU, hr, h0, hf, ha, hp⟩
/-- the kinds of the class, the kinds of the reference -/
def cuC (σ : os_S) : os_S := (fun K => if K < 13 then σ.1 K else 0, fun K i => if K < 13 then σ.2.1 K i else 0, fun K j i => if K < 13 then σ.2.2.1 K j i else 0, fun K j i => if K < 13 then σ.2.2.2 K j i else none)
def cuM (σ : os_S) : os_S := (fun K => if 13 ≤ K ∧ K < 45 then σ.1 K else 0, fun K i => if 13 ≤ K ∧ K < 45 then σ.2.1 K i else 0, fun K j i => if 13 ≤ K ∧ K < 45 then σ.2.2.1 K j i else 0, fun K j i => if 13 ≤ K ∧ K < 45 then σ.2.2.2 K j i else none)
theorem cuC_n {σ : os_S} {K : Nat} (h : K < 13) : os_n (cuC σ) K = os_n σ K := if_pos h
theorem cuC_l {σ : os_S} {K i : Nat} (h : K < 13) : os_l (cuC σ) K i = os_l σ K i := if_pos h
theorem cuC_g {σ : os_S} {K j i : Nat} (h : K < 13) : os_g (cuC σ) K j i = os_g σ K j i := if_pos h
theorem cuC_r {σ : os_S} {K j i : Nat} (h : K < 13) : os_r (cuC σ) K j i = os_r σ K j i := if_pos h
theorem cuM_n {σ : os_S} {K : Nat} (h : 13 ≤ K ∧ K < 45) : os_n (cuM σ) K = os_n σ K := if_pos h
theorem cuM_l {σ : os_S} {K i : Nat} (h : 13 ≤ K ∧ K < 45) : os_l (cuM σ) K i = os_l σ K i := if_pos h
theorem cuM_g {σ : os_S} {K j i : Nat} (h : 13 ≤ K ∧ K < 45) : os_g (cuM σ) K j i = os_g σ K j i := if_pos h
theorem cuM_r {σ : os_S} {K j i : Nat} (h : 13 ≤ K ∧ K < 45) : os_r (cuM σ) K j i = os_r σ K j i := if_pos h
theorem rfA_cu {σ : os_S} : rfA (cuC σ) ↔ rfA σ := by
  unfold rfA
  refine and_congr ⟨fun h K hK => (cuC_n (by omega)).symm.trans (h K hK), fun h K hK => (cuC_n (by omega)).trans (h K hK)⟩ Iff.rfl
theorem MI_cu {σ : os_S} : MI (cuM σ) ↔ MI σ := by
  unfold MI
  refine and_congr ?_ Iff.rfl
  unfold mdA
  refine and_congr ⟨fun h K h1 h2 => (cuM_n ⟨h1, h2⟩).symm.trans (h K h1 h2), fun h K h1 h2 => (cuM_n ⟨h1, h2⟩).trans (h K h1 h2)⟩ (and_congr Iff.rfl ⟨fun h K h1 h2 => (cuM_l ⟨by omega, h2⟩).symm.trans (h K h1 h2), fun h K h1 h2 => (cuM_l ⟨by omega, h2⟩).trans (h K h1 h2)⟩)
theorem Rel_cu {z t nP : Nat} {σ τ : os_S} : Rel z t nP (cuC σ) (cuM τ) ↔ Rel z t nP σ τ := by
  unfold Rel
  exact and_congr rfA_cu (and_congr MI_cu Iff.rfl)
theorem Rel.to {z t nP : Nat} {σ τ σ' τ' : os_S} (h : Rel z t nP σ τ) (hc : cuC σ = cuC σ') (hm : cuM τ = cuM τ') : Rel z t nP σ' τ' := Rel_cu.mp (hm ▸ hc ▸ Rel_cu.mpr h)
theorem if_c {α : Type} {c : Prop} [Decidable c] {x y d : α} (h : c → x = y) : (if c then x else d) = if c then y else d := by
  split
  · exact h ‹_›
  · rfl
theorem cuC_ext {σ σ' : os_S} (h : ∀ K, K < 13 → os_n σ K = os_n σ' K ∧ (∀ i, os_l σ K i = os_l σ' K i) ∧ (∀ j i, os_g σ K j i = os_g σ' K j i) ∧ ∀ j i, os_r σ K j i = os_r σ' K j i) : cuC σ = cuC σ' :=
  Prod.ext (funext fun K => if_c fun c => (h K c).1) (Prod.ext (funext fun K => funext fun i => if_c fun c => (h K c).2.1 i) (Prod.ext (funext fun K => funext fun j => funext fun i => if_c fun c => (h K c).2.2.1 j i) (funext fun K => funext fun j => funext fun i => if_c fun c => (h K c).2.2.2 j i)))
theorem cuM_ext {σ σ' : os_S} (h : ∀ K, 13 ≤ K ∧ K < 45 → os_n σ K = os_n σ' K ∧ (∀ i, os_l σ K i = os_l σ' K i) ∧ (∀ j i, os_g σ K j i = os_g σ' K j i) ∧ ∀ j i, os_r σ K j i = os_r σ' K j i) : cuM σ = cuM σ' :=
  Prod.ext (funext fun K => if_c fun c => (h K c).1) (Prod.ext (funext fun K => funext fun i => if_c fun c => (h K c).2.1 i) (Prod.ext (funext fun K => funext fun j => funext fun i => if_c fun c => (h K c).2.2.1 j i) (funext fun K => funext fun j => funext fun i => if_c fun c => (h K c).2.2.2 j i)))
theorem cuC_sg {σ : os_S} {K j i : Nat} {v : Int32} (h : 13 ≤ K) : cuC (os_sg σ K j i v) = cuC σ := cuC_ext fun K' h' => ⟨rfl, fun _ => rfl, fun _ _ => by rw [os_g_sg, if_neg (by omega)], fun _ _ => rfl⟩
theorem cuM_sg {σ : os_S} {K j i : Nat} {v : Int32} (h : ¬ (13 ≤ K ∧ K < 45)) : cuM (os_sg σ K j i v) = cuM σ := cuM_ext fun K' h' => ⟨rfl, fun _ => rfl, fun _ _ => by rw [os_g_sg, if_neg (by omega)], fun _ _ => rfl⟩
theorem cuM_sr {σ : os_S} {K j i : Nat} {v : Option Nat} (h : ¬ (13 ≤ K ∧ K < 45)) : cuM (os_sr σ K j i v) = cuM σ := cuM_ext fun K' h' => ⟨rfl, fun _ => rfl, fun _ _ => rfl, fun _ _ => by rw [os_r_sr, if_neg (by omega)]⟩
theorem cuM_nw {σ : os_S} {K L : Nat} (h : ¬ (13 ≤ K ∧ K < 45)) : cuM (os_nw σ K L) = cuM σ := cuM_ext fun K' h' => ⟨by rw [os_n_nw, if_neg (by omega)], fun _ => by rw [os_l_nw, if_neg (by omega)], fun _ _ => by rw [os_g_nw, if_neg (by omega)], fun _ _ => by rw [os_r_nw, if_neg (by omega)]⟩
