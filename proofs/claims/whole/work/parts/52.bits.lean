/-- class and reference answered alike: the codes of the law's helpers -/
def agV (T : List (String × Int32)) (c : Int32) (r r2 : os_O) : Prop := (c = 0 ∧ r = .inl none ∧ r2 = .inl none) ∨ ∃ E, (E, c) ∈ T ∧ r = .inr E ∧ r2 = .inl none
def agI (T : List (String × Int32)) (c : Int32) (r r2 : os_O) : Prop := (c = 0 ∧ ∃ v, r = .inl (some (.int v)) ∧ r2 = .inl (some (.int v))) ∨ ∃ E v, (E, c) ∈ T ∧ r = .inr E ∧ r2 = .inl (some (.int v))
section
variable {z t nP : Nat} {σ τ : os_S}
theorem Rel0.n9 (h : Rel0 z t nP σ τ) : os_n σ 9 ≤ 8 := h.2.2.1.1
theorem Rel0.n10 (h : Rel0 z t nP σ τ) : os_n σ 10 ≤ 40 := h.2.2.2.1.1.1
theorem Rel0.n11 (h : Rel0 z t nP σ τ) : os_n σ 11 ≤ 40 := h.2.2.2.2.1.1.1
theorem Rel0.C (h : Rel0 z t nP σ τ) : eC σ τ z t nP := h.2.2.2.2.2.1
theorem Rel0.R (h : Rel0 z t nP σ τ) {i : Nat} (hi : i < os_n σ 9) : eR σ τ z t i := h.2.2.2.2.2.2.2.2.2.1 i hi
theorem Rel0.F (h : Rel0 z t nP σ τ) {i : Nat} (hi : i < os_n σ 10) : eF σ τ t i := h.2.2.2.2.2.2.2.2.2.2.2.1 i hi
theorem Rel0.A (h : Rel0 z t nP σ τ) {i : Nat} (hi : i < os_n σ 11) : eA σ τ i := h.2.2.2.2.2.2.2.2.2.2.2.2 i hi
end
section
variable {z t nP : Nat} {σ τ : os_S}
theorem Rel.n9 (h : Rel z t nP σ τ) : os_n σ 9 ≤ 8 := h.2.2.1.1
theorem Rel.n10 (h : Rel z t nP σ τ) : os_n σ 10 ≤ 40 := h.2.2.2.1.1.1
theorem Rel.n11 (h : Rel z t nP σ τ) : os_n σ 11 ≤ 40 := h.2.2.2.2.1.1.1
theorem Rel.C (h : Rel z t nP σ τ) : eC σ τ z t nP := h.2.2.2.2.2.1
theorem Rel.K (h : Rel z t nP σ τ) : eK σ τ z := h.2.2.2.2.2.2.1
theorem Rel.K2 (h : Rel z t nP σ τ) : eK2 σ := h.2.2.2.2.2.2.2.1
theorem Rel.U (h : Rel z t nP σ τ) {k : Nat} (hk : k < 8) : eU σ τ k := h.2.2.2.2.2.2.2.2.1 k hk
theorem Rel.R (h : Rel z t nP σ τ) {i : Nat} (hi : i < os_n σ 9) : eR σ τ z t i := h.2.2.2.2.2.2.2.2.2.1 i hi
theorem Rel.F (h : Rel z t nP σ τ) {i : Nat} (hi : i < os_n σ 10) : eF σ τ t i := h.2.2.2.2.2.2.2.2.2.2.2.1 i hi
theorem Rel.A (h : Rel z t nP σ τ) {i : Nat} (hi : i < os_n σ 11) : eA σ τ i := h.2.2.2.2.2.2.2.2.2.2.2.2.1 i hi
theorem Rel.Pl (h : Rel z t nP σ τ) : eP σ τ t nP := h.2.2.2.2.2.2.2.2.2.2.2.2.2
theorem Rel.bR (h : Rel z t nP σ τ) {x : Int32} : bz (inF x 0 (os_g τ 13 4 0 - 1)) = 0 ↔ ¬ ∃ i, i < os_n σ 9 ∧ x = nI i := by rw [h.C.2.2.2.2.2.2.1]; exact bzR (by have := h.n9; omega)
theorem Rel.bP (h : Rel z t nP σ τ) {x : Int32} : bz (inF x 0 (os_g τ 13 2 0 - 1)) = 0 ↔ ¬ ∃ i, i < z ∧ x = nI i := by rw [h.C.2.1]; exact bzR (by have := h.C.2.2.1; omega)
theorem Rel.bA (h : Rel z t nP σ τ) {x : Int32} : bz (inF x 0 (os_g τ 13 24 0 - 1)) = 0 ↔ ¬ ∃ i, i < os_n σ 11 ∧ x = nI i := by rw [h.C.2.2.2.2.2.2.2.2.1]; exact bzR (by have := h.n11; omega)
theorem Rel.bF (h : Rel z t nP σ τ) {x : Int32} : bz (inF x 1 (os_g τ 13 13 0)) = 0 ↔ ¬ ∃ i, i < os_n σ 10 ∧ x = nI (i + 1) := by
  rw [h.C.2.2.2.2.2.2.2.1, show (1 : Int32) = nI 1 from by decide, bzU (by have := h.n10; omega) (by decide)]
  refine not_congr ⟨?_, ?_⟩
  · rintro ⟨i, h1, h2, rfl⟩
    exact ⟨i - 1, by omega, by rw [show i - 1 + 1 = i from by omega]⟩
  · rintro ⟨i, h1, rfl⟩
    exact ⟨i + 1, by omega, by omega, rfl⟩
theorem Rel.isP (h : Rel z t nP σ τ) {x : Int32} : isP σ x ↔ ∃ i, i < z ∧ x = nI i := isP_iff h.C.1 h.C.2.2.1
end
theorem bzK {x : Int32} : bz (inF x 0 7) = 0 ↔ ¬ ∃ i, i < 8 ∧ x = nI i := by
  rw [show (0 : Int32) = nI 0 from by decide, show (7 : Int32) = nI 7 from by decide, show (bz (inF x (nI 0) (nI 7)) = nI 0 ↔ _) = (bz (inF x (nI 0) (nI 7)) = 0 ↔ _) from rfl, bzU (by decide) (by decide)]
  exact not_congr ⟨fun ⟨i, _, h2, e⟩ => ⟨i, by omega, e⟩, fun ⟨i, h2, e⟩ => ⟨i, by omega, by omega, e⟩⟩
theorem bz_unit {y : Int32} : bz (inF y (-1) 99) = 0 ↔ ¬ (¬ y < -1 ∧ y ≤ 99) := by
  rw [bzF]
  unfold inF
  rw [decide_eq_true_iff]
  refine not_congr (and_congr Iff.rfl ?_)
  rw [Int32.lt_iff_toInt_lt, Int32.le_iff_toInt_le]
  omega
/-! BITS -/
theorem nI_bv (n : Nat) : (nI n).toBitVec = BitVec.ofNat 32 n := Int32.toBitVec_ofNat'
theorem nI_or (a b : Nat) : nI a ||| nI b = nI (a ||| b) := Int32.toBitVec_inj.mp (by rw [Int32.toBitVec_or, nI_bv, nI_bv, nI_bv, BitVec.ofNat_or])
theorem nI_shl : ∀ {a : Nat}, a < 31 → (1 : Int32) <<< (nI a &&& 31) = nI (2 ^ a) := by decide +kernel
theorem nI_shr {m q : Nat} (hm : m < 2 ^ 31) (hq : q < 31) : (nI m) >>> (nI q &&& 31) = nI (m >>> q) := by
  have hs : ∀ q, q < 31 → ((nI q &&& 31).toBitVec.smod 32#32).toNat = q := by decide +kernel
  refine Int32.toBitVec_inj.mp ?_
  rw [Int32.toBitVec_shiftRight, nI_bv, nI_bv]
  unfold BitVec.sshiftRight'
  rw [show ((nI q &&& 31).toBitVec.smod 32).toNat = q from hs q hq]
  have e1 : (BitVec.ofNat 32 m).toNat = m := by rw [BitVec.toNat_ofNat]; exact Nat.mod_eq_of_lt (by omega)
  rw [BitVec.sshiftRight_eq_of_msb_false (by rw [BitVec.msb_eq_false_iff_two_mul_lt, e1]; omega)]
  refine BitVec.eq_of_toNat_eq ?_
  have e2 : m >>> q ≤ m := Nat.shiftRight_le m q
  rw [BitVec.toNat_ushiftRight, e1, BitVec.toNat_ofNat, Nat.mod_eq_of_lt (by omega)]
theorem nI_and1 {m : Nat} : nI m &&& 1 = nI (m % 2) := Int32.toBitVec_inj.mp (by
  rw [Int32.toBitVec_and, nI_bv, nI_bv, show (1 : Int32).toBitVec = BitVec.ofNat 32 1 from rfl, ← BitVec.ofNat_and, Nat.and_one_is_mod])
theorem holds_nI {m q : Nat} (hm : m < 2 ^ 31) (hq : q < 31) : rf_holds (nI m) (nI q) = m.testBit q := by
  unfold rf_holds
  rw [nI_shr hm hq, nI_and1]
  have h2 : (m >>> q) % 2 < 2 := Nat.mod_lt _ (by decide)
  rw [Nat.testBit, Nat.one_and_eq_mod_two]
  generalize (m >>> q) % 2 = u at h2 ⊢
  match u, h2 with
  | 0, _ => rfl
  | 1, _ => rfl
theorem bit_nI {m q : Nat} (hm : m < 2 ^ 31) (hq : q < 31) : (nI m >>> (nI q &&& 31)) &&& 1 = bz (m.testBit q) := by
  rw [← holds_nI hm hq]
  unfold rf_holds
  rw [nI_shr hm hq, nI_and1]
  have h2 : (m >>> q) % 2 < 2 := Nat.mod_lt _ (by decide)
  generalize (m >>> q) % 2 = u at h2 ⊢
  match u, h2 with
  | 0, _ => rfl
  | 1, _ => rfl
theorem bzN {x : Int32} {n : Nat} {M : Int32} (hM : M = nI n) (hn : n < 1000000) : bz (inF x 0 M) = 0 ↔ ¬ ∃ i, i < n + 1 ∧ x = nI i := by
  subst hM
  rw [show inF x 0 (nI n) = inF x (nI 0) (nI n) from rfl, bzU (by omega) (by decide)]
  exact not_congr ⟨fun ⟨i, _, h2, e⟩ => ⟨i, by omega, e⟩, fun ⟨i, h2, e⟩ => ⟨i, by omega, by omega, e⟩⟩
theorem bzN5 {x : Int32} : bz (inF x 0 4) = 0 ↔ ¬ ∃ i, i < 5 ∧ x = nI i := bzN (n := 4) (by decide) (by decide)
theorem bzN7 {x : Int32} : bz (inF x 0 6) = 0 ↔ ¬ ∃ i, i < 7 ∧ x = nI i := bzN (n := 6) (by decide) (by decide)
theorem bzN9 {x : Int32} : bz (inF x 0 8) = 0 ↔ ¬ ∃ i, i < 9 ∧ x = nI i := bzN (n := 8) (by decide) (by decide)
theorem moF_c {τ : os_S} {v x k : Int32} : ∀ (n j : Nat), moF (os_sg τ 13 0 0 v) x k n j = moF τ x k n j
  | 0, _ => rfl
  | n + 1, j => by rw [moF, moF, moF_c n (j + 1)]; rfl
theorem mok_c {τ : os_S} {v x : Int32} : ∀ (n : Nat), mok (os_sg τ 13 0 0 v) x n = mok τ x n
  | 0 => rfl
  | n + 1 => by rw [mok, mok, mok_c n]; unfold mof; rw [moF_c]; rfl
/-- the open fault of a robot and a kind -/
theorem moF_none {τ : os_S} {x k : Int32} : ∀ {n j : Nat}, moF τ x k n j ≤ 0 → j + n ≤ 41 → 1 ≤ j → ∀ f, j ≤ f → f < j + n → ¬ (os_g τ 23 f 0 = x ∧ os_g τ 24 f 0 = k ∧ os_g τ 26 f 0 = -1)
  | 0, j, _, _, _, f, h1, h2 => absurd h2 (by omega)
  | n + 1, j, h, hj, hj1, f, h1, h2 => by
    rw [moF] at h
    split at h
    · exact absurd h (nI_nle (by omega) (by omega))
    · rename_i hc
      by_cases e : f = j
      · subst e; exact hc
      · exact moF_none h (by omega) (by omega) f (by omega) (by omega)
theorem moF_some {τ : os_S} {x k : Int32} : ∀ {n j : Nat}, ¬ moF τ x k n j ≤ 0 → ∃ f, j ≤ f ∧ f < j + n ∧ moF τ x k n j = nI f ∧ (os_g τ 23 f 0 = x ∧ os_g τ 24 f 0 = k ∧ os_g τ 26 f 0 = -1) ∧ ∀ f', j ≤ f' → f' < f → ¬ (os_g τ 23 f' 0 = x ∧ os_g τ 24 f' 0 = k ∧ os_g τ 26 f' 0 = -1)
  | 0, j, h => absurd (show moF τ x k 0 j ≤ 0 from by rw [moF]; decide) h
  | n + 1, j, h => by
    rw [moF] at h ⊢
    split at h
    · rename_i hc
      rw [if_pos hc]
      exact ⟨j, by omega, by omega, rfl, hc, fun f' h1 h2 => absurd h1 (by omega)⟩
    · rename_i hc
      rw [if_neg hc]
      obtain ⟨f, h1, h2, h3, h4, h5⟩ := moF_some h
      refine ⟨f, by omega, by omega, h3, h4, fun f' h6 h7 => ?_⟩
      by_cases e : f' = j
      · subst e; exact hc
      · exact h5 f' (by omega) h7
theorem ofA_none {σ : os_S} {r : Nat} {k : Int32} : ∀ {n : Nat}, ofA σ r k n = none → ∀ j, j < n → ¬ (j < os_n σ 10 ∧ fop σ j = true ∧ fR σ j = r ∧ os_g σ 10 2 j = k)
  | 0, _, j, h => absurd h (by omega)
  | n + 1, h, j, hj => by
    rw [ofA] at h
    cases h1 : ofA σ r k n with
    | some t => rw [h1] at h; cases h
    | none =>
      rw [h1] at h
      by_cases e : j = n
      · subst e
        intro hc
        simp only [if_pos hc] at h
        cases h
      · exact ofA_none h1 j (by omega)
theorem ofA_some {σ : os_S} {r : Nat} {k : Int32} {t : Nat} : ∀ {n : Nat}, ofA σ r k n = some t → t < n ∧ (t < os_n σ 10 ∧ fop σ t = true ∧ fR σ t = r ∧ os_g σ 10 2 t = k) ∧ ∀ j, j < t → ¬ (j < os_n σ 10 ∧ fop σ j = true ∧ fR σ j = r ∧ os_g σ 10 2 j = k)
  | 0, h => by cases h
  | n + 1, h => by
    rw [ofA] at h
    cases h1 : ofA σ r k n with
    | some u =>
      rw [h1] at h
      cases h
      obtain ⟨a, b⟩ := ofA_some h1
      exact ⟨by omega, b⟩
    | none =>
      rw [h1] at h
      simp only at h
      split at h
      · rename_i hc
        cases h
        exact ⟨by omega, hc, fun j hj => ofA_none h1 j hj⟩
      · cases h
theorem fop_iff {σ : os_S} {i : Nat} : fop σ i = true ↔ os_g σ 10 10 i = -1 := decide_eq_true_iff
theorem open_iff {z t nP : Nat} {σ τ : os_S} (h : Rel0 z t nP σ τ) {r : Nat} {k : Int32} {j : Nat} (hr : r < 8) (hj : j < os_n σ 10) : (os_g τ 23 (j + 1) 0 = nI r ∧ os_g τ 24 (j + 1) 0 = k ∧ os_g τ 26 (j + 1) 0 = -1) ↔ (j < os_n σ 10 ∧ fop σ j = true ∧ fR σ j = r ∧ os_g σ 10 2 j = k) := by
  have e := h.F hj
  have e9 := h.n9
  have e11 := e.2.2.2.2.2.2.2.2.2.2.2.1
  rw [e.2.1, ← e.2.2.1, ← e.2.2.2.2.1, fop_iff, nI_eq (by omega) (by omega)]
  exact ⟨fun ⟨a, b, c⟩ => ⟨hj, c, a, b⟩, fun ⟨_, c, a, b⟩ => ⟨a, b, c⟩⟩
theorem mof_none {z t nP : Nat} {σ τ : os_S} (h : Rel0 z t nP σ τ) {r : Nat} {k : Int32} (hr : r < 8) : mof τ (nI r) k ≤ 0 ↔ ofA σ r k 40 = none := by
  have e : mFt τ = os_n σ 10 := by show iN (os_g τ 13 13 0) = _; rw [h.C.2.2.2.2.2.2.2.1, iN9 (by have := h.n10; omega)]
  have e10 := h.n10
  unfold mof
  rw [e]
  constructor
  · intro hm
    cases ho : ofA σ r k 40 with
    | none => rfl
    | some u =>
      obtain ⟨h1, h2, h3⟩ := ofA_some ho
      exact absurd ((open_iff h hr h2.1).mpr h2) (moF_none hm (by omega) (by omega) (u + 1) (by omega) (by have := h2.1; omega))
  · intro ho
    refine Decidable.byContradiction fun hm => ?_
    obtain ⟨f, h1, h2, h3, h4, h5⟩ := moF_some hm
    have hf : f - 1 + 1 = f := by omega
    rw [← hf] at h4
    exact ofA_none ho (f - 1) (by omega) ((open_iff h hr (by omega)).mp h4)
theorem mof_some {z t nP : Nat} {σ τ : os_S} (h : Rel0 z t nP σ τ) {r : Nat} {k : Int32} (hr : r < 8) {u : Nat} (ho : ofA σ r k 40 = some u) : mof τ (nI r) k = nI (u + 1) ∧ u < os_n σ 10 := by
  have e : mFt τ = os_n σ 10 := by show iN (os_g τ 13 13 0) = _; rw [h.C.2.2.2.2.2.2.2.1, iN9 (by have := h.n10; omega)]
  have e10 := h.n10
  have hm : ¬ mof τ (nI r) k ≤ 0 := fun hm => by rw [(mof_none h hr).mp hm] at ho; cases ho
  unfold mof at hm ⊢
  rw [e] at hm ⊢
  obtain ⟨f, h1, h2, h3, h4, h5⟩ := moF_some hm
  obtain ⟨u1, u2, u3⟩ := ofA_some ho
  rw [h3]
  have hf : f - 1 + 1 = f := by omega
  have h6 : f - 1 = u := by
    rw [← hf] at h4
    have h7 := (open_iff h hr (by omega)).mp h4
    have := u2.1
    by_cases g1 : f - 1 < u
    · exact absurd h7 (u3 _ g1)
    · by_cases g2 : u < f - 1
      · exact absurd ((open_iff h hr u2.1).mpr u2) (h5 (u + 1) (by omega) (by omega))
      · omega
  exact ⟨by rw [← h6, hf], u2.1⟩
/-! THE OPEN KINDS -/
def okN (σ : os_S) (r : Nat) : Nat → Nat
  | 0 => 0
  | j + 1 => if j < os_n σ 10 ∧ fop σ j = true ∧ fR σ j = r then okN σ r j ||| 2 ^ (iN (os_g σ 10 2 j)) else okN σ r j
def mokN (τ : os_S) (x : Int32) : Nat → Nat
  | 0 => 0
  | k + 1 => if mof τ x (nI k) ≤ 0 then mokN τ x k else mokN τ x k ||| 2 ^ k
theorem okF_N {σ : os_S} {r : Nat} (hk : ∀ j, j < os_n σ 10 → ∃ a, a < 8 ∧ os_g σ 10 2 j = nI a) : ∀ n, okF σ r n = nI (okN σ r n)
  | 0 => rfl
  | j + 1 => by
    rw [okF, okN, okF_N hk j]
    split
    · rename_i hc
      obtain ⟨a, ha, e⟩ := hk j hc.1
      rw [e, nI_shl (by omega), iN9 (by omega), nI_or]
    · rfl
theorem okN_bit {σ : os_S} {r k : Nat} : ∀ n, (okN σ r n).testBit k = true ↔ ∃ j, j < n ∧ (j < os_n σ 10 ∧ fop σ j = true ∧ fR σ j = r) ∧ iN (os_g σ 10 2 j) = k
  | 0 => by simp [okN]
  | j + 1 => by
    rw [okN]
    split
    · rename_i hc
      rw [Nat.testBit_or, Bool.or_eq_true, okN_bit j, Nat.testBit_two_pow, decide_eq_true_iff]
      constructor
      · rintro (⟨u, h1, h2⟩ | h1)
        · exact ⟨u, by omega, h2⟩
        · exact ⟨j, by omega, hc, h1⟩
      · rintro ⟨u, h1, h2, h3⟩
        by_cases e : u = j
        · subst e; exact Or.inr h3
        · exact Or.inl ⟨u, by omega, h2, h3⟩
    · rename_i hc
      rw [okN_bit j]
      constructor
      · rintro ⟨u, h1, h2⟩
        exact ⟨u, by omega, h2⟩
      · rintro ⟨u, h1, h2, h3⟩
        by_cases e : u = j
        · subst e; exact absurd h2 hc
        · exact ⟨u, by omega, h2, h3⟩
theorem mok_N {τ : os_S} {x : Int32} : ∀ n, n ≤ 8 → mok τ x n = nI (mokN τ x n)
  | 0, _ => rfl
  | k + 1, h => by
    rw [mok, mokN, mok_N k (by omega)]
    split
    · exact Int32.or_zero
    · rw [nI_shl (by omega), nI_or]
theorem mokN_bit {τ : os_S} {x : Int32} {k : Nat} : ∀ n, (mokN τ x n).testBit k = true ↔ k < n ∧ ¬ mof τ x (nI k) ≤ 0
  | 0 => by simp [mokN]
  | j + 1 => by
    rw [mokN]
    split
    · rename_i hc
      rw [mokN_bit j]
      constructor
      · rintro ⟨h1, h2⟩; exact ⟨by omega, h2⟩
      · rintro ⟨h1, h2⟩
        by_cases e : k = j
        · subst e; exact absurd hc h2
        · exact ⟨by omega, h2⟩
    · rename_i hc
      rw [Nat.testBit_or, Bool.or_eq_true, mokN_bit j, Nat.testBit_two_pow, decide_eq_true_iff]
      constructor
      · rintro (⟨h1, h2⟩ | rfl)
        · exact ⟨by omega, h2⟩
        · exact ⟨by omega, hc⟩
      · rintro ⟨h1, h2⟩
        by_cases e : k = j
        · exact Or.inr e.symm
        · exact Or.inl ⟨by omega, h2⟩
theorem okM {z t nP : Nat} {σ τ : os_S} (h : Rel z t nP σ τ) {r : Nat} (hr : r < os_n σ 9) : okF σ r 40 = mok τ (nI r) 8 := by
  have h8 := h.n9
  have h10 := h.n10
  have hk : ∀ j, j < os_n σ 10 → ∃ a, a < 8 ∧ os_g σ 10 2 j = nI a := fun j hj => (h.F hj).2.2.2.2.2.2.2.2.2.2.2.2.1
  rw [okF_N hk, mok_N 8 (by omega)]
  refine congrArg nI (Nat.eq_of_testBit_eq fun k => ?_)
  rw [Bool.eq_iff_iff, okN_bit, mokN_bit, mof_none h.zero (by omega)]
  constructor
  · rintro ⟨j, h1, h2, h3⟩
    obtain ⟨a, ha, e⟩ := hk j h2.1
    rw [e, iN9 (by omega)] at h3
    subst h3
    exact ⟨ha, fun ho => ofA_none ho j h1 ⟨h2.1, h2.2.1, h2.2.2, e⟩⟩
  · rintro ⟨h1, h2⟩
    cases ho : ofA σ r (nI k) 40 with
    | none => exact absurd ho h2
    | some u =>
      obtain ⟨u1, u2, -⟩ := ofA_some ho
      exact ⟨u, u1, ⟨u2.1, u2.2.1, u2.2.2.1⟩, by rw [u2.2.2.2, iN9 (by omega)]⟩
