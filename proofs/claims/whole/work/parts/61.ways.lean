theorem fiF_lt {σ : os_S} {b : Nat} : ∀ {j : Nat}, fiF σ j = some b → b < j ∧ b < os_n σ 11
  | 0, h => by cases h
  | j + 1, h => by
    rw [fiF] at h
    split at h
    · rename_i c
      split at h
      · cases h; exact ⟨by omega, c.1⟩
      · rename_i b' e
        split at h
        · cases h; exact ⟨by omega, c.1⟩
        · cases h; have := fiF_lt e; exact ⟨by omega, this.2⟩
    · have := fiF_lt h; exact ⟨by omega, this.2⟩
section
variable {z t nP : Nat} {σ τ : os_S}
theorem fi_sim (h : Rel z t nP σ τ) : ∀ j, j ≤ os_n σ 11 → fiF σ j = mfi τ j
  | 0, _ => rfl
  | j + 1, hj => by
    have i := fi_sim h j (by omega)
    have a := h.A (i := j) (by omega)
    rw [fiF, mfi, ← i, ← a.2.2.2.2.2.2.1]
    by_cases c : os_g σ 11 6 j = -1
    · rw [if_pos ⟨by omega, c⟩, if_pos c]
      cases e : fiF σ j with
      | none => rfl
      | some b =>
        have hb := fiF_lt e
        have a2 := h.A (i := b) hb.2
        have k : cb σ j b = mfb τ j b := by
          unfold cb mfb
          rw [← a.2.2.2.2.1, ← a.2.2.2.1, ← a2.2.2.2.2.1, ← a2.2.2.2.1]
          by_cases c2 : os_g σ 11 4 j = os_g σ 11 4 b
          · rw [if_pos c2, c2]
            have : ¬ os_g σ 11 4 b < os_g σ 11 4 b := Int32.lt_irrefl
            simp [this]
          · rw [if_neg c2]
            simp [c2]
        simp only [k]
    · rw [if_neg (fun w => c w.2), if_neg c]
theorem fi_rest : ∀ d, fiF σ (os_n σ 11 + d) = fiF σ (os_n σ 11)
  | 0 => rfl
  | d + 1 => by rw [show os_n σ 11 + (d + 1) = os_n σ 11 + d + 1 from by omega, fiF, if_neg (fun w => by omega)]; exact fi_rest d
theorem fi_end (h : Rel z t nP σ τ) : fiF σ 40 = mfi τ (iN (os_g τ 13 24 0)) := by
  have h11 := h.n11
  have e := fi_rest (σ := σ) (40 - os_n σ 11)
  rw [show os_n σ 11 + (40 - os_n σ 11) = 40 from by omega] at e
  rw [e, h.C.2.2.2.2.2.2.2.2.1, iN9 (by omega)]
  exact fi_sim h _ (Nat.le_refl _)
theorem oc_sim (h : Rel z t nP σ τ) : ∀ j, j ≤ os_n σ 10 → ocF σ j = mcf τ 3 j ∧ osF σ (os_g σ 0 10 0) j = mcf τ 7 j
  | 0, _ => ⟨rfl, rfl⟩
  | j + 1, hj => by
    obtain ⟨i1, i2⟩ := oc_sim h j (by omega)
    have f := h.F (i := j) (by omega)
    have et : os_g σ 0 10 0 = os_g τ 13 1 0 := h.C.2.2.2.1.trans h.C.2.2.2.2.1.symm
    rw [ocF, osF, mcf, mcf, ← i1, ← i2, if_pos (show j < os_n σ 10 from by omega)]
    unfold mc1
    rw [← f.2.2.2.2.1, ← f.2.2.2.1, ← et, if_pos rfl, if_neg (show ¬ (7 : Int32) = 3 from by decide), if_pos rfl]
    have hj2 : j < os_n σ 10 := by omega
    by_cases c : os_g σ 10 10 j = -1
    · rw [if_pos ⟨hj2, fop_iff.mpr c⟩, if_pos (fop_iff.mpr c), if_pos c, if_pos c]
      exact ⟨rfl, rfl⟩
    · rw [if_neg (fun w => c (fop_iff.mp w.2)), if_neg (fun w => c (fop_iff.mp w)), if_neg c, if_neg c, Int32.add_zero]
      exact ⟨rfl, rfl⟩
theorem uc_sim (h : Rel z t nP σ τ) : ∀ j, j ≤ os_n σ 11 → ucF σ j = mca τ 5 0 j
  | 0, _ => rfl
  | j + 1, hj => by
    have i := uc_sim h j (by omega)
    have a := h.A (i := j) (by omega)
    rw [ucF, mca, ← i]
    unfold mc2
    rw [← a.2.2.2.2.2.2.1]
    by_cases c : os_g σ 11 6 j = -1
    · rw [if_pos ⟨by omega, c⟩, if_pos ⟨rfl, c⟩]
    · rw [if_neg (fun w => c w.2), if_neg (fun w => c w.2), Int32.add_zero]
theorem oc_rest : ∀ d, ocF σ (os_n σ 10 + d) = ocF σ (os_n σ 10) ∧ osF σ (os_g σ 0 10 0) (os_n σ 10 + d) = osF σ (os_g σ 0 10 0) (os_n σ 10)
  | 0 => ⟨rfl, rfl⟩
  | d + 1 => by
    rw [show os_n σ 10 + (d + 1) = os_n σ 10 + d + 1 from by omega, ocF, osF, if_neg (fun w => by omega), if_neg (fun w => by omega)]
    exact oc_rest d
theorem uc_rest : ∀ d, ucF σ (os_n σ 11 + d) = ucF σ (os_n σ 11)
  | 0 => rfl
  | d + 1 => by rw [show os_n σ 11 + (d + 1) = os_n σ 11 + d + 1 from by omega, ucF, if_neg (fun w => by omega)]; exact uc_rest d
theorem mcf_5 : ∀ j, mcf τ 5 j = 0
  | 0 => rfl
  | j + 1 => by rw [mcf, mcf_5 j]; unfold mc1; rw [if_neg (by decide), if_neg (by decide)]; rfl
theorem mca_n {w n0 : Int32} (hw : ¬ w = 5) : ∀ j, mca τ w n0 j = n0
  | 0 => rfl
  | j + 1 => by rw [mca, mca_n hw j]; unfold mc2; rw [if_neg (fun c => hw c.1), Int32.add_zero]
theorem ct_end (h : Rel z t nP σ τ) : ocF σ 40 = mct τ 3 ∧ ucF σ 40 = mct τ 5 ∧ osF σ (os_g σ 0 10 0) 40 = mct τ 7 := by
  have h11 := h.n11
  have h10 := h.n10
  have e := oc_rest (σ := σ) (40 - os_n σ 10)
  rw [show os_n σ 10 + (40 - os_n σ 10) = 40 from by omega] at e
  have e2 := uc_rest (σ := σ) (40 - os_n σ 11)
  rw [show os_n σ 11 + (40 - os_n σ 11) = 40 from by omega] at e2
  obtain ⟨o1, o2⟩ := oc_sim h _ (Nat.le_refl _)
  unfold mct
  rw [e.1, e2, e.2, h.C.2.2.2.2.2.2.2.2.1, h.C.2.2.2.2.2.2.2.1, iN9 (by omega), iN9 (by omega), mca_n (w := 3) (by decide), mca_n (w := 7) (by decide), mcf_5]
  exact ⟨o1, uc_sim h _ (Nat.le_refl _), o2⟩
end
def nbN (σ : os_S) (p : Nat) : Nat := iN (os_g σ 2 p 0)
def arN (σ : os_S) (m : Nat) : Nat → Nat
  | 0 => 0
  | j + 1 => if m.testBit j = true then arN σ m j ||| nbN σ j else arN σ m j
def rcN (σ : os_S) (z f : Nat) : Nat → Nat
  | 0 => 2 ^ f
  | n + 1 => rcN σ z f n ||| arN σ (rcN σ z f n) z
theorem nbN_eq {σ : os_S} (h : eK2 σ) {p : Nat} (hp : p < 20) : os_g σ 2 p 0 = nI (nbN σ p) ∧ nbN σ p < 2 ^ 20 := by
  obtain ⟨m, h1, h2⟩ := h p hp
  unfold nbN
  rw [h2, iN9 (by omega)]
  exact ⟨rfl, h1⟩
theorem arN_lt {σ : os_S} (h : eK2 σ) {m : Nat} : ∀ n, n ≤ 20 → arN σ m n < 2 ^ 20
  | 0, _ => by rw [arN]; decide
  | n + 1, hn => by
    rw [arN]
    split
    · exact Nat.or_lt_two_pow (arN_lt h n (by omega)) (nbN_eq h (by omega)).2
    · exact arN_lt h n (by omega)
theorem arF_N {σ : os_S} (h : eK2 σ) {m : Nat} (hm : m < 2 ^ 20) : ∀ n, n ≤ 20 → arF σ (nI m) n = nI (arN σ m n)
  | 0, _ => rfl
  | n + 1, hn => by
    rw [arF, arN, arF_N h hm n (by omega), holds_nI (by omega) (by omega)]
    split
    · rw [(nbN_eq h (show n < 20 from by omega)).1, nI_or]
    · rfl
theorem rcN_lt {σ : os_S} (h : eK2 σ) {z f : Nat} (hz : z ≤ 20) (hf : f < 20) : ∀ n, rcN σ z f n < 2 ^ 20
  | 0 => Nat.pow_lt_pow_right (by decide) hf
  | n + 1 => Nat.or_lt_two_pow (rcN_lt h hz hf n) (arN_lt h z hz)
theorem rch_N {σ : os_S} (h : eK2 σ) {z f : Nat} (hz : z ≤ 20) (hf : f < 20) : ∀ n, rch σ z ((1 : Int32) <<< (nI f &&& 31)) n = nI (rcN σ z f n)
  | 0 => nI_shl (by omega)
  | n + 1 => by rw [rch, rcN, rch_N h hz hf n, arF_N h (rcN_lt h hz hf n) z hz, nI_or]
theorem arN_bit {σ : os_S} {m q : Nat} : ∀ n, (arN σ m n).testBit q = true ↔ ∃ p, p < n ∧ m.testBit p = true ∧ (nbN σ p).testBit q = true
  | 0 => by simp [arN]
  | n + 1 => by
    rw [arN]
    split
    · rename_i c
      rw [Nat.testBit_or, Bool.or_eq_true, arN_bit n]
      constructor
      · rintro (⟨p, h1, h2⟩ | h1)
        · exact ⟨p, by omega, h2⟩
        · exact ⟨n, by omega, c, h1⟩
      · rintro ⟨p, h1, h2, h3⟩
        by_cases e : p = n
        · subst e; exact Or.inr h3
        · exact Or.inl ⟨p, by omega, h2, h3⟩
    · rename_i c
      rw [arN_bit n]
      constructor
      · rintro ⟨p, h1, h2⟩
        exact ⟨p, by omega, h2⟩
      · rintro ⟨p, h1, h2, h3⟩
        by_cases e : p = n
        · subst e; exact absurd h2 c
        · exact ⟨p, by omega, h2, h3⟩
section
variable {z t nP : Nat} {σ τ : os_S}
theorem nb_lk (h : Rel z t nP σ τ) {p q : Nat} (hp : p < 20) (hq : q < 20) : (nbN σ p).testBit q = lkM τ p q := by
  obtain ⟨e1, e2⟩ := nbN_eq h.K2 hp
  have k := (h.K p q hp hq).1
  rw [e1, holds_nI (by omega) (by omega)] at k
  exact k
theorem rc_S (h : Rel z t nP σ τ) {f : Nat} (hf : f < 20) : ∀ n q, q < 20 → ((rcN σ z f n).testBit q = true ↔ rS (lkM τ) z f n q)
  | 0, q, hq => by
    rw [rcN, rS, Nat.testBit_two_pow, decide_eq_true_iff]
    exact eq_comm
  | n + 1, q, hq => by
    have hz := h.C.2.2.1
    rw [rcN, rS, Nat.testBit_or, Bool.or_eq_true, arN_bit, rc_S h hf n q hq]
    refine or_congr Iff.rfl ⟨?_, ?_⟩
    · rintro ⟨p, h1, h2, h3⟩
      refine ⟨?_, p, h1, (rc_S h hf n p (by omega)).mp h2, by rw [← nb_lk h (by omega) hq]; exact h3⟩
      obtain ⟨e1, e2⟩ := nbN_eq h.K2 (show p < 20 from by omega)
      refine ((h.K p q (by omega) hq).2 ?_).2
      rw [e1, holds_nI (by omega) (by omega)]
      exact h3
    · rintro ⟨-, p, h1, h2, h3⟩
      exact ⟨p, h1, (rc_S h hf n p (by omega)).mpr h2, by rw [nb_lk h (by omega) hq]; exact h3⟩
/-- a class's bit is a way -/
theorem hold_S (h : Rel z t nP σ τ) {f q : Nat} (hf : f < 20) (hq : q < 20) (n : Nat) : rf_holds (rch σ z ((1 : Int32) <<< (nI f &&& 31)) n) (nI q) = true ↔ rS (lkM τ) z f n q := by
  have hz := h.C.2.2.1
  have hl := rcN_lt h.K2 hz hf n
  rw [rch_N h.K2 hz hf, holds_nI (by omega) (by omega)]
  exact rc_S h hf n q hq
end
/-! as many pieces as there may be: twenty links reach no more than nineteen -/
theorem rS_up {lk : Nat → Nat → Bool} {z f : Nat} {n q : Nat} : ∀ d, rS lk z f n q → rS lk z f (n + d) q
  | 0, h => h
  | d + 1, h => Or.inl (rS_up d h)
theorem rS_stop {lk : Nat → Nat → Bool} {z f n : Nat} (h : ∀ q, rS lk z f (n + 1) q → rS lk z f n q) : ∀ d q, rS lk z f (n + d) q → rS lk z f n q
  | 0, q, hq => hq
  | d + 1, q, hq => by
    rcases hq with hq | ⟨h0, p, h1, h2, h3⟩
    · exact rS_stop h d q hq
    · exact h q (Or.inr ⟨h0, p, h1, rS_stop h d p h2, h3⟩)
def cN (P : Nat → Bool) : Nat → Nat
  | 0 => 0
  | n + 1 => if P n = true then cN P n + 1 else cN P n
theorem cN_le {P : Nat → Bool} : ∀ n, cN P n ≤ n
  | 0 => Nat.le_refl _
  | n + 1 => by rw [cN]; have := cN_le (P := P) n; split <;> omega
theorem cN_mono {P Q : Nat → Bool} (h : ∀ q, P q = true → Q q = true) : ∀ n, cN P n ≤ cN Q n
  | 0 => Nat.le_refl _
  | n + 1 => by
    have i := cN_mono h n
    rw [cN, cN]
    by_cases c : P n = true
    · rw [if_pos c, if_pos (h n c)]; omega
    · rw [if_neg c]; split <;> omega
theorem cN_lt {P Q : Nat → Bool} (h : ∀ q, P q = true → Q q = true) {x : Nat} (h1 : ¬ P x = true) (h2 : Q x = true) : ∀ n, x < n → cN P n < cN Q n
  | 0, hx => absurd hx (Nat.not_lt_zero _)
  | n + 1, hx => by
    rw [cN, cN]
    by_cases e : x = n
    · subst e
      have := cN_mono h x
      rw [if_neg h1, if_pos h2]; omega
    · have i := cN_lt h h1 h2 n (by omega)
      by_cases c : P n = true
      · rw [if_pos c, if_pos (h n c)]; omega
      · rw [if_neg c]; split <;> omega
theorem cN_pos {P : Nat → Bool} {x : Nat} (h : P x = true) : ∀ n, x < n → 0 < cN P n
  | 0, hx => absurd hx (Nat.not_lt_zero _)
  | n + 1, hx => by
    rw [cN]
    by_cases e : x = n
    · subst e; rw [if_pos h]; omega
    · have := cN_pos h n (by omega)
      split <;> omega
section
variable {z t nP : Nat} {σ τ : os_S}
/-- twenty links reach no more than nineteen -/
theorem rS_20 (h : Rel z t nP σ τ) {f q : Nat} (hf : f < 20) (hq : q < 20) (h2 : rS (lkM τ) z f 20 q) : rS (lkM τ) z f 19 q := by
  refine Decidable.byContradiction (dec := Classical.propDecidable _) fun hn => ?_
  have hz := h.C.2.2.1
  have sub : ∀ n u, (rcN σ z f n).testBit u = true → (rcN σ z f (n + 1)).testBit u = true := fun n u hu => by rw [rcN, Nat.testBit_or, hu]; rfl
  have grow : ∀ n, n ≤ 19 → n + 1 ≤ cN (fun u => (rcN σ z f n).testBit u) 20 ∧ n + 2 ≤ cN (fun u => (rcN σ z f (n + 1)).testBit u) 20 := by
    intro n
    induction n with
    | zero =>
      intro _
      have a : 0 < cN (fun u => (rcN σ z f 0).testBit u) 20 := cN_pos (x := f) ((rc_S h hf 0 f hf).mpr rfl) 20 hf
      refine ⟨by omega, ?_⟩
      obtain ⟨x, x1, x2, x3⟩ : ∃ x, x < 20 ∧ rS (lkM τ) z f 1 x ∧ ¬ rS (lkM τ) z f 0 x := by
        refine Decidable.byContradiction (dec := Classical.propDecidable _) fun w => hn ?_
        have st : ∀ u, rS (lkM τ) z f (0 + 1) u → rS (lkM τ) z f 0 u := fun u hu => Decidable.byContradiction (dec := Classical.propDecidable _) fun w2 => w ⟨u, by rcases hu with hu | hu; exact absurd hu w2; have := hu.1; omega, hu, w2⟩
        have := rS_stop st 20 q (by rw [Nat.zero_add]; exact h2)
        have q19 := rS_up 19 this
        rw [Nat.zero_add] at q19
        exact q19
      have b := cN_lt (P := fun u => (rcN σ z f 0).testBit u) (Q := fun u => (rcN σ z f 1).testBit u) (sub 0) (x := x) (fun w => x3 ((rc_S h hf 0 x x1).mp w)) ((rc_S h hf 1 x x1).mpr x2) 20 x1
      show 0 + 2 ≤ cN (fun u => (rcN σ z f 1).testBit u) 20
      omega
    | succ n ih =>
      intro hn19
      obtain ⟨-, i2⟩ := ih (by omega)
      refine ⟨i2, ?_⟩
      obtain ⟨x, x1, x2, x3⟩ : ∃ x, x < 20 ∧ rS (lkM τ) z f (n + 1 + 1) x ∧ ¬ rS (lkM τ) z f (n + 1) x := by
        refine Decidable.byContradiction (dec := Classical.propDecidable _) fun w => hn ?_
        have st : ∀ u, rS (lkM τ) z f (n + 1 + 1) u → rS (lkM τ) z f (n + 1) u := fun u hu => Decidable.byContradiction (dec := Classical.propDecidable _) fun w2 => w ⟨u, by rcases hu with hu | hu; exact absurd hu w2; have := hu.1; omega, hu, w2⟩
        have := rS_stop st (20 - (n + 1)) q (by rw [show n + 1 + (20 - (n + 1)) = 20 from by omega]; exact h2)
        have q19 := rS_up (19 - (n + 1)) this
        rw [show n + 1 + (19 - (n + 1)) = 19 from by omega] at q19
        exact q19
      have b := cN_lt (P := fun u => (rcN σ z f (n + 1)).testBit u) (Q := fun u => (rcN σ z f (n + 1 + 1)).testBit u) (sub (n + 1)) (x := x) (fun w => x3 ((rc_S h hf (n + 1) x x1).mp w)) ((rc_S h hf (n + 1 + 1) x x1).mpr x2) 20 x1
      omega
  have g := (grow 19 (Nat.le_refl _)).2
  have l := cN_le (P := fun u => (rcN σ z f (19 + 1)).testBit u) 20
  omega
end
section
variable {z t nP : Nat} {σ τ : os_S}
theorem may_iff (h : Rel z t nP σ τ) {f p q : Nat} {g : Nat → Nat} (hg : farO (lkM τ) z f g) (hf : f < 20) (hp : p < 20) : (g p < 20 ∧ g p ≤ q) ↔ rf_holds (rch σ z ((1 : Int32) <<< (nI f &&& 31)) (min q 20)) (nI p) = true := by
  rw [hold_S h hf hp]
  obtain ⟨g1, g2⟩ := hg p hp
  by_cases c : q < 20
  · rw [Nat.min_eq_left (by omega), ← g2 q c]
    omega
  · rw [Nat.min_eq_right (by omega)]
    constructor
    · rintro ⟨a, b⟩
      exact rS_up 1 ((g2 19 (by decide)).mp (by omega))
    · intro w
      have := (g2 19 (by decide)).mpr (rS_20 h hf hp w)
      omega
theorem fl_spec {P : Nat → Bool} : ∀ n j, (fl P n j = j + n ∨ P (fl P n j) = true) ∧ j ≤ fl P n j ∧ fl P n j ≤ j + n ∧ ∀ k, j ≤ k → k < fl P n j → ¬ P k = true
  | 0, j => ⟨Or.inl rfl, Nat.le_refl _, Nat.le_refl _, fun k h1 h2 => absurd h2 (by rw [fl]; omega)⟩
  | n + 1, j => by
    rw [fl]
    split
    · rename_i c
      exact ⟨Or.inr c, Nat.le_refl _, by omega, fun k h1 h2 => absurd h2 (by omega)⟩
    · rename_i c
      obtain ⟨a, b, d, e⟩ := fl_spec (P := P) n (j + 1)
      refine ⟨a.imp (fun w => by omega) id, by omega, by omega, fun k h1 h2 => ?_⟩
      by_cases w : k = j
      · subst w; exact c
      · exact e k (by omega) h2
/-- the fewest links -/
theorem few_eq (h : Rel z t nP σ τ) {f p : Nat} {g : Nat → Nat} (hg : farO (lkM τ) z f g) (hf : f < 20) (hp : p < 20) (hl : g p < 20) : fl (flP σ z (nI f) (nI p)) 20 0 = g p := by
  obtain ⟨a, b, c, d⟩ := fl_spec (P := flP σ z (nI f) (nI p)) 20 0
  obtain ⟨g1, g2⟩ := hg p hp
  have key : ∀ k, k < 20 → (flP σ z (nI f) (nI p) k = true ↔ g p ≤ k) := fun k hk => by
    unfold flP
    rw [hold_S h hf hp, Nat.min_eq_left (by omega), ← g2 k hk]
  generalize fl (flP σ z (nI f) (nI p)) 20 0 = m at *
  have h1 : m ≤ g p := Decidable.byContradiction fun w => d (g p) (by omega) (by omega) ((key _ hl).mpr (Nat.le_refl _))
  rcases a with a | a
  · omega
  · have := (key m (by omega)).mp a
    omega
theorem zn_mzn {x : Int32} {P : Nat → Bool} {l : Int32} : ∀ n p d (l : Int32), (∀ q, p ≤ q → q < p + n → (rf_holds x (nI q) = true ↔ P q = true)) → (∀ q, p + n ≤ q → q < p + n + d → ¬ rf_holds x (nI q) = true) → zn x (n + d) p l = mzn P n p l
  | 0, p, 0, l, _, _ => by rw [zn, mzn]
  | 0, p, d + 1, l, h1, h2 => by
    have i := zn_mzn (P := P) (l := l) 0 (p + 1) d l (fun q a b => absurd b (by omega)) (fun q a b => h2 q (by omega) (by omega))
    rw [show 0 + (d + 1) = (0 + d) + 1 from by omega, zn, if_neg (h2 p (by omega) (by omega)), i, mzn, mzn]
  | n + 1, p, d, l, h1, h2 => by
    rw [show n + 1 + d = (n + d) + 1 from by omega, zn, mzn]
    have k := h1 p (Nat.le_refl _) (by omega)
    have i := fun l2 => zn_mzn (P := P) (l := l) n (p + 1) d l2 (fun q a b => h1 q (by omega) (by omega)) (fun q a b => h2 q (by omega) (by omega))
    by_cases c : P p = true
    · rw [if_pos c, if_pos (k.mpr c), i]
    · rw [if_neg c, if_neg (fun w => c (k.mp w)), i]
end
theorem fEq.cuC {τ u : os_S} (h : fEq τ u) : cuC u = cuC τ := cuC_ext fun K hK => ⟨h.n K, h.l K, fun j i => h.2.2.2 K j i (by omega), h.r K⟩
/-- the store with its row of distances left out -/
def cuF (τ : os_S) : os_S := (τ.1, τ.2.1, fun K j i => if K = 44 then 0 else τ.2.2.1 K j i, τ.2.2.2)
theorem fEq.cuF {τ u : os_S} (h : fEq τ u) : cuF u = cuF τ := by
  refine Prod.ext h.1 (Prod.ext h.2.1 (Prod.ext (funext fun K => funext fun j => funext fun i => ?_) h.2.2.1))
  show (if K = 44 then 0 else _) = if K = 44 then 0 else _
  split
  · rfl
  · exact h.2.2.2 K j i ‹_›
theorem Rel_cuF {z t nP : Nat} {σ τ : os_S} : Rel z t nP σ (cuF τ) ↔ Rel z t nP σ τ := by
  unfold Rel
  exact and_congr Iff.rfl (and_congr (and_congr Iff.rfl Iff.rfl) Iff.rfl)
theorem Rel.fEq {z t nP : Nat} {σ τ u : os_S} (h : Rel z t nP σ τ) (he : fEq τ u) : Rel z t nP σ u := Rel_cuF.mp (he.cuF ▸ Rel_cuF.mpr h)
