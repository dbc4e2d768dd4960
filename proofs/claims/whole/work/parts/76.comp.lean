/-! THE LAW'S COMPARISONS -/
def tabOK (T : List (String × Int32)) : Bool := T.all (fun p => p.2 != 0 && T.all (fun q => p.1 != q.1 || p.2 == q.2))
theorem tabOK.nz {T : List (String × Int32)} (h : tabOK T = true) {E : String} {a : Int32} (h1 : (E, a) ∈ T) : ¬ a = 0 := by
  have := List.all_eq_true.mp h _ h1
  simp at this
  exact this.1
theorem tabOK.eq {T : List (String × Int32)} (h : tabOK T = true) {E : String} {a b : Int32} (h1 : (E, a) ∈ T) (h2 : (E, b) ∈ T) : a = b := by
  have := List.all_eq_true.mp h _ h1
  simp at this
  rcases this.2 E b h2 with w | w
  · exact absurd rfl w
  · exact w
theorem Rel.MJ {z t nP : Nat} {σ τ : os_S} (h : Rel z t nP σ τ) : MJ τ := by
  refine ⟨h.2.1, ?_⟩
  have hC := h.C
  rw [hC.2.2.2.2.2.2.2.1, hC.2.2.2.2.2.2.2.2.1, iN9 (by have := h.n10; have := h.n11; omega), iN9 (by have := h.n10; have := h.n11; omega)]
  exact hC.2.2.2.2.2.2.2.2.2.2.2.2
section
variable {T : List (String × Int32)} {Q : os_O → os_S → (Nat → Nat → Nat) → Prop} {σ σ1 σ2 : os_S} {ad1 : Nat → Nat → Nat} {r : os_O} {k b : Int32}
theorem hI.v {v : Option Value} (h : hI T Q (.inl v) σ1 ad1) : ∃ k, v = some (.int k) := by
  obtain ⟨_, _, _, ⟨_, _, _, h⟩ | ⟨_, _, _, _, _, h⟩⟩ := h
  · cases h; exact ⟨_, rfl⟩
  · cases h; exact ⟨_, rfl⟩
theorem hV0.v {v : Option Value} (h : hV0 T Q (.inl v) σ1 ad1) : ∃ k, v = some (.int k) := by
  obtain ⟨_, _, _, ⟨_, _, h⟩ | ⟨_, _, _, _, _, h⟩⟩ := h
  · cases h; exact ⟨_, rfl⟩
  · cases h; exact ⟨_, rfl⟩
theorem hI.x {E : String} (h : hI T Q (.inr E) σ1 ad1) : False := by
  obtain ⟨_, _, _, ⟨_, _, _, h⟩ | ⟨_, _, _, _, _, h⟩⟩ := h <;> cases h
theorem hV0.x {E : String} (h : hV0 T Q (.inr E) σ1 ad1) : False := by
  obtain ⟨_, _, _, ⟨_, _, h⟩ | ⟨_, _, _, _, _, h⟩⟩ := h <;> cases h
theorem hI.m (h : hI T Q r σ1 ad1) (hfm : ∀ r0 σc, Q r0 σc ad1 → FM σ σc) : cuM σ = cuM σ1 ∧ os_n σ1 45 = os_n σ 45 ∧ os_l σ1 45 0 = os_l σ 45 0 := by
  obtain ⟨r0, σc, hq, h⟩ := h
  have f := hfm r0 σc hq
  have n := congrArg (fun z => z.1) f.2
  have l := congrArg (fun z => z.2.1) f.2
  rcases h with ⟨v, -, rfl, -⟩ | ⟨E, k, -, -, rfl, -⟩
  · exact ⟨f.1.trans (cuM_sg (by decide)).symm, n.symm, l.symm⟩
  · exact ⟨f.1, n.symm, l.symm⟩
theorem hV0.m (h : hV0 T Q r σ1 ad1) (hfm : ∀ r0 σc, Q r0 σc ad1 → FM σ σc) : cuM σ = cuM σ1 ∧ os_n σ1 45 = os_n σ 45 ∧ os_l σ1 45 0 = os_l σ 45 0 := by
  obtain ⟨r0, σc, hq, h⟩ := h
  have f := hfm r0 σc hq
  have n := congrArg (fun z => z.1) f.2
  have l := congrArg (fun z => z.2.1) f.2
  rcases h with ⟨-, rfl, -⟩ | ⟨E, k, -, -, rfl, -⟩
  · exact ⟨f.1, n.symm, l.symm⟩
  · exact ⟨f.1, n.symm, l.symm⟩
theorem glI (hp : hI T Q (.inl (some (.int k))) σ1 ad1) (hT : tabOK T = true) (hfc : FC σ1 σ2) (ok : ∀ r0 σc, Q r0 σc ad1 → (∃ z t nP, Rel z t nP σc σ2) ∧ agI T (os_g σ2 13 0 0) r0 (.inl (some (.int b)))) : (∃ z t nP, Rel z t nP σ2 σ2) ∧ os_g σ2 13 0 0 = k ∧ (k = 0 → os_g σ2 45 0 0 = b) := by
  obtain ⟨r0, σc, hq, h⟩ := hp
  obtain ⟨⟨z, t, nP, hr⟩, ag⟩ := ok r0 σc hq
  have g := congrArg (fun z => z.2.2) hfc.2
  rcases h with ⟨v, rfl, rfl, h⟩ | ⟨E, k', hE, rfl, rfl, h⟩
  · cases h
    rcases ag with ⟨c, w, h1, h2⟩ | ⟨E, w, -, h1, -⟩
    · cases h1
      cases h2
      have g : os_g (os_sg σc 45 0 0 b) 45 0 0 = os_g σ2 45 0 0 := g
      refine ⟨⟨z, t, nP, hr.to ((cuC_sg (by decide)).symm.trans hfc.1) rfl⟩, c, fun _ => ?_⟩
      rw [← g, os_g_sg, if_pos ⟨rfl, rfl, rfl⟩]
    · cases h1
  · cases h
    rcases ag with ⟨c, w, h1, h2⟩ | ⟨E', w, hE', h1, -⟩
    · cases h1
    · cases h1
      exact ⟨⟨z, t, nP, hr.to hfc.1 rfl⟩, tabOK.eq hT hE' hE, fun e => absurd e (tabOK.nz hT hE)⟩
theorem glV (hp : hV0 T Q (.inl (some (.int k))) σ1 ad1) (hT : tabOK T = true) (hfc : FC σ1 σ2) (ok : ∀ r0 σc, Q r0 σc ad1 → (∃ z t nP, Rel z t nP σc σ2) ∧ agV T (os_g σ2 13 0 0) r0 (.inl none)) : (∃ z t nP, Rel z t nP σ2 σ2) ∧ os_g σ2 13 0 0 = k := by
  obtain ⟨r0, σc, hq, h⟩ := hp
  obtain ⟨⟨z, t, nP, hr⟩, ag⟩ := ok r0 σc hq
  rcases h with ⟨rfl, rfl, h⟩ | ⟨E, k', hE, rfl, rfl, h⟩
  · cases h
    rcases ag with ⟨c, h1, h2⟩ | ⟨E, -, h1, -⟩
    · exact ⟨⟨z, t, nP, hr.to hfc.1 rfl⟩, c⟩
    · cases h1
  · cases h
    rcases ag with ⟨c, h1, h2⟩ | ⟨E', hE', h1, -⟩
    · cases h1
    · cases h1
      exact ⟨⟨z, t, nP, hr.to hfc.1 rfl⟩, tabOK.eq hT hE' hE⟩
end
theorem FC.n45 {σ τ : os_S} (h : FC σ τ) : os_n τ 45 = os_n σ 45 ∧ os_l τ 45 0 = os_l σ 45 0 := ⟨(congrArg (fun z => z.1) h.2).symm, (congrArg (fun z => z.2.1) h.2).symm⟩
/-- the places of a zone, for the reference's walk -/
theorem zone_P {z t nP : Nat} {σ τ : os_S} (h : Rel z t nP σ τ) (x : Int32) : ∃ P : Nat → Bool, (∀ g, farO (lkM τ) (iN (os_g τ 13 2 0)) (iN (os_g τ 15 (iN x) 0)) g → ∀ p, p < 20 → P p = mayB τ x (g p)) ∧ ∀ i q, i < os_n σ 9 → x = nI i → (os_g σ 0 10 0 - os_g σ 9 5 i) / 10 = nI q → q < 2 ^ 31 → P = lostP σ z i q := by
  have h9 := h.n9
  by_cases c : ∃ i, i < os_n σ 9 ∧ x = nI i
  · obtain ⟨i, hi, rfl⟩ := c
    obtain ⟨q, q1, q2⟩ := lost_q h hi
    refine ⟨lostP σ z i q, fun g hg p hp => may_eq h hi q1 q2 hg hp, fun i' q' hi' e1 e2 e3 => ?_⟩
    have a := nI_in2 e1 (by omega) (by omega)
    subst a
    have b := nI_inj (q2.symm.trans e2) q1 e3
    rw [b]
  · by_cases d : ∃ g, farO (lkM τ) (iN (os_g τ 13 2 0)) (iN (os_g τ 15 (iN x) 0)) g
    · obtain ⟨g0, h0⟩ := d
      refine ⟨fun p => mayB τ x (g0 p), fun g hg p hp => ?_, fun i q hi e => absurd ⟨i, hi, e⟩ c⟩
      obtain ⟨a1, a2⟩ := h0 p hp
      obtain ⟨b1, b2⟩ := hg p hp
      have e : g0 p = g p := by
        by_cases u : g0 p < g p
        · have := (b2 (g0 p) (by omega)).mpr ((a2 (g0 p) (by omega)).mp (Nat.le_refl _))
          omega
        · by_cases v : g p < g0 p
          · have := (a2 (g p) (by omega)).mpr ((b2 (g p) (by omega)).mp (Nat.le_refl _))
            omega
          · omega
      show mayB τ x (g0 p) = _
      rw [e]
    · exact ⟨fun _ => false, fun g hg => absurd ⟨g, hg⟩ d, fun i q hi e => absurd ⟨i, hi, e⟩ c⟩
/-- nothing made yet -/
def os_0 : os_S := (fun _ => 0, fun _ _ => 0, fun _ _ _ => 0, fun _ _ _ => none)
/-- the law's start -/
def os_1 : os_S := os_nw (mdI (os_nw (rfI (os_nw os_0 0 0)) 13 0)) 45 1
theorem rel_1 : Rel 0 0 0 os_1 os_1 := by
  have n9 : os_n os_1 9 = 0 := by decide +kernel
  have n10 : os_n os_1 10 = 0 := by decide +kernel
  have n11 : os_n os_1 11 = 0 := by decide +kernel
  refine ⟨?_, ⟨⟨?_, ?_, ?_⟩, ?_, ?_, ?_, ?_, ?_, ?_, ?_, ?_, ?_⟩, ?_, ⟨?_, ?_⟩, ⟨?_, ?_, ?_⟩, ?_, ?_, ?_, ?_, ?_, ?_, ?_, ?_, ⟨?_, ?_⟩⟩
  · unfold rfA; decide +kernel
  · exact fun K h1 h2 => (by decide +kernel : ∀ K, K < 45 → 13 ≤ K → os_n os_1 K = 1) K h2 h1
  · decide +kernel
  · exact fun K h1 h2 => (by decide +kernel : ∀ K, K < 45 → 14 ≤ K → os_l os_1 K 0 = mdL K) K h2 h1
  · unfold mdc; decide +kernel
  · unfold mdc; decide +kernel
  · unfold mdc; decide +kernel
  · unfold mdc; decide +kernel
  · unfold mdc; decide +kernel
  · unfold mdx; decide +kernel
  · unfold mdx; decide +kernel
  · unfold mdx; decide +kernel
  · unfold mdx; decide +kernel
  · unfold rfS; decide +kernel
  · unfold rfS; decide +kernel
  · intro i hi; rw [n10] at hi; exact absurd hi (Nat.not_lt_zero _)
  · unfold rfS; decide +kernel
  · intro i hi; rw [n11] at hi; exact absurd hi (Nat.not_lt_zero _)
  · intro i hi; rw [n11] at hi; exact absurd hi (Nat.not_lt_zero _)
  · unfold eC; decide +kernel
  · intro p q hp hq
    have a := (by decide +kernel : ∀ p, p < 20 → os_g os_1 2 p 0 = 0) p hp
    have b := (by decide +kernel : ∀ p, p < 400 → os_g os_1 14 p 0 = 0) (20 * p + q) (by omega)
    rw [a, b]
    have c : rf_holds 0 (nI q) = false := (by decide +kernel : ∀ q, q < 20 → rf_holds 0 (nI q) = false) q hq
    rw [c]
    exact ⟨rfl, fun w => by cases w⟩
  · intro p hp
    exact ⟨0, by decide, (by decide +kernel : ∀ p, p < 20 → os_g os_1 2 p 0 = nI 0) p hp⟩
  · unfold eU; decide +kernel
  · intro i hi; rw [n9] at hi; exact absurd hi (Nat.not_lt_zero _)
  · exact fun i h1 h2 => (by decide +kernel : ∀ i, i < 8 → os_g os_1 17 i 0 = 0 ∧ os_g os_1 18 i 0 = 0 ∧ os_g os_1 19 i 0 = 0) i h2
  · intro i hi; rw [n10] at hi; exact absurd hi (Nat.not_lt_zero _)
  · intro i hi; rw [n11] at hi; exact absurd hi (Nat.not_lt_zero _)
  · intro j hj; exact absurd hj (Nat.not_lt_zero _)
  · exact fun j h1 h2 => (by decide +kernel : ∀ j, j < 10 → os_r os_1 7 j 0 = none) j h2
theorem n45_1 : 0 < os_n os_1 45 ∧ os_l os_1 45 0 = 1 := by decide +kernel
