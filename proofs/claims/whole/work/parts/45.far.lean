/-! WAYS: distances in the reference -/
/-! WAYS: the pieces within so many links -/
def rS (lk : Nat → Nat → Bool) (z f : Nat) : Nat → Nat → Prop
  | 0, q => q = f
  | n + 1, q => rS lk z f n q ∨ (q < z ∧ ∃ p, p < z ∧ rS lk z f n p ∧ lk p q = true)
def lkM (τ : os_S) (p q : Nat) : Bool := decide (¬ os_g τ 14 (20 * p + q) 0 = 0)
/-- what the reference's row of distances says -/
def farO (lk : Nat → Nat → Bool) (z f : Nat) (g : Nat → Nat) : Prop := ∀ x, x < 20 → g x ≤ 20 ∧ ∀ e, e < 20 → (g x ≤ e ↔ rS lk z f e x)
/-- the zone, counted -/
def mzn (P : Nat → Bool) : Nat → Nat → Int32 → Int32
  | 0, _, _ => -1
  | n + 1, p, l => if P p = true then (if l = 0 then nI p else mzn P n (p + 1) (l + (-1))) else mzn P n (p + 1) l
/-! THE REFERENCE'S DISTANCES, loop by loop -/
def fEq (τ τ' : os_S) : Prop := τ'.1 = τ.1 ∧ τ'.2.1 = τ.2.1 ∧ τ'.2.2.2 = τ.2.2.2 ∧ ∀ K j i, K ≠ 44 → os_g τ' K j i = os_g τ K j i
theorem fEq.rf {τ : os_S} : fEq τ τ := ⟨rfl, rfl, rfl, fun _ _ _ _ => rfl⟩
theorem fEq.sg {τ u : os_S} {x : Nat} {v : Int32} (h : fEq τ u) : fEq τ (os_sg u 44 x 0 v) := ⟨h.1, h.2.1, h.2.2.1, fun K j i hK => by rw [os_g_sg, if_neg (fun w => hK w.1)]; exact h.2.2.2 K j i hK⟩
theorem fEq.trans {τ u v : os_S} (h : fEq τ u) (h2 : fEq u v) : fEq τ v := ⟨h2.1.trans h.1, h2.2.1.trans h.2.1, h2.2.2.1.trans h.2.2.1, fun K j i hK => (h2.2.2.2 K j i hK).trans (h.2.2.2 K j i hK)⟩
theorem fEq.n {τ u : os_S} (h : fEq τ u) (K : Nat) : os_n u K = os_n τ K := congrFun h.1 K
theorem fEq.l {τ u : os_S} (h : fEq τ u) (K i : Nat) : os_l u K i = os_l τ K i := congrFun (congrFun h.2.1 K) i
theorem fEq.r {τ u : os_S} (h : fEq τ u) (K j i : Nat) : os_r u K j i = os_r τ K j i := congrFun (congrFun (congrFun h.2.2.1 K) j) i
theorem fEq.MI {τ u : os_S} (h : fEq τ u) (hM : MI τ) : MI u := by
  obtain ⟨⟨a1, a2, a3⟩, m2, m3, m4, m5, m6, m7, m8, m9, m10⟩ := hM
  refine ⟨⟨fun K h1 h2 => by rw [h.n]; exact a1 K h1 h2, fun j h1 h2 => by rw [h.r]; exact a2 j h1 h2, fun K h1 h2 => by rw [h.l]; exact a3 K h1 h2⟩, ?_, ?_, ?_, ?_, ?_, fun i hi => ?_, fun i hi => ?_, fun i hi => ?_, fun i hi => ?_⟩
  · unfold mdc; rw [h.2.2.2 _ _ _ (by decide)]; exact m2
  · unfold mdc; rw [h.2.2.2 _ _ _ (by decide)]; exact m3
  · unfold mdc; rw [h.2.2.2 _ _ _ (by decide)]; exact m4
  · unfold mdc; rw [h.2.2.2 _ _ _ (by decide)]; exact m5
  · unfold mdc; rw [h.2.2.2 _ _ _ (by decide)]; exact m6
  · rw [h.2.2.2 _ _ _ (by decide)]; exact m7 i hi
  · rw [h.2.2.2 _ _ _ (by decide)]; exact m8 i hi
  · rw [h.2.2.2 _ _ _ (by decide)]; exact m9 i hi
  · rw [h.2.2.2 _ _ _ (by decide)]; exact m10 i hi
/-- its row of distances -/
def fC (u : os_S) (g : Nat → Nat) : Prop := ∀ x, x < 20 → os_g u 44 x 0 = nI (g x) ∧ g x ≤ 20
def gup (g : Nat → Nat) (x v : Nat) : Nat → Nat := fun y => if y = x then v else g y
theorem fC.up {u : os_S} {g : Nat → Nat} {x v : Nat} (h : fC u g) (hv : v ≤ 20) : fC (os_sg u 44 x 0 (nI v)) (gup g x v) := by
  intro y hy
  unfold gup
  by_cases e : y = x
  · rw [os_g_sg, if_pos ⟨rfl, e, rfl⟩, if_pos e]; exact ⟨rfl, hv⟩
  · rw [os_g_sg, if_neg (fun w => e w.2.1), if_neg e]; exact h y hy
def rI (lk : Nat → Nat → Bool) (z f d : Nat) (g : Nat → Nat) : Prop := ∀ x, x < 20 → (g x = 20 ∨ g x ≤ d) ∧ ∀ e, e ≤ d → e < 20 → (g x ≤ e ↔ rS lk z f e x)
def rC (lk : Nat → Nat → Bool) (z d q x0 : Nat) (g : Nat → Nat) (x : Nat) : Prop := g x = 20 ∧ x < z ∧ ((∃ q', q' < q ∧ g q' = d ∧ lk q' x = true) ∨ (x < x0 ∧ g q = d ∧ lk q x = true))
def rM (lk : Nat → Nat → Bool) (z d q x0 : Nat) (g g' : Nat → Nat) : Prop := ∀ x, x < 20 → (rC lk z d q x0 g x → g' x = d + 1) ∧ (¬ rC lk z d q x0 g x → g' x = g x)
section
variable {lk : Nat → Nat → Bool} {z f d q x0 : Nat} {g g' : Nat → Nat}
theorem rI_0 (h : ∀ x, x < 20 → g x = if x = f then 0 else 20) : rI lk z f 0 g := by
  intro x hx
  rw [h x hx]
  split
  · rename_i c
    refine ⟨Or.inr (Nat.le_refl _), fun e h1 h2 => ?_⟩
    have : e = 0 := by omega
    subst this
    exact ⟨fun _ => c, fun _ => Nat.le_refl _⟩
  · rename_i c
    refine ⟨Or.inl rfl, fun e h1 h2 => ?_⟩
    have : e = 0 := by omega
    subst this
    exact ⟨fun w => absurd w (by omega), fun w => absurd w c⟩
theorem rI_far (h : rI lk z f 20 g) (h2 : ∀ x, x < 20 → g x ≤ 20) : farO lk z f g := fun x hx => ⟨h2 x hx, fun e he => (h x hx).2 e (by omega) he⟩
theorem rM_0 : rM lk z d 0 0 g g := by
  intro x hx
  refine ⟨fun ⟨_, _, w⟩ => ?_, fun _ => rfl⟩
  rcases w with ⟨q', h1, _⟩ | ⟨h1, _⟩
  · exact absurd h1 (Nat.not_lt_zero _)
  · exact absurd h1 (Nat.not_lt_zero _)
theorem rM_q (h : rM lk z d q x0 g g') (hq : q < 20) (hd : d < 20) : g' q = d ↔ g q = d := by
  by_cases c : rC lk z d q x0 g q
  · have := (h q hq).1 c
    have c1 := c.1
    omega
  · rw [(h q hq).2 c]
theorem rM_write (h : rM lk z d q x0 g g') (hx : x0 < z) (hz : z ≤ 20) (hq : q < z) (hd : d < 20) (h1 : g' q = d) (h2 : lk q x0 = true) (h3 : g' x0 = 20) : rM lk z d q (x0 + 1) g (gup g' x0 (d + 1)) := by
  have e1 := (rM_q h (by omega) hd).mp h1
  intro x hx2
  unfold gup
  by_cases e : x = x0
  · subst e
    rw [if_pos rfl]
    refine ⟨fun _ => rfl, fun w => absurd ⟨?_, hx, Or.inr ⟨by omega, e1, h2⟩⟩ w⟩
    by_cases c : rC lk z d q x g x
    · exact c.1
    · rw [← (h x hx2).2 c]; exact h3
  · rw [if_neg e]
    have k : rC lk z d q (x0 + 1) g x ↔ rC lk z d q x0 g x := by
      unfold rC
      refine and_congr Iff.rfl (and_congr Iff.rfl (or_congr Iff.rfl (and_congr ⟨fun w => by omega, fun w => by omega⟩ Iff.rfl)))
    rw [k]
    exact h x hx2
theorem rM_skip (h : rM lk z d q x0 g g') (hx : x0 < z) (hz : z ≤ 20) (hq : q < z) (hd : d < 20) (h1 : ¬ (lk q x0 = true ∧ g' x0 = 20)) : rM lk z d q (x0 + 1) g g' := by
  intro x hx2
  have k : rC lk z d q x0 g x → rC lk z d q (x0 + 1) g x := fun ⟨a, b, c⟩ => ⟨a, b, c.imp id (fun ⟨c1, c2⟩ => ⟨by omega, c2⟩)⟩
  refine ⟨fun w => ?_, fun w => (h x hx2).2 (fun w2 => w (k w2))⟩
  by_cases c : rC lk z d q x0 g x
  · exact (h x hx2).1 c
  · obtain ⟨a, b, w2⟩ := w
    rcases w2 with w2 | ⟨w3, w4, w5⟩
    · exact absurd ⟨a, b, Or.inl w2⟩ c
    · by_cases e : x = x0
      · subst e
        exact absurd ⟨w5, by rw [(h x hx2).2 c]; exact a⟩ h1
      · exact absurd ⟨a, b, Or.inr ⟨by omega, w4, w5⟩⟩ c
theorem rM_next (h : rM lk z d q x0 g g') (hx : x0 = z ∨ ¬ g q = d) : rM lk z d (q + 1) 0 g g' := by
  intro x hx2
  have k : rC lk z d (q + 1) 0 g x ↔ rC lk z d q x0 g x := by
    unfold rC
    refine and_congr Iff.rfl ⟨fun ⟨a, b⟩ => ⟨a, ?_⟩, fun ⟨a, b⟩ => ⟨a, ?_⟩⟩
    · rcases b with ⟨q', h1, h2, h3⟩ | ⟨h1, _⟩
      · by_cases e : q' = q
        · subst e
          rcases hx with hx | hx
          · exact Or.inr ⟨by omega, h2, h3⟩
          · exact absurd h2 hx
        · exact Or.inl ⟨q', by omega, h2, h3⟩
      · exact absurd h1 (Nat.not_lt_zero _)
    · rcases b with ⟨q', h1, h2, h3⟩ | ⟨h1, h2, h3⟩
      · exact Or.inl ⟨q', by omega, h2, h3⟩
      · exact Or.inl ⟨q, by omega, h2, h3⟩
  rw [k]
  exact h x hx2
theorem rM_end (hq : q = z) (h : rM lk z d q 0 g g') (hi : rI lk z f d g) (hz : z ≤ 20) (hd : d < 20) : rI lk z f (d + 1) g' := by
  have hq := hq.symm
  subst hq
  intro x hx
  obtain ⟨a, b⟩ := hi x hx
  obtain ⟨m1, m2⟩ := h x hx
  by_cases c : rC lk z d z 0 g x
  · rw [m1 c]
    refine ⟨Or.inr (Nat.le_refl _), fun e h1 h2 => ?_⟩
    obtain ⟨c1, c2, c3⟩ := c
    by_cases e9 : e = d + 1
    · subst e9
      refine ⟨fun _ => Or.inr ⟨c2, ?_⟩, fun _ => Nat.le_refl _⟩
      rcases c3 with ⟨q', k1, k2, k3⟩ | ⟨k1, _⟩
      · exact ⟨q', k1, ((hi q' (by omega)).2 d (Nat.le_refl _) hd).mp (by omega), k3⟩
      · exact absurd k1 (Nat.not_lt_zero _)
    · have := b e (by omega) h2
      refine ⟨fun w => by omega, fun w => ?_⟩
      have := this.mpr w
      omega
  · rw [m2 c]
    refine ⟨a.imp id (fun w => by omega), fun e h1 h2 => ?_⟩
    by_cases e9 : e = d + 1
    · subst e9
      have bd := b d (Nat.le_refl _) hd
      refine ⟨fun w => Or.inl (bd.mp (by omega)), fun w => ?_⟩
      rcases w with w | ⟨w1, q', k1, k2, k3⟩
      · have := bd.mpr w; omega
      · have kq := ((hi q' (by omega)).2 d (Nat.le_refl _) hd).mpr k2
        by_cases g1 : g q' = d
        · by_cases g2 : g x = 20
          · exact absurd ⟨g2, w1, Or.inl ⟨q', k1, g1, k3⟩⟩ c
          · omega
        · have k4 := ((hi q' (by omega)).2 (d - 1) (by omega) (by omega)).mp (by omega)
          have k5 : rS lk z f d x := by
            rw [show d = d - 1 + 1 from by omega]
            exact Or.inr ⟨w1, q', k1, k4, k3⟩
          have := bd.mpr k5
          omega
    · exact b e (by omega) h2
end
theorem far1 {τ : os_S} {j f : Nat} {v : Int32} (h : ∀ x, x < j → os_g τ 44 x 0 = nI (if x = f then 0 else 20)) (hv : v = nI (if j = f then 0 else 20)) : ∀ x, x < j + 1 → os_g (os_sg τ 44 j 0 v) 44 x 0 = nI (if x = f then 0 else 20) := by
  intro x hx
  by_cases e : x = j
  · subst e; rw [os_g_sg, if_pos ⟨rfl, rfl, rfl⟩]; exact hv
  · rw [os_g_sg, if_neg (fun w => e w.2.1)]; exact h x (by omega)
theorem far2 {τ : os_S} {lk : Nat → Nat → Bool} {z f j : Nat} (hj : j = 20) (h : ∀ x, x < j → os_g τ 44 x 0 = nI (if x = f then 0 else 20)) : ∃ g, fC τ g ∧ rI lk z f 0 g := by
  subst hj
  refine ⟨fun x => if x = f then 0 else 20, fun x hx => ⟨h x hx, ?_⟩, rI_0 (fun x hx => rfl)⟩
  show (if x = f then 0 else 20) ≤ 20
  split <;> omega
theorem ix_nI {j M : Nat} (h : j < M) (hM : M < 2 ^ 31 := by decide) : nI j = nI (iN (nI j)) ∧ iN (nI j) < M := by
  rw [iN_nI (by omega)]
  exact ⟨rfl, h⟩
/-- a robot may be on a piece so far away -/
def mayB (σ : os_S) (x : Int32) (d : Nat) : Bool := decide (d < 20 ∧ nI d ≤ (os_g σ 13 1 0 - os_g σ 19 (iN x) 0) / 10)
theorem may_no1 {σ : os_S} {x w : Int32} {d : Nat} (hw : w = nI d ∧ d ≤ 20) (h : 20 ≤ w) : bz (mayB σ x d) = 0 := by
  have e : mayB σ x d = false := decide_eq_false fun c => by
    rw [hw.1, show (20 : Int32) = nI 20 from rfl, nI_leI (by decide) (by omega)] at h
    omega
  rw [e]; rfl
theorem may_no2 {σ u : os_S} {x w : Int32} {d : Nat} (fe : fEq σ u) (hw : w = nI d ∧ d ≤ 20) (h : (os_g u 13 1 0 - os_g u 19 (iN x) 0) / 10 < w) : bz (mayB σ x d) = 0 := by
  rw [fe.2.2.2 13 1 0 (by decide), fe.2.2.2 19 (iN x) 0 (by decide), hw.1] at h
  have e : mayB σ x d = false := decide_eq_false fun c => Int32.not_le.mpr h c.2
  rw [e]; rfl
theorem may_yes {σ u : os_S} {x w : Int32} {d : Nat} (fe : fEq σ u) (hw : w = nI d ∧ d ≤ 20) (h1 : ¬ 20 ≤ w) (h : ¬ (os_g u 13 1 0 - os_g u 19 (iN x) 0) / 10 < w) : bz (mayB σ x d) = 1 := by
  rw [fe.2.2.2 13 1 0 (by decide), fe.2.2.2 19 (iN x) 0 (by decide), hw.1] at h
  have e : mayB σ x d = true := decide_eq_true ⟨by
    rw [hw.1, show (20 : Int32) = nI 20 from rfl, nI_leI (by decide) (by omega)] at h1
    omega, Int32.not_lt.mp h⟩
  rw [e]; rfl
theorem mayB_fEq {σ u : os_S} {x : Int32} {d : Nat} (h : fEq σ u) : mayB u x d = mayB σ x d := by
  unfold mayB
  rw [h.2.2.2 13 1 0 (by decide), h.2.2.2 19 (iN x) 0 (by decide)]
theorem farO_fEq {σ u : os_S} {x : Int32} {g : Nat → Nat} (h : fEq σ u) (hg : farO (lkM u) (iN (os_g u 13 2 0)) (iN (os_g u 15 (iN x) 0)) g) : farO (lkM σ) (iN (os_g σ 13 2 0)) (iN (os_g σ 15 (iN x) 0)) g := by
  have e : lkM u = lkM σ := funext fun p => funext fun q => by unfold lkM; rw [h.2.2.2 14 _ 0 (by decide)]
  rw [e, h.2.2.2 13 2 0 (by decide), h.2.2.2 15 (iN x) 0 (by decide)] at hg
  exact hg
theorem mzn_no {P : Nat → Bool} {z j : Nat} {l : Int32} (h : ¬ P j = true) (hj : j < z) : mzn P (z - (j + 1)) (j + 1) l = mzn P (z - j) j l := by
  rw [show z - j = (z - (j + 1)) + 1 from by omega, mzn, if_neg h]
theorem mzn_yes {P : Nat → Bool} {z j : Nat} {l : Int32} (h : P j = true) (hl : ¬ l = 0) (hj : j < z) : mzn P (z - (j + 1)) (j + 1) (l + (-1)) = mzn P (z - j) j l := by
  rw [show z - j = (z - (j + 1)) + 1 from by omega, mzn, if_pos h, if_neg hl]
theorem mzn_here {P : Nat → Bool} {z j : Nat} {l : Int32} (h : P j = true) (hl : l = 0) (hj : j < z) : mzn P (z - j) j l = nI j := by
  rw [show z - j = (z - (j + 1)) + 1 from by omega, mzn, if_pos h, if_pos hl]
