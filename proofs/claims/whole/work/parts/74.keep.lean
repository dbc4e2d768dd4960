/-! WHAT CALLS KEEP: the class's leave the reference alone, the reference's the class -/
def k45 (σ : os_S) : Nat × Nat × Int32 := (os_n σ 45, os_l σ 45 0, os_g σ 45 0 0)
def FM (σ σ' : os_S) : Prop := cuM σ = cuM σ' ∧ k45 σ = k45 σ'
def FC (σ σ' : os_S) : Prop := cuC σ = cuC σ' ∧ k45 σ = k45 σ'
theorem FM.rf {σ : os_S} : FM σ σ := ⟨rfl, rfl⟩
theorem FC.rf {σ : os_S} : FC σ σ := ⟨rfl, rfl⟩
theorem FM.trans {σ τ υ : os_S} (h : FM σ τ) (h2 : FM τ υ) : FM σ υ := ⟨h.1.trans h2.1, h.2.trans h2.2⟩
theorem FC.trans {σ τ υ : os_S} (h : FC σ τ) (h2 : FC τ υ) : FC σ υ := ⟨h.1.trans h2.1, h.2.trans h2.2⟩
theorem FM.sg {σ τ : os_S} {K j i : Nat} {v : Int32} (hK : K < 13) (h : FM σ τ) : FM σ (os_sg τ K j i v) := ⟨h.1.trans (cuM_sg (by omega)).symm, h.2.trans (by unfold k45; rw [os_n_sg, os_l_sg, os_g_sg, if_neg (by omega)])⟩
theorem FM.sr {σ τ : os_S} {K j i : Nat} {v : Option Nat} (hK : K < 13) (h : FM σ τ) : FM σ (os_sr τ K j i v) := ⟨h.1.trans (cuM_sr (by omega)).symm, h.2.trans rfl⟩
theorem FM.nw {σ τ : os_S} {K N : Nat} (hK : K < 13) (h : FM σ τ) : FM σ (os_nw τ K N) := ⟨h.1.trans (cuM_nw (by omega)).symm, h.2.trans (by unfold k45; rw [os_n_nw, os_l_nw, os_g_nw, if_neg (by omega), if_neg (by omega), if_neg (by omega)])⟩
theorem FC.sg {σ τ : os_S} {K j i : Nat} {v : Int32} (hK : 13 ≤ K ∧ K < 45) (h : FC σ τ) : FC σ (os_sg τ K j i v) := ⟨h.1.trans (cuC_sg hK.1).symm, h.2.trans (by unfold k45; rw [os_n_sg, os_l_sg, os_g_sg, if_neg (by omega)])⟩
theorem FM.nf {σ : os_S} {i a : Nat} {b : Bool} : FM σ (nfS σ i a b) := ⟨cuM_nfS.symm, by unfold k45; rw [nfS_n (by decide), nfS_l (by decide), nfS_g (by decide) (by decide)]⟩
theorem FM.br {σ : os_S} {p a : Nat} : FM σ (brS σ p a) := by
  unfold brS
  split
  · split
    · exact FM.rf
    · exact FM.nf
  · exact FM.rf
theorem FM.lp9 {σ : os_S} : ∀ j, FM σ (lpC σ j).1
  | 0 => FM.rf
  | j + 1 => by
    have i := FM.lp9 (σ := σ) j
    rw [lpC]
    split
    · exact FM.sr (by decide) i
    · split
      · exact FM.sr (by decide) (FM.sr (by decide) i)
      · exact FM.trans (FM.sr (by decide) i) FM.br
theorem FM.ra9 {σ : os_S} : ∀ j, FM σ (raS σ j)
  | 0 => FM.rf
  | j + 1 => by
    have i := FM.ra9 (σ := σ) j
    rw [raS]
    split
    · exact FM.sg (by decide) i
    · exact i
theorem FM.cp9 {σ : os_S} {e : Int32} : ∀ k, FM σ (cps σ e k)
  | 0 => FM.rf
  | k + 1 => by
    have i := FM.cp9 (σ := σ) (e := e) k
    rw [cps]
    split
    · unfold cst lpE
      exact FM.trans (FM.sg (by decide) (FM.trans (FM.sg (by decide) i) (FM.lp9 10))) (FM.ra9 40)
    · exact i
theorem FC.cm {τ : os_S} {x k : Int32} {b : Bool} : FC τ (mcm τ x k b) := by
  refine ⟨cuC_mcm.symm, ?_⟩
  have e1 : ∀ j, os_g (mcm τ x k b) 45 j 0 = os_g τ 45 j 0 := fun j => mcm_4 (by decide)
  have a1 : ∀ X : os_S, os_n (maS X x k) 45 = os_n X 45 ∧ os_l (maS X x k) 45 0 = os_l X 45 0 := fun X => by
    unfold maS
    split
    · unfold maN; exact ⟨by simp only [os_n_sg], by simp only [os_l_sg]⟩
    · exact ⟨rfl, rfl⟩
  have a2 : ∀ (X : os_S) (f : Nat), os_l (mcR X x k f) 45 0 = os_l X 45 0 := fun X f => by
    unfold mcR
    simp only
    (repeat' split) <;> rfl
  have n1 : os_n (mcm τ x k b) 45 = os_n τ 45 ∧ os_l (mcm τ x k b) 45 0 = os_l τ 45 0 := by
    unfold mcm mc9
    simp only [os_n_sg, os_l_sg]
    rw [(a1 _).1, (a1 _).2, mcR_n, a2]
    unfold mc0
    simp only [os_n_sg, os_l_sg]
    exact ⟨trivial, trivial⟩
  unfold k45
  rw [n1.1, n1.2, e1]
theorem FC.cS {τ : os_S} {x k : Int32} {b : Bool} : FC τ (mcS τ x k b) := by
  unfold mcS
  split
  · exact FC.cm
  · exact FC.rf
theorem FC.br {τ : os_S} {x k : Int32} : FC τ (mbr τ x k) := by
  unfold mbr
  split
  · exact FC.cS
  · exact FC.rf
theorem FC.pC {τ : os_S} : ∀ j, FC τ (mpC τ j).1
  | 0 => FC.rf
  | j + 1 => by
    have i := FC.pC (τ := τ) j
    rw [mpC]
    split
    · exact i.trans FC.br
    · unfold mpW
      exact FC.sg (by decide) (FC.sg (by decide) (FC.sg (by decide) i))
theorem FC.ra {τ : os_S} : ∀ j, FC τ (mra τ j)
  | 0 => FC.rf
  | j + 1 => by
    have i := FC.ra (τ := τ) j
    rw [mra]
    split
    · exact FC.sg (by decide) i
    · exact i
theorem FC.ps {τ : os_S} : ∀ k, FC τ (mps τ k)
  | 0 => FC.rf
  | k + 1 => by
    have i := FC.ps (τ := τ) k
    rw [mps]
    unfold mse mst mpE
    exact i.trans (FC.trans (FC.sg (by decide) (FC.trans (FC.sg (by decide) FC.rf) (FC.pC _))) (FC.ra _))
theorem FC.fe {τ u : os_S} (h : fEq τ u) : FC τ u := ⟨h.cuC.symm, by unfold k45; rw [h.n, h.l, h.2.2.2 45 0 0 (by decide)]⟩
section
variable {σ σ1 : os_S} {ad ad1 : Nat → Nat → Nat} {x y : Int32} {r : os_O}
theorem r_piece (hq : q_piece σ ad r σ1 ad1) : FM σ σ1 ∧ ((∃ v, r = .inl (some (.int v))) ∨ ∃ E, r = .inr E ∧ (E = "java/lang/UnsupportedOperationException")) := by
  rcases hq with ⟨-, ⟨-, hs, h⟩ | ⟨-, hs, h⟩⟩
  all_goals
    subst hs
    subst h
    refine ⟨?_, ?_⟩
    · first
        | exact FM.rf
        | exact FM.nf
        | exact FM.cp9 _
        | (unfold fStep; split <;> (repeat (first | exact FM.rf | refine FM.sg (by decide) ?_)))
        | ((try unfold roS); (try unfold plS); (try unfold sLink); repeat (first | exact FM.rf | refine FM.sg (by decide) ?_ | refine FM.sr (by decide) ?_ | refine FM.nw (by decide) ?_))
    · first
        | exact Or.inl ⟨_, rfl⟩
        | exact Or.inl rfl
        | exact Or.inr ⟨_, rfl, by simp⟩
theorem r_link (hq : q_link σ ad x y r σ1 ad1) : FM σ σ1 ∧ ((r = .inl none) ∨ ∃ E, r = .inr E ∧ (E = "java/util/NoSuchElementException" ∨ E = "java/lang/IllegalArgumentException")) := by
  rcases hq with ⟨-, ⟨-, hs, h⟩ | ⟨-, -, -, hs, h⟩ | ⟨-, -, -, h, a, b, -, -, -, -, hs⟩⟩
  all_goals
    subst hs
    subst h
    refine ⟨?_, ?_⟩
    · first
        | exact FM.rf
        | exact FM.nf
        | exact FM.cp9 _
        | (unfold fStep; split <;> (repeat (first | exact FM.rf | refine FM.sg (by decide) ?_)))
        | ((try unfold roS); (try unfold plS); (try unfold sLink); repeat (first | exact FM.rf | refine FM.sg (by decide) ?_ | refine FM.sr (by decide) ?_ | refine FM.nw (by decide) ?_))
    · first
        | exact Or.inl ⟨_, rfl⟩
        | exact Or.inl rfl
        | exact Or.inr ⟨_, rfl, by simp⟩
theorem r_robot (hq : q_robot σ x r σ1 ad1) : FM σ σ1 ∧ ((∃ v, r = .inl (some (.int v))) ∨ ∃ E, r = .inr E ∧ (E = "java/util/NoSuchElementException" ∨ E = "java/lang/UnsupportedOperationException")) := by
  rcases hq with ⟨-, hs, h⟩ | ⟨-, -, hs, h⟩ | ⟨-, -, hs, h⟩
  all_goals
    subst hs
    subst h
    refine ⟨?_, ?_⟩
    · first
        | exact FM.rf
        | exact FM.nf
        | exact FM.cp9 _
        | (unfold fStep; split <;> (repeat (first | exact FM.rf | refine FM.sg (by decide) ?_)))
        | ((try unfold roS); (try unfold plS); (try unfold sLink); repeat (first | exact FM.rf | refine FM.sg (by decide) ?_ | refine FM.sr (by decide) ?_ | refine FM.nw (by decide) ?_))
    · first
        | exact Or.inl ⟨_, rfl⟩
        | exact Or.inl rfl
        | exact Or.inr ⟨_, rfl, by simp⟩
theorem r_rule {k n q : Int32} {b : Bool} (hq : q_rule σ ad k n q b r σ1 ad1) : FM σ σ1 ∧ ((r = .inl none) ∨ ∃ E, r = .inr E ∧ (E = "java/lang/IllegalArgumentException")) := by
  rcases hq with ⟨-, ⟨-, hs, h⟩ | ⟨-, h, a, -, -, hs⟩⟩
  all_goals
    subst hs
    subst h
    refine ⟨?_, ?_⟩
    · first
        | exact FM.rf
        | exact FM.nf
        | exact FM.cp9 _
        | (unfold fStep; split <;> (repeat (first | exact FM.rf | refine FM.sg (by decide) ?_)))
        | ((try unfold roS); (try unfold plS); (try unfold sLink); repeat (first | exact FM.rf | refine FM.sg (by decide) ?_ | refine FM.sr (by decide) ?_ | refine FM.nw (by decide) ?_))
    · first
        | exact Or.inl ⟨_, rfl⟩
        | exact Or.inl rfl
        | exact Or.inr ⟨_, rfl, by simp⟩
theorem r_move (hq : q_move σ ad x y r σ1 ad1) : FM σ σ1 ∧ ((r = .inl none) ∨ ∃ E, r = .inr E ∧ (E = "java/util/NoSuchElementException" ∨ E = "java/lang/IllegalStateException")) := by
  rcases hq with ⟨-, ⟨-, hs, h⟩ | ⟨_, _, -, -, -, -, ⟨-, hs, h⟩ | ⟨-, hs, h⟩⟩⟩
  all_goals
    subst hs
    subst h
    refine ⟨?_, ?_⟩
    · first
        | exact FM.rf
        | exact FM.nf
        | exact FM.cp9 _
        | (unfold fStep; split <;> (repeat (first | exact FM.rf | refine FM.sg (by decide) ?_)))
        | ((try unfold roS); (try unfold plS); (try unfold sLink); repeat (first | exact FM.rf | refine FM.sg (by decide) ?_ | refine FM.sr (by decide) ?_ | refine FM.nw (by decide) ?_))
    · first
        | exact Or.inl ⟨_, rfl⟩
        | exact Or.inl rfl
        | exact Or.inr ⟨_, rfl, by simp⟩
theorem r_load (hq : q_load σ ad x y r σ1 ad1) : FM σ σ1 ∧ ((r = .inl none) ∨ ∃ E, r = .inr E ∧ (E = "java/util/NoSuchElementException" ∨ E = "java/lang/IllegalArgumentException" ∨ E = "java/lang/IllegalStateException")) := by
  rcases hq with ⟨-, ⟨-, hs, h⟩ | ⟨_, -, ⟨-, hs, h⟩ | ⟨-, -, hs, h⟩ | ⟨-, -, hs, h⟩⟩⟩
  all_goals
    subst hs
    subst h
    refine ⟨?_, ?_⟩
    · first
        | exact FM.rf
        | exact FM.nf
        | exact FM.cp9 _
        | (unfold fStep; split <;> (repeat (first | exact FM.rf | refine FM.sg (by decide) ?_)))
        | ((try unfold roS); (try unfold plS); (try unfold sLink); repeat (first | exact FM.rf | refine FM.sg (by decide) ?_ | refine FM.sr (by decide) ?_ | refine FM.nw (by decide) ?_))
    · first
        | exact Or.inl ⟨_, rfl⟩
        | exact Or.inl rfl
        | exact Or.inr ⟨_, rfl, by simp⟩
theorem r_fault (hq : q_fault σ ad x y r σ1 ad1) : FM σ σ1 ∧ ((∃ v, r = .inl (some (.int v))) ∨ ∃ E, r = .inr E ∧ (E = "java/util/NoSuchElementException" ∨ E = "java/lang/IllegalArgumentException" ∨ E = "java/lang/IllegalStateException" ∨ E = "java/lang/UnsupportedOperationException")) := by
  rcases hq with ⟨-, hs, h⟩ | ⟨_, -, ⟨-, hs, h⟩ | ⟨_, -, -, ⟨-, hs, h⟩ | ⟨-, -, hs, h⟩ | ⟨-, -, ⟨_, -, hs, h⟩ | ⟨-, hs, h⟩⟩⟩⟩
  all_goals
    subst hs
    subst h
    refine ⟨?_, ?_⟩
    · first
        | exact FM.rf
        | exact FM.nf
        | exact FM.cp9 _
        | (unfold fStep; split <;> (repeat (first | exact FM.rf | refine FM.sg (by decide) ?_)))
        | ((try unfold roS); (try unfold plS); (try unfold sLink); repeat (first | exact FM.rf | refine FM.sg (by decide) ?_ | refine FM.sr (by decide) ?_ | refine FM.nw (by decide) ?_))
    · first
        | exact Or.inl ⟨_, rfl⟩
        | exact Or.inl rfl
        | exact Or.inr ⟨_, rfl, by simp⟩
theorem r_step (hq : q_step σ ad x y r σ1 ad1) : FM σ σ1 ∧ ((∃ v, r = .inl (some (.int v))) ∨ ∃ E, r = .inr E ∧ (E = "java/util/NoSuchElementException" ∨ E = "java/lang/IllegalArgumentException" ∨ E = "java/lang/IllegalStateException")) := by
  rcases hq with ⟨-, ⟨-, hs, h⟩ | ⟨_, -, ⟨-, hs, h⟩ | ⟨-, ⟨-, hs, h⟩ | ⟨-, -, hs, h⟩ | ⟨-, -, hs, h⟩⟩⟩⟩
  all_goals
    subst hs
    subst h
    refine ⟨?_, ?_⟩
    · first
        | exact FM.rf
        | exact FM.nf
        | exact FM.cp9 _
        | (unfold fStep; split <;> (repeat (first | exact FM.rf | refine FM.sg (by decide) ?_)))
        | ((try unfold roS); (try unfold plS); (try unfold sLink); repeat (first | exact FM.rf | refine FM.sg (by decide) ?_ | refine FM.sr (by decide) ?_ | refine FM.nw (by decide) ?_))
    · first
        | exact Or.inl ⟨_, rfl⟩
        | exact Or.inl rfl
        | exact Or.inr ⟨_, rfl, by simp⟩
theorem r_test {g : Bool} (hq : q_test σ ad x g r σ1 ad1) : FM σ σ1 ∧ ((∃ v, r = .inl (some (.int v))) ∨ ∃ E, r = .inr E ∧ (E = "java/util/NoSuchElementException" ∨ E = "java/lang/IllegalStateException")) := by
  rcases hq with ⟨-, ⟨-, hs, h⟩ | ⟨_, -, ⟨-, hs, h⟩ | ⟨-, -, -, hs, h⟩⟩⟩
  all_goals
    subst hs
    subst h
    refine ⟨?_, ?_⟩
    · first
        | exact FM.rf
        | exact FM.nf
        | exact FM.cp9 _
        | (unfold fStep; split <;> (repeat (first | exact FM.rf | refine FM.sg (by decide) ?_)))
        | ((try unfold roS); (try unfold plS); (try unfold sLink); repeat (first | exact FM.rf | refine FM.sg (by decide) ?_ | refine FM.sr (by decide) ?_ | refine FM.nw (by decide) ?_))
    · first
        | exact Or.inl ⟨_, rfl⟩
        | exact Or.inl rfl
        | exact Or.inr ⟨_, rfl, by simp⟩
theorem r_resume (hq : q_resume σ ad x r σ1 ad1) : FM σ σ1 ∧ ((∃ v, r = .inl (some (.int v))) ∨ ∃ E, r = .inr E ∧ (E = "java/util/NoSuchElementException" ∨ E = "java/lang/IllegalStateException")) := by
  rcases hq with ⟨-, ⟨-, hs, h⟩ | ⟨_, -, ⟨-, hs, h⟩ | ⟨-, ⟨-, hs, h⟩ | ⟨-, -, hs, h⟩ | ⟨-, -, -, hs, h⟩ | ⟨-, -, -, hs, h⟩⟩⟩⟩
  all_goals
    subst hs
    subst h
    refine ⟨?_, ?_⟩
    · first
        | exact FM.rf
        | exact FM.nf
        | exact FM.cp9 _
        | (unfold fStep; split <;> (repeat (first | exact FM.rf | refine FM.sg (by decide) ?_)))
        | ((try unfold roS); (try unfold plS); (try unfold sLink); repeat (first | exact FM.rf | refine FM.sg (by decide) ?_ | refine FM.sr (by decide) ?_ | refine FM.nw (by decide) ?_))
    · first
        | exact Or.inl ⟨_, rfl⟩
        | exact Or.inl rfl
        | exact Or.inr ⟨_, rfl, by simp⟩
theorem r_zone {z : Nat} (hq : q_zone σ ad z x y r σ1 ad1) : FM σ σ1 ∧ ((∃ v, r = .inl (some (.int v))) ∨ ∃ E, r = .inr E ∧ (E = "java/util/NoSuchElementException" ∨ E = "java/lang/IllegalArgumentException" ∨ E = "java/lang/IllegalStateException")) := by
  rcases hq with ⟨-, hs, ⟨-, h⟩ | ⟨_, -, ⟨-, h⟩ | ⟨-, -, h⟩ | ⟨-, -, _, -, -, h⟩⟩⟩
  all_goals
    subst hs
    subst h
    refine ⟨?_, ?_⟩
    · first
        | exact FM.rf
        | exact FM.nf
        | exact FM.cp9 _
        | (unfold fStep; split <;> (repeat (first | exact FM.rf | refine FM.sg (by decide) ?_)))
        | ((try unfold roS); (try unfold plS); (try unfold sLink); repeat (first | exact FM.rf | refine FM.sg (by decide) ?_ | refine FM.sr (by decide) ?_ | refine FM.nw (by decide) ?_))
    · first
        | exact Or.inl ⟨_, rfl⟩
        | exact Or.inl rfl
        | exact Or.inr ⟨_, rfl, by simp⟩
theorem r_found {z : Nat} (hq : q_found σ ad z x y r σ1 ad1) : FM σ σ1 ∧ ((∃ v, r = .inl (some (.int v))) ∨ ∃ E, r = .inr E ∧ (E = "java/util/NoSuchElementException" ∨ E = "java/lang/IllegalStateException")) := by
  rcases hq with ⟨-, ⟨-, hs, h⟩ | ⟨_, -, -, ⟨-, hs, h⟩ | ⟨-, _, -, -, ⟨-, hs, h⟩ | ⟨-, hs, h⟩⟩⟩⟩
  all_goals
    subst hs
    subst h
    refine ⟨?_, ?_⟩
    · first
        | exact FM.rf
        | exact FM.nf
        | exact FM.cp9 _
        | (unfold fStep; split <;> (repeat (first | exact FM.rf | refine FM.sg (by decide) ?_)))
        | ((try unfold roS); (try unfold plS); (try unfold sLink); repeat (first | exact FM.rf | refine FM.sg (by decide) ?_ | refine FM.sr (by decide) ?_ | refine FM.nw (by decide) ?_))
    · first
        | exact Or.inl ⟨_, rfl⟩
        | exact Or.inl rfl
        | exact Or.inr ⟨_, rfl, by simp⟩
theorem r_tow (hq : q_tow σ ad x y r σ1 ad1) : FM σ σ1 ∧ ((r = .inl none) ∨ ∃ E, r = .inr E ∧ (E = "java/util/NoSuchElementException" ∨ E = "java/lang/IllegalStateException")) := by
  rcases hq with ⟨-, ⟨-, hs, h⟩ | ⟨_, -, -, ⟨-, hs, h⟩ | ⟨-, hs, h⟩⟩⟩
  all_goals
    subst hs
    subst h
    refine ⟨?_, ?_⟩
    · first
        | exact FM.rf
        | exact FM.nf
        | exact FM.cp9 _
        | (unfold fStep; split <;> (repeat (first | exact FM.rf | refine FM.sg (by decide) ?_)))
        | ((try unfold roS); (try unfold plS); (try unfold sLink); repeat (first | exact FM.rf | refine FM.sg (by decide) ?_ | refine FM.sr (by decide) ?_ | refine FM.nw (by decide) ?_))
    · first
        | exact Or.inl ⟨_, rfl⟩
        | exact Or.inl rfl
        | exact Or.inr ⟨_, rfl, by simp⟩
theorem r_plant {nP : Nat} {s9 : Int32} (hq : q_plant σ nP x y s9 r σ1 ad1) : FM σ σ1 ∧ ((r = .inl none) ∨ ∃ E, r = .inr E ∧ (E = "java/util/NoSuchElementException" ∨ E = "java/lang/IllegalArgumentException" ∨ E = "java/lang/UnsupportedOperationException")) := by
  rcases hq with ⟨-, hs, h⟩ | ⟨_, -, ⟨-, hs, h⟩ | ⟨-, -, -, -, hs, h⟩ | ⟨-, -, -, -, hs, h⟩⟩
  all_goals
    subst hs
    subst h
    refine ⟨?_, ?_⟩
    · first
        | exact FM.rf
        | exact FM.nf
        | exact FM.cp9 _
        | (unfold fStep; split <;> (repeat (first | exact FM.rf | refine FM.sg (by decide) ?_)))
        | ((try unfold roS); (try unfold plS); (try unfold sLink); repeat (first | exact FM.rf | refine FM.sg (by decide) ?_ | refine FM.sr (by decide) ?_ | refine FM.nw (by decide) ?_))
    · first
        | exact Or.inl ⟨_, rfl⟩
        | exact Or.inl rfl
        | exact Or.inr ⟨_, rfl, by simp⟩
theorem r_pass (hq : q_pass σ x r σ1 ad1) : FM σ σ1 ∧ ((∃ v, r = .inl (some (.int v))) ∨ ∃ E, r = .inr E ∧ (E = "java/lang/IllegalArgumentException")) := by
  rcases hq with ⟨-, hs, h⟩ | ⟨_, -, -, -, hs, h⟩
  all_goals
    subst hs
    subst h
    refine ⟨?_, ?_⟩
    · first
        | exact FM.rf
        | exact FM.nf
        | exact FM.cp9 _
        | (unfold fStep; split <;> (repeat (first | exact FM.rf | refine FM.sg (by decide) ?_)))
        | ((try unfold roS); (try unfold plS); (try unfold sLink); repeat (first | exact FM.rf | refine FM.sg (by decide) ?_ | refine FM.sr (by decide) ?_ | refine FM.nw (by decide) ?_))
    · first
        | exact Or.inl ⟨_, rfl⟩
        | exact Or.inl rfl
        | exact Or.inr ⟨_, rfl, by simp⟩
theorem r_acknowledge (hq : q_ack σ ad x y r σ1 ad1) : FM σ σ1 ∧ ((∃ v, r = .inl (some (.int v))) ∨ ∃ E, r = .inr E ∧ (E = "java/util/NoSuchElementException" ∨ E = "java/lang/IllegalArgumentException" ∨ E = "java/lang/IllegalStateException")) := by
  rcases hq with ⟨-, ⟨-, hs, h⟩ | ⟨_, -, ⟨-, hs, h⟩ | ⟨-, -, hs, h⟩ | ⟨-, -, hs, h⟩⟩⟩
  all_goals
    subst hs
    subst h
    refine ⟨?_, ?_⟩
    · first
        | exact FM.rf
        | exact FM.nf
        | exact FM.cp9 _
        | (unfold fStep; split <;> (repeat (first | exact FM.rf | refine FM.sg (by decide) ?_)))
        | ((try unfold roS); (try unfold plS); (try unfold sLink); repeat (first | exact FM.rf | refine FM.sg (by decide) ?_ | refine FM.sr (by decide) ?_ | refine FM.nw (by decide) ?_))
    · first
        | exact Or.inl ⟨_, rfl⟩
        | exact Or.inl rfl
        | exact Or.inr ⟨_, rfl, by simp⟩
theorem r_alarm (hq : q_alarm σ ad x y r σ1 ad1) : FM σ σ1 ∧ ((∃ v, r = .inl (some (.int v))) ∨ ∃ E, r = .inr E ∧ (E = "java/util/NoSuchElementException" ∨ E = "java/lang/IllegalArgumentException")) := by
  rcases hq with ⟨-, hs, ⟨-, h⟩ | ⟨_, -, ⟨-, h⟩ | ⟨-, h⟩ | ⟨-, h⟩ | ⟨-, h⟩ | ⟨-, h⟩ | ⟨-, h⟩ | ⟨-, h⟩ | ⟨-, h⟩⟩⟩
  all_goals
    subst hs
    subst h
    refine ⟨?_, ?_⟩
    · first
        | exact FM.rf
        | exact FM.nf
        | exact FM.cp9 _
        | (unfold fStep; split <;> (repeat (first | exact FM.rf | refine FM.sg (by decide) ?_)))
        | ((try unfold roS); (try unfold plS); (try unfold sLink); repeat (first | exact FM.rf | refine FM.sg (by decide) ?_ | refine FM.sr (by decide) ?_ | refine FM.nw (by decide) ?_))
    · first
        | exact Or.inl ⟨_, rfl⟩
        | exact Or.inl rfl
        | exact Or.inr ⟨_, rfl, by simp⟩
theorem r_known (hq : q_known σ ad x y r σ1 ad1) : FM σ σ1 ∧ ((∃ v, r = .inl (some (.int v))) ∨ ∃ E, r = .inr E ∧ (E = "java/util/NoSuchElementException" ∨ E = "java/lang/IllegalArgumentException")) := by
  rcases hq with ⟨-, hs, ⟨-, h⟩ | ⟨_, -, ⟨-, h⟩ | ⟨-, h⟩ | ⟨-, h⟩ | ⟨-, h⟩ | ⟨-, h⟩ | ⟨-, h⟩ | ⟨-, h⟩ | ⟨-, h⟩ | ⟨-, h⟩ | ⟨-, h⟩⟩⟩
  all_goals
    subst hs
    subst h
    refine ⟨?_, ?_⟩
    · first
        | exact FM.rf
        | exact FM.nf
        | exact FM.cp9 _
        | (unfold fStep; split <;> (repeat (first | exact FM.rf | refine FM.sg (by decide) ?_)))
        | ((try unfold roS); (try unfold plS); (try unfold sLink); repeat (first | exact FM.rf | refine FM.sg (by decide) ?_ | refine FM.sr (by decide) ?_ | refine FM.nw (by decide) ?_))
    · first
        | exact Or.inl ⟨_, rfl⟩
        | exact Or.inl rfl
        | exact Or.inr ⟨_, rfl, by simp⟩
theorem r_told (hq : q_told σ ad x y r σ1 ad1) : FM σ σ1 ∧ ((∃ v, r = .inl (some (.int v))) ∨ ∃ E, r = .inr E ∧ (E = "java/util/NoSuchElementException" ∨ E = "java/lang/IllegalArgumentException")) := by
  rcases hq with ⟨-, hs, ⟨-, h⟩ | ⟨_, -, ⟨-, h⟩ | ⟨-, h⟩ | ⟨-, h⟩ | ⟨-, h⟩ | ⟨-, h⟩ | ⟨-, h⟩⟩⟩
  all_goals
    subst hs
    subst h
    refine ⟨?_, ?_⟩
    · first
        | exact FM.rf
        | exact FM.nf
        | exact FM.cp9 _
        | (unfold fStep; split <;> (repeat (first | exact FM.rf | refine FM.sg (by decide) ?_)))
        | ((try unfold roS); (try unfold plS); (try unfold sLink); repeat (first | exact FM.rf | refine FM.sg (by decide) ?_ | refine FM.sr (by decide) ?_ | refine FM.nw (by decide) ?_))
    · first
        | exact Or.inl ⟨_, rfl⟩
        | exact Or.inl rfl
        | exact Or.inr ⟨_, rfl, by simp⟩
end
section
variable {τ τ1 : os_S} {ad ad1 : Nat → Nat → Nat} {x y : Int32} {r : os_O}
theorem e_piece (hm : m_piece τ ad r τ1 ad1) : ad = ad1 ∧ FC τ τ1 ∧ ∃ v, r = .inl (some (.int v)) := by
  obtain ⟨ha, hm⟩ := hm
  refine ⟨ha, ?_⟩
  rcases hm with ⟨-, hs, h⟩ | ⟨-, hs, h⟩
  all_goals
    (try subst hs)
    subst h
    refine ⟨?_, ?_⟩
    · first
        | ((repeat (first | exact FC.rf | refine FC.sg (by decide) ?_)); done)
    · first
        | exact ⟨_, rfl⟩
        | rfl
theorem e_link (hm : m_link τ ad x y r τ1 ad1) : ad = ad1 ∧ FC τ τ1 ∧ r = .inl none := by
  obtain ⟨ha, hm⟩ := hm
  refine ⟨ha, ?_⟩
  rcases hm with ⟨-, hs, h⟩ | ⟨-, -, -, hs, h⟩ | ⟨-, -, -, hs, h⟩ | ⟨-, -, hs, h⟩
  all_goals
    (try subst hs)
    subst h
    refine ⟨?_, ?_⟩
    · first
        | ((repeat (first | exact FC.rf | refine FC.sg (by decide) ?_)); done)
    · first
        | exact ⟨_, rfl⟩
        | rfl
theorem e_robot (hm : m_robot τ ad x r τ1 ad1) : ad = ad1 ∧ FC τ τ1 ∧ ∃ v, r = .inl (some (.int v)) := by
  obtain ⟨ha, hm⟩ := hm
  refine ⟨ha, ?_⟩
  rcases hm with ⟨-, -, hs, h⟩ | ⟨-, -, hs, h⟩ | ⟨-, hs, h⟩
  all_goals
    (try subst hs)
    subst h
    refine ⟨?_, ?_⟩
    · first
        | ((repeat (first | exact FC.rf | refine FC.sg (by decide) ?_)); done)
    · first
        | exact ⟨_, rfl⟩
        | rfl
theorem e_rule {n q : Int32} {b : Bool} (hm : m_rule τ ad x n b q r τ1 ad1) : ad = ad1 ∧ FC τ τ1 ∧ r = .inl none := by
  obtain ⟨ha, hm⟩ := hm
  refine ⟨ha, ?_⟩
  rcases hm with ⟨-, hs, h⟩ | ⟨-, -, hs, h⟩ | ⟨-, -, -, hs, h⟩ | ⟨-, -, -, hs, h⟩
  all_goals
    (try subst hs)
    subst h
    refine ⟨?_, ?_⟩
    · first
        | ((repeat (first | exact FC.rf | refine FC.sg (by decide) ?_)); done)
    · first
        | exact ⟨_, rfl⟩
        | rfl
theorem e_move (hm : m_move τ ad x y r τ1 ad1) : ad = ad1 ∧ FC τ τ1 ∧ r = .inl none := by
  obtain ⟨ha, hm⟩ := hm
  refine ⟨ha, ?_⟩
  rcases hm with ⟨-, hs, h⟩ | ⟨-, -, -, hs, h⟩ | ⟨-, -, -, -, hs, h⟩ | ⟨-, -, -, -, hs, h⟩ | ⟨-, -, hs, h⟩
  all_goals
    (try subst hs)
    subst h
    refine ⟨?_, ?_⟩
    · first
        | ((repeat (first | exact FC.rf | refine FC.sg (by decide) ?_)); done)
    · first
        | exact ⟨_, rfl⟩
        | rfl
theorem e_load (hm : m_load τ ad x y r τ1 ad1) : ad = ad1 ∧ FC τ τ1 ∧ r = .inl none := by
  obtain ⟨ha, hm⟩ := hm
  refine ⟨ha, ?_⟩
  rcases hm with ⟨-, -, -, hs, h⟩ | ⟨-, -, -, hs, h⟩ | ⟨-, -, hs, h⟩ | ⟨-, hs, h⟩
  all_goals
    (try subst hs)
    subst h
    refine ⟨?_, ?_⟩
    · first
        | ((repeat (first | exact FC.rf | refine FC.sg (by decide) ?_)); done)
    · first
        | exact ⟨_, rfl⟩
        | rfl
theorem e_fault (hm : m_fault τ ad x y r τ1 ad1) : ad = ad1 ∧ FC τ τ1 ∧ ∃ v, r = .inl (some (.int v)) := by
  obtain ⟨ha, hm⟩ := hm
  refine ⟨ha, ?_⟩
  rcases hm with ⟨-, hs, h⟩ | ⟨-, -, hs, h⟩ | ⟨-, -, -, hs, h⟩ | ⟨-, -, -, hs, h⟩
  · subst hs h; exact ⟨FC.sg (by decide) FC.rf, _, rfl⟩
  · subst hs h; exact ⟨FC.sg (by decide) FC.rf, _, rfl⟩
  · subst hs h; exact ⟨FC.sg (by decide) (FC.sg (by decide) FC.rf), _, rfl⟩
  · have k := FC.trans (FC.sg (K := 13) (j := 0) (i := 0) (v := mba (os_sg τ 13 0 0 0) x y) (by decide) (FC.sg (K := 13) (j := 0) (i := 0) (v := 0) (by decide) (FC.rf (σ := τ)))) (FC.cS (x := x) (k := y) (b := false))
    rw [hs] at k
    exact ⟨k, _, h⟩
theorem e_step (hm : m_step τ ad x y r τ1 ad1) : ad = ad1 ∧ FC τ τ1 ∧ ∃ v, r = .inl (some (.int v)) := by
  obtain ⟨ha, hm⟩ := hm
  refine ⟨ha, ?_⟩
  rcases hm with ⟨-, -, -, -, -, hs, h⟩ | ⟨-, -, -, -, -, hs, h⟩ | ⟨-, -, -, -, hs, h⟩ | ⟨-, -, -, hs, h⟩ | ⟨-, -, hs, h⟩ | ⟨-, hs, h⟩
  all_goals
    (try subst hs)
    subst h
    refine ⟨?_, ?_⟩
    · first
        | ((repeat (first | exact FC.rf | refine FC.sg (by decide) ?_)); done)
    · first
        | exact ⟨_, rfl⟩
        | rfl
theorem e_test {g : Bool} (hm : m_test τ ad x g r τ1 ad1) : ad = ad1 ∧ FC τ τ1 ∧ ∃ v, r = .inl (some (.int v)) := by
  obtain ⟨ha, hm⟩ := hm
  refine ⟨ha, ?_⟩
  rcases hm with ⟨-, -, hs, h⟩ | ⟨-, -, -, hs, h⟩ | ⟨-, -, -, -, -, hs, h⟩ | ⟨-, -, -, -, -, hs, h⟩ | ⟨-, -, -, -, hs, h⟩ | ⟨-, hs, h⟩
  all_goals
    (try subst hs)
    subst h
    refine ⟨?_, ?_⟩
    · first
        | ((repeat (first | exact FC.rf | refine FC.sg (by decide) ?_)); done)
    · first
        | exact ⟨_, rfl⟩
        | rfl
theorem e_resume (hm : m_resume τ ad x r τ1 ad1) : ad = ad1 ∧ FC τ τ1 ∧ ∃ v, r = .inl (some (.int v)) := by
  obtain ⟨ha, hm⟩ := hm
  refine ⟨ha, ?_⟩
  rcases hm with ⟨-, -, -, -, -, hs, h⟩ | ⟨-, -, -, -, -, hs, h⟩ | ⟨-, -, -, -, hs, h⟩ | ⟨-, -, -, hs, h⟩ | ⟨-, -, hs, h⟩ | ⟨-, hs, h⟩
  all_goals
    (try subst hs)
    subst h
    refine ⟨?_, ?_⟩
    · first
        | ((repeat (first | exact FC.rf | refine FC.sg (by decide) ?_)); done)
    · first
        | exact ⟨_, rfl⟩
        | rfl
theorem e_zone {P : Nat → Bool} (hm : m_zone τ ad x y P r τ1 ad1) : ad = ad1 ∧ FC τ τ1 ∧ ∃ v, r = .inl (some (.int v)) := by
  obtain ⟨ha, hm⟩ := hm
  refine ⟨ha, ?_⟩
  rcases hm with ⟨-, hs, h⟩ | ⟨-, -, hs, h⟩ | ⟨-, -, -, hs, h⟩ | ⟨-, -, -, hs, h⟩
  all_goals
    (try subst hs)
    subst h
    refine ⟨?_, ?_⟩
    · first
        | exact FC.trans (FC.sg (by decide) (FC.sg (by decide) FC.rf)) (FC.fe hs)
        | ((repeat (first | exact FC.rf | refine FC.sg (by decide) ?_)); done)
    · first
        | exact ⟨_, rfl⟩
        | rfl
theorem e_found (hm : m_found τ ad x y r τ1 ad1) : ad = ad1 ∧ FC τ τ1 ∧ ∃ v, r = .inl (some (.int v)) := by
  obtain ⟨ha, hm⟩ := hm
  refine ⟨ha, ?_⟩
  rcases hm with ⟨-, hs, h⟩ | ⟨-, -, hs, h⟩ | ⟨-, -, -, hs, h⟩ | ⟨-, -, -, g, u, fe, -, ⟨-, hs, h⟩ | ⟨-, hs, h⟩⟩
  all_goals
    (try subst hs)
    subst h
    refine ⟨?_, ?_⟩
    · first
        | ((repeat (first | exact FC.rf | refine FC.sg (by decide) ?_)); done)
        | exact FC.sg (by decide) (FC.trans (FC.sg (by decide) (FC.sg (by decide) FC.rf)) (FC.fe fe))
        | exact FC.sg (by decide) (FC.sg (by decide) (FC.sg (by decide) (FC.trans (FC.sg (by decide) (FC.sg (by decide) FC.rf)) (FC.fe fe))))
    · first
        | exact ⟨_, rfl⟩
        | rfl
theorem e_tow (hm : m_tow τ ad x y r τ1 ad1) : ad = ad1 ∧ FC τ τ1 ∧ r = .inl none := by
  obtain ⟨ha, hm⟩ := hm
  refine ⟨ha, ?_⟩
  rcases hm with ⟨-, hs, h⟩ | ⟨-, -, -, hs, h⟩ | ⟨-, -, -, -, hs, h⟩ | ⟨-, -, -, -, hs, h⟩ | ⟨-, -, hs, h⟩
  all_goals
    (try subst hs)
    subst h
    refine ⟨?_, ?_⟩
    · first
        | ((repeat (first | exact FC.rf | refine FC.sg (by decide) ?_)); done)
    · first
        | exact ⟨_, rfl⟩
        | rfl
theorem e_plant {n : Int32} (hm : m_plant τ ad x y n r τ1 ad1) : ad = ad1 ∧ FC τ τ1 ∧ r = .inl none := by
  obtain ⟨ha, hm⟩ := hm
  refine ⟨ha, ?_⟩
  rcases hm with ⟨-, -, hs, h⟩ | ⟨-, -, -, -, hs, h⟩ | ⟨-, -, -, -, hs, h⟩ | ⟨-, -, -, hs, h⟩ | ⟨-, hs, h⟩
  all_goals
    (try subst hs)
    subst h
    refine ⟨?_, ?_⟩
    · first
        | ((repeat (first | exact FC.rf | refine FC.sg (by decide) ?_)); done)
    · first
        | exact ⟨_, rfl⟩
        | rfl
theorem e_pass (hm : m_pass τ ad x r τ1 ad1) : ad = ad1 ∧ FC τ τ1 ∧ ∃ v, r = .inl (some (.int v)) := by
  obtain ⟨ha, hm⟩ := hm
  refine ⟨ha, ?_⟩
  rcases hm with ⟨-, hs, h⟩ | ⟨-, -, hs, h⟩
  all_goals
    (try subst hs)
    subst h
    refine ⟨?_, ?_⟩
    · first
        | ((repeat (first | exact FC.rf | refine FC.sg (by decide) ?_)); done)
        | exact FC.trans (FC.sg (by decide) FC.rf) (FC.ps _)
    · first
        | exact ⟨_, rfl⟩
        | rfl
theorem e_acknowledge (hm : m_acknowledge τ ad x y r τ1 ad1) : ad = ad1 ∧ FC τ τ1 ∧ ∃ v, r = .inl (some (.int v)) := by
  obtain ⟨ha, hm⟩ := hm
  refine ⟨ha, ?_⟩
  rcases hm with ⟨-, -, -, hs, h⟩ | ⟨-, -, -, hs, h⟩ | ⟨-, -, hs, h⟩ | ⟨-, hs, h⟩
  all_goals
    (try subst hs)
    subst h
    refine ⟨?_, ?_⟩
    · first
        | ((repeat (first | exact FC.rf | refine FC.sg (by decide) ?_)); done)
    · first
        | exact ⟨_, rfl⟩
        | rfl
theorem e_alarm (hm : m_alarm τ ad x y r τ1 ad1) : ad = ad1 ∧ FC τ τ1 ∧ ∃ v, r = .inl (some (.int v)) := by
  obtain ⟨ha, hm⟩ := hm
  refine ⟨ha, ?_⟩
  rcases hm with ⟨-, -, -, -, -, -, -, -, hs, h⟩ | ⟨-, -, -, -, -, -, -, -, hs, h⟩ | ⟨-, -, -, -, -, -, -, hs, h⟩ | ⟨-, -, -, -, -, -, hs, h⟩ | ⟨-, -, -, -, -, hs, h⟩ | ⟨-, -, -, -, hs, h⟩ | ⟨-, -, -, hs, h⟩ | ⟨-, -, hs, h⟩ | ⟨-, hs, h⟩
  all_goals
    (try subst hs)
    subst h
    refine ⟨?_, ?_⟩
    · first
        | ((repeat (first | exact FC.rf | refine FC.sg (by decide) ?_)); done)
    · first
        | exact ⟨_, rfl⟩
        | rfl
theorem e_known (hm : m_known τ ad x y r τ1 ad1) : ad = ad1 ∧ FC τ τ1 ∧ ∃ v, r = .inl (some (.int v)) := by
  obtain ⟨ha, hm⟩ := hm
  refine ⟨ha, ?_⟩
  rcases hm with ⟨-, -, -, -, -, -, -, -, -, -, hs, h⟩ | ⟨-, -, -, -, -, -, -, -, -, -, hs, h⟩ | ⟨-, -, -, -, -, -, -, -, -, -, hs, h⟩ | ⟨-, -, -, -, -, -, -, -, -, -, hs, h⟩ | ⟨-, -, -, -, -, -, -, -, hs, h⟩ | ⟨-, -, -, -, -, -, -, hs, h⟩ | ⟨-, -, -, -, -, -, hs, h⟩ | ⟨-, -, -, -, -, hs, h⟩ | ⟨-, -, -, -, hs, h⟩ | ⟨-, -, -, hs, h⟩ | ⟨-, -, hs, h⟩ | ⟨-, hs, h⟩
  all_goals
    (try subst hs)
    subst h
    refine ⟨?_, ?_⟩
    · first
        | ((repeat (first | exact FC.rf | refine FC.sg (by decide) ?_)); done)
    · first
        | exact ⟨_, rfl⟩
        | rfl
theorem e_told (hm : m_told τ ad x y r τ1 ad1) : ad = ad1 ∧ FC τ τ1 ∧ ∃ v, r = .inl (some (.int v)) := by
  obtain ⟨ha, hm⟩ := hm
  refine ⟨ha, ?_⟩
  rcases hm with ⟨-, -, -, -, -, -, -, hs, h⟩ | ⟨-, -, -, -, -, -, -, hs, h⟩ | ⟨-, -, -, -, -, -, hs, h⟩ | ⟨-, -, -, -, -, hs, h⟩ | ⟨-, -, -, -, hs, h⟩ | ⟨-, -, -, hs, h⟩ | ⟨-, -, hs, h⟩ | ⟨-, hs, h⟩
  all_goals
    (try subst hs)
    subst h
    refine ⟨?_, ?_⟩
    · first
        | ((repeat (first | exact FC.rf | refine FC.sg (by decide) ?_)); done)
    · first
        | exact ⟨_, rfl⟩
        | rfl
end
