/-! WHAT WRITES KEEP of the class's shape -/
theorem rfA.sr {σ : os_S} {K j i : Nat} {v : Option Nat} (h : rfA σ) (h0 : K ≠ 0) (h1 : K ≠ 1) (h3 : K ≠ 3) : rfA (os_sr σ K j i v) := by
  refine ⟨h.1, h.2.1, fun j' hj => ?_, ?_, h.2.2.2.2.1, fun k hk => ?_⟩
  · rw [os_r_sr, if_neg (fun z => h0 z.1.symm)]; exact h.r j' hj
  · rw [os_r_sr, if_neg (fun z => h1 z.1.symm)]; exact h.t
  · rw [os_r_sr, if_neg (fun z => h3 z.1.symm)]; exact h.ru k hk
theorem rfA.nw {σ : os_S} {K L : Nat} (h : rfA σ) (hK : 8 < K) : rfA (os_nw σ K L) := by
  refine ⟨fun K' hK' => ?_, ?_, fun j' hj => ?_, ?_, ⟨?_, ?_, ?_, ?_, ?_, ?_⟩, fun k hk => ?_⟩
  · rw [os_n_nw, if_neg (by omega)]; exact h.1 K' hK'
  · rw [os_n_nw, if_neg (by omega)]; exact h.2.1
  · rw [os_r_nw, if_neg (by omega)]; exact h.r j' hj
  · rw [os_r_nw, if_neg (by omega)]; exact h.t
  · rw [os_l_nw, if_neg (by omega)]; exact h.l2
  · rw [os_l_nw, if_neg (by omega)]; exact h.l3
  · rw [os_l_nw, if_neg (by omega)]; exact h.l4
  · rw [os_l_nw, if_neg (by omega)]; exact h.l5
  · rw [os_l_nw, if_neg (by omega)]; exact h.l6
  · rw [os_l_nw, if_neg (by omega)]; exact h.l7
  · rw [os_r_nw, if_neg (by omega)]; exact h.ru k hk
theorem rfS.sg {σ : os_S} {Ka Ko N cf K j i : Nat} {v : Int32} (h : rfS σ Ka Ko N cf) (hn : ¬ (K = 0 ∧ j = cf)) : rfS (os_sg σ K j i v) Ka Ko N cf := by
  refine ⟨h.1, ?_, h.2.2⟩
  rw [os_g_sg, if_neg (fun z => hn ⟨z.1.symm, z.2.1.symm⟩)]
  exact h.2.1
theorem rfS.sr {σ : os_S} {Ka Ko N cf K j i : Nat} {v : Option Nat} (h : rfS σ Ka Ko N cf) (hn : K ≠ Ka) : rfS (os_sr σ K j i v) Ka Ko N cf := by
  refine ⟨h.1, h.2.1, fun j' hj => ?_⟩
  rw [os_r_sr, if_neg (fun z => hn z.1.symm)]
  exact h.2.2 j' hj
theorem rfS.nw {σ : os_S} {Ka Ko N cf K L : Nat} (h : rfS σ Ka Ko N cf) (h1 : K ≠ Ko) (h2 : K ≠ Ka) (h3 : K ≠ 0) : rfS (os_nw σ K L) Ka Ko N cf := by
  have e : os_n (os_nw σ K L) Ko = os_n σ Ko := by rw [os_n_nw, if_neg (fun z => h1 z.symm)]
  refine ⟨by rw [e]; exact h.1, ?_, fun j hj => ?_⟩
  · rw [e, os_g_nw, if_neg (fun z => h3 z.1.symm)]; exact h.2.1
  · rw [e, os_r_nw, if_neg (fun z => h2 z.1.symm)]; exact h.2.2 j hj
theorem aR_sr {σ : os_S} {K j i n : Nat} {v : Option Nat} (h : K ≠ 11) : aR (os_sr σ K j i v) n = aR σ n := by unfold aR; rw [os_r_sr, if_neg (fun z => h z.1.symm)]
theorem aL_sr {σ : os_S} {K j i n : Nat} {v : Option Nat} (h : K ≠ 11) : aL (os_sr σ K j i v) n = aL σ n := by unfold aL; rw [os_r_sr, if_neg (fun z => h z.1.symm)]
theorem fR_sr {σ : os_S} {K j i n : Nat} {v : Option Nat} (h : K ≠ 10) : fR (os_sr σ K j i v) n = fR σ n := by unfold fR; rw [os_r_sr, if_neg (fun z => h z.1.symm)]
theorem aR_nw {σ : os_S} {K L n : Nat} (h : K ≠ 11) : aR (os_nw σ K L) n = aR σ n := by unfold aR; rw [os_r_nw, if_neg (fun z => h z.1.symm)]
theorem aL_nw {σ : os_S} {K L n : Nat} (h : K ≠ 11) : aL (os_nw σ K L) n = aL σ n := by unfold aL; rw [os_r_nw, if_neg (fun z => h z.1.symm)]
theorem fR_nw {σ : os_S} {K L n : Nat} (h : K ≠ 10) : fR (os_nw σ K L) n = fR σ n := by unfold fR; rw [os_r_nw, if_neg (fun z => h z.1.symm)]
theorem rfL.sg {σ : os_S} {K j i : Nat} {v : Int32} (h : rfL σ) (hn : ¬ (K = 0 ∧ j = 8)) : rfL (os_sg σ K j i v) := ⟨h.1.sg hn, h.2.1, h.2.2⟩
theorem rfL.sr {σ : os_S} {K j i : Nat} {v : Option Nat} (h : rfL σ) (h1 : K ≠ 6) (h2 : K ≠ 11) : rfL (os_sr σ K j i v) := by
  refine ⟨h.1.sr h1, fun n hn => ?_, fun n hn => ?_⟩
  · rw [os_r_sr, if_neg (fun z => h2 z.1.symm), aR_sr h2]; exact h.2.1 n hn
  · rw [os_r_sr, if_neg (fun z => h2 z.1.symm), aL_sr h2]; exact h.2.2 n hn
theorem rfL.nw {σ : os_S} {K L : Nat} (h : rfL σ) (h1 : K ≠ 11) (h2 : K ≠ 6) (h3 : K ≠ 0) : rfL (os_nw σ K L) := by
  have e : os_n (os_nw σ K L) 11 = os_n σ 11 := by rw [os_n_nw, if_neg (fun z => h1 z.symm)]
  refine ⟨h.1.nw h1 h2 h3, fun n hn => ?_, fun n hn => ?_⟩
  · rw [e] at hn; rw [os_r_nw, if_neg (fun z => h1 z.1.symm), aR_nw h1]; exact h.2.1 n hn
  · rw [e] at hn; rw [os_r_nw, if_neg (fun z => h1 z.1.symm), aL_nw h1]; exact h.2.2 n hn
theorem rfA.sg {σ : os_S} {K j i : Nat} {v : Int32} (h : rfA σ) : rfA (os_sg σ K j i v) := h
theorem rfA.fN {σ : os_S} {i r9 : Nat} {x k t y : Int32} {b : Bool} (h : rfA σ) : rfA (fNew σ i r9 x k t y b) := by
  unfold fNew
  exact (h.sg.sg.sg.sg.sr (K := 10) (by decide) (by decide) (by decide)).sg.sg.sg.sg.sg.sg
theorem rfL.fN {σ : os_S} {i r9 : Nat} {x k t y : Int32} {b : Bool} (h : rfL σ) : rfL (fNew σ i r9 x k t y b) := by
  unfold fNew
  exact ((((((((((h.sg (by decide)).sg (by decide)).sg (by decide)).sg (by decide)).sr (by decide) (by decide)).sg (by decide)).sg (by decide)).sg (by decide)).sg (by decide)).sg (by decide)).sg (by decide)
theorem nfN_n {σ : os_S} {i r9 : Nat} {x k t y : Int32} {b : Bool} {K : Nat} : os_n (fNew σ i r9 x k t y b) K = os_n σ K := rfl
/-- the fault stands there, its alarm not yet -/
def nfB (σ : os_S) (i a : Nat) (b : Bool) : os_S := os_sg (os_sr (fNew (os_nw σ 10 0) (os_n σ 10) i ((os_g σ 0 7 0) + 1) (nI a) (os_g σ 0 10 0) (os_g σ 8 0 a) b) 5 (os_n σ 10) 0 (some (os_n σ 10))) 0 7 0 ((os_g σ 0 7 0) + 1)
theorem nfB_A {σ : os_S} {i a : Nat} {b : Bool} (h : rfA σ) : rfA (nfB σ i a b) := ((h.nw (by decide)).fN.sr (by decide) (by decide) (by decide)).sg
theorem nfB_L {σ : os_S} {i a : Nat} {b : Bool} (h : rfL σ) : rfL (nfB σ i a b) := (((h.nw (by decide) (by decide) (by decide)).fN).sr (by decide) (by decide)).sg (by decide)
theorem nfB_r {σ : os_S} {i a : Nat} {b : Bool} : os_r (nfB σ i a b) 10 1 (os_n σ 10) = some i := by simp [nfB, fNew, os_r_sr, os_r_sg]
theorem nfB_n {σ : os_S} {i a K : Nat} {b : Bool} : os_n (nfB σ i a b) K = if K = 10 then os_n σ 10 + 1 else os_n σ K := rfl
theorem nfB_0 {σ : os_S} {i a : Nat} {b : Bool} (h : rfA σ) : 0 < os_n (nfB σ i a b) 0 := (nfB_A h).n 0 (by decide)
theorem nfB_8 {σ : os_S} {i a k : Nat} {b : Bool} (h : k < os_n σ 8) : k < os_n (nfB σ i a b) 8 := h
theorem nfB_9 {σ : os_S} {i a k : Nat} {b : Bool} (h : k < os_n σ 9) : k < os_n (nfB σ i a b) 9 := h
theorem nfB_10 {σ : os_S} {i a : Nat} {b : Bool} : os_n σ 10 < os_n (nfB σ i a b) 10 := by rw [nfB_n, if_pos rfl]; omega
