/-! THE STORE: all objects that class, reference and law make, by kind and number; a kind's layout stands in os_sc. -/
abbrev os_S : Type := (Nat → Nat) × (Nat → Nat → Nat) × (Nat → Nat → Nat → Int32) × (Nat → Nat → Nat → Option Nat)
def os_n (σ : os_S) : Nat → Nat := σ.1
def os_l (σ : os_S) : Nat → Nat → Nat := σ.2.1
def os_g (σ : os_S) : Nat → Nat → Nat → Int32 := σ.2.2.1
def os_r (σ : os_S) : Nat → Nat → Nat → Option Nat := σ.2.2.2
def os_sg (σ : os_S) (K j i : Nat) (v : Int32) : os_S := (σ.1, σ.2.1, fun K' j' i' => if K' = K ∧ j' = j ∧ i' = i then v else σ.2.2.1 K' j' i', σ.2.2.2)
def os_sr (σ : os_S) (K j i : Nat) (v : Option Nat) : os_S := (σ.1, σ.2.1, σ.2.2.1, fun K' j' i' => if K' = K ∧ j' = j ∧ i' = i then v else σ.2.2.2 K' j' i')
def os_nw (σ : os_S) (K L : Nat) : os_S := (fun K' => if K' = K then σ.1 K + 1 else σ.1 K', fun K' i' => if K' = K ∧ i' = σ.1 K then L else σ.2.1 K' i', fun K' j' i' => if K' = K ∧ i' = σ.1 K then 0 else σ.2.2.1 K' j' i', fun K' j' i' => if K' = K ∧ i' = σ.1 K then none else σ.2.2.2 K' j' i')
theorem os_n_sg (σ : os_S) (K j i : Nat) (v : Int32) (K' : Nat) : os_n (os_sg σ K j i v) K' = os_n σ K' := rfl
theorem os_l_sg (σ : os_S) (K j i : Nat) (v : Int32) (K' i' : Nat) : os_l (os_sg σ K j i v) K' i' = os_l σ K' i' := rfl
theorem os_r_sg (σ : os_S) (K j i : Nat) (v : Int32) (K' j' i' : Nat) : os_r (os_sg σ K j i v) K' j' i' = os_r σ K' j' i' := rfl
theorem os_g_sg (σ : os_S) (K j i : Nat) (v : Int32) (K' j' i' : Nat) : os_g (os_sg σ K j i v) K' j' i' = if K' = K ∧ j' = j ∧ i' = i then v else os_g σ K' j' i' := rfl
theorem os_n_sr (σ : os_S) (K j i : Nat) (v : Option Nat) (K' : Nat) : os_n (os_sr σ K j i v) K' = os_n σ K' := rfl
theorem os_l_sr (σ : os_S) (K j i : Nat) (v : Option Nat) (K' i' : Nat) : os_l (os_sr σ K j i v) K' i' = os_l σ K' i' := rfl
theorem os_g_sr (σ : os_S) (K j i : Nat) (v : Option Nat) (K' j' i' : Nat) : os_g (os_sr σ K j i v) K' j' i' = os_g σ K' j' i' := rfl
theorem os_r_sr (σ : os_S) (K j i : Nat) (v : Option Nat) (K' j' i' : Nat) : os_r (os_sr σ K j i v) K' j' i' = if K' = K ∧ j' = j ∧ i' = i then v else os_r σ K' j' i' := rfl
theorem os_n_nw (σ : os_S) (K L : Nat) (K' : Nat) : os_n (os_nw σ K L) K' = if K' = K then os_n σ K + 1 else os_n σ K' := rfl
theorem os_l_nw (σ : os_S) (K L : Nat) (K' i' : Nat) : os_l (os_nw σ K L) K' i' = if K' = K ∧ i' = os_n σ K then L else os_l σ K' i' := rfl
theorem os_g_nw (σ : os_S) (K L : Nat) (K' j' i' : Nat) : os_g (os_nw σ K L) K' j' i' = if K' = K ∧ i' = os_n σ K then 0 else os_g σ K' j' i' := rfl
theorem os_r_nw (σ : os_S) (K L : Nat) (K' j' i' : Nat) : os_r (os_nw σ K L) K' j' i' = if K' = K ∧ i' = os_n σ K then none else os_r σ K' j' i' := rfl
def os_ad (ad : Nat → Nat → Nat) (K i a : Nat) : Nat → Nat → Nat := fun K' i' => if K' = K ∧ i' = i then a else ad K' i'
theorem os_ad_eq (ad : Nat → Nat → Nat) (K i a K' i' : Nat) : os_ad ad K i a K' i' = if K' = K ∧ i' = i then a else ad K' i' := rfl
/-- where a slot of a kind points to -/
def os_tg (K j : Nat) : Option Nat := match os_sc K with
  | .inl (_, fds) => fds.getD j none
  | .inr (_, x) => x
def os_fv (σ : os_S) (ad : Nat → Nat → Nat) (K i j : Nat) : Value := match os_tg K j with
  | none => if os_lg K = true then .long (os_g σ K j i).toInt64 else .int (os_g σ K j i)
  | some k => va_rf ((os_r σ K j i).map (ad k))
def os_at (D : va_G) (cA : Nat → ClassId) (σ : os_S) (ad : Nat → Nat → Nat) (H : Heap) (K i : Nat) : Prop := match os_sc K with
  | .inl (ci, _) => ∃ r : vw_C, os_cl[ci]? = some r ∧ t_OB (ad K i) (D.1 ci) r.2.2 (D.2 ci) H (os_fv σ ad K i)
  | .inr (t, _) => H[ad K i]? = some (arrV (cA t) (os_l σ K i) (os_fv σ ad K i))
/-- the heap holds the store -/
def os_W (D : va_G) (cA : Nat → ClassId) (bs : Nat) (σ : os_S) (ad : Nat → Nat → Nat) (H : Heap) : Prop :=
  (∀ K i, i < os_n σ K → os_at D cA σ ad H K i) ∧
  (∀ K i K' i', i < os_n σ K → i' < os_n σ K' → ad K i = ad K' i' → K = K' ∧ i = i') ∧
  (∀ K i, i < os_n σ K → ∀ j k t, os_tg K j = some k → os_r σ K j i = some t → t < os_n σ k) ∧
  (∀ K i, i < os_n σ K → bs ≤ ad K i)
theorem os_at.lt {D : va_G} {cA : Nat → ClassId} {σ : os_S} {ad : Nat → Nat → Nat} {H : Heap} {K i : Nat} (h : os_at D cA σ ad H K i) : ad K i < H.size := by
  unfold os_at at h
  split at h
  · obtain ⟨r, -, cell, h1, -⟩ := h
    exact (Array.getElem?_eq_some_iff.mp h1).1
  · exact (Array.getElem?_eq_some_iff.mp h).1
/-- a cell as it was, its slots' values as they were -/
theorem os_at.to {D : va_G} {cA : Nat → ClassId} {σ σ' : os_S} {ad ad' : Nat → Nat → Nat} {H H1 : Heap} {K i : Nat} (h : os_at D cA σ ad H K i) (ha : ad' K i = ad K i) (hH : H1[ad K i]? = H[ad K i]?) (hl : os_l σ' K i = os_l σ K i)
    (hv : ∀ j, os_fv σ' ad' K i j = os_fv σ ad K i j) : os_at D cA σ' ad' H1 K i := by
  have hf : os_fv σ' ad' K i = os_fv σ ad K i := funext hv
  unfold os_at at h ⊢
  cases hs : os_sc K with
  | inl x =>
    obtain ⟨ci, fds⟩ := x
    rw [hs] at h
    obtain ⟨r, h1, h2⟩ := h
    refine ⟨r, h1, ?_⟩
    rw [ha, hf]
    exact h2.kept hH
  | inr x =>
    obtain ⟨t, y⟩ := x
    rw [hs] at h
    show H1[ad' K i]? = some (arrV (cA t) (os_l σ' K i) (os_fv σ' ad' K i))
    rw [ha, hf, hl, hH]
    exact h
/-- which cells a method may change: the store's, and those that it makes -/
def os_A (σ : os_S) (ad : Nat → Nat → Nat) (sz : Nat) (q : Nat) : Prop := (∃ K i, i < os_n σ K ∧ q = ad K i) ∨ sz ≤ q
def os_ext (σ : os_S) (ad : Nat → Nat → Nat) (σ' : os_S) (ad' : Nat → Nat → Nat) (sz : Nat) : Prop :=
  (∀ K, os_n σ K ≤ os_n σ' K) ∧ (∀ K i, i < os_n σ K → ad' K i = ad K i) ∧ ∀ K i, os_n σ K ≤ i → i < os_n σ' K → sz ≤ ad' K i
theorem os_ext.rf {σ : os_S} {ad : Nat → Nat → Nat} {sz : Nat} : os_ext σ ad σ ad sz := ⟨fun _ => Nat.le_refl _, fun _ _ _ => rfl, fun _ _ h1 h2 => absurd h2 (Nat.not_lt.mpr h1)⟩
theorem os_ext.trans {σ σ1 σ2 : os_S} {ad ad1 ad2 : Nat → Nat → Nat} {sz sz1 : Nat} (h1 : os_ext σ ad σ1 ad1 sz) (h2 : os_ext σ1 ad1 σ2 ad2 sz1) (hz : sz ≤ sz1) : os_ext σ ad σ2 ad2 sz := by
  refine ⟨fun K => Nat.le_trans (h1.1 K) (h2.1 K), fun K i hi => ?_, fun K i ha hb => ?_⟩
  · rw [h2.2.1 K i (Nat.lt_of_lt_of_le hi (h1.1 K)), h1.2.1 K i hi]
  · by_cases hc : i < os_n σ1 K
    · rw [h2.2.1 K i hc]
      exact h1.2.2 K i ha hc
    · exact Nat.le_trans hz (h2.2.2 K i (Nat.not_lt.mp hc) hb)
theorem os_ext.A {σ σ1 : os_S} {ad ad1 : Nat → Nat → Nat} {sz sz1 : Nat} (h : os_ext σ ad σ1 ad1 sz) (hz : sz ≤ sz1) {q : Nat} (hq : os_A σ1 ad1 sz1 q) : os_A σ ad sz q := by
  rcases hq with ⟨K, i, hi, rfl⟩ | hq
  · by_cases hc : i < os_n σ K
    · exact Or.inl ⟨K, i, hc, h.2.1 K i hc⟩
    · exact Or.inr (h.2.2 K i (Nat.not_lt.mp hc) hi)
  · exact Or.inr (Nat.le_trans hz hq)
/-- an int slot is written -/
theorem os_W.sg {D : va_G} {cA : Nat → ClassId} {bs : Nat} {σ : os_S} {ad : Nat → Nat → Nat} {H H1 : Heap} {K j i : Nat} {v : Int32} (h : os_W D cA bs σ ad H) (hi : i < os_n σ K) (hc : os_at D cA (os_sg σ K j i v) ad H1 K i) (oq : ∀ q : Nat, q ≠ ad K i → H1[q]? = H[q]?) : os_W D cA bs (os_sg σ K j i v) ad H1 := by
  obtain ⟨h1, h2, h3, h4⟩ := h
  refine ⟨fun K' i' hi' => ?_, h2, h3, h4⟩
  by_cases he : ad K' i' = ad K i
  · obtain ⟨rfl, rfl⟩ := h2 K' i' K i hi' hi he
    exact hc
  · refine (h1 K' i' hi').to rfl (oq _ he) rfl (fun j' => ?_)
    unfold os_fv
    cases os_tg K' j' with
    | none =>
      have hg : os_g (os_sg σ K j i v) K' j' i' = os_g σ K' j' i' := by rw [os_g_sg, if_neg (fun z => he (by rw [z.1, z.2.2]))]
      show (if os_lg K' = true then Value.long (os_g (os_sg σ K j i v) K' j' i').toInt64 else .int (os_g (os_sg σ K j i v) K' j' i')) = _
      rw [hg]
    | some k => rfl
/-- a slot for a reference is written -/
theorem os_W.sr {D : va_G} {cA : Nat → ClassId} {bs : Nat} {σ : os_S} {ad : Nat → Nat → Nat} {H H1 : Heap} {K j i : Nat} {v : Option Nat} (h : os_W D cA bs σ ad H) (hi : i < os_n σ K) (hv : ∀ k t, os_tg K j = some k → v = some t → t < os_n σ k) (hc : os_at D cA (os_sr σ K j i v) ad H1 K i) (oq : ∀ q : Nat, q ≠ ad K i → H1[q]? = H[q]?) : os_W D cA bs (os_sr σ K j i v) ad H1 := by
  obtain ⟨h1, h2, h3, h4⟩ := h
  refine ⟨fun K' i' hi' => ?_, h2, fun K' i' hi' j' k t ht hr => ?_, h4⟩
  · by_cases he : ad K' i' = ad K i
    · obtain ⟨rfl, rfl⟩ := h2 K' i' K i hi' hi he
      exact hc
    · refine (h1 K' i' hi').to rfl (oq _ he) rfl (fun j' => ?_)
      unfold os_fv
      cases os_tg K' j' with
      | none => rfl
      | some k =>
        show va_rf ((os_r (os_sr σ K j i v) K' j' i').map (ad k)) = _
        rw [os_r_sr, if_neg (fun z => he (by rw [z.1, z.2.2]))]
  · rw [os_r_sr] at hr
    split at hr
    · rename_i z
      obtain ⟨rfl, rfl, rfl⟩ := z
      exact hv k t ht hr
    · exact h3 K' i' hi' j' k t ht hr
/-- a new object -/
theorem os_W.nw {D : va_G} {cA : Nat → ClassId} {bs : Nat} {σ : os_S} {ad : Nat → Nat → Nat} {H H1 : Heap} {K L : Nat} (h : os_W D cA bs σ ad H) (hb : bs ≤ H.size) (hc : os_at D cA (os_nw σ K L) (os_ad ad K (os_n σ K) H.size) H1 K (os_n σ K)) (oq : ∀ q : Nat, q < H.size → H1[q]? = H[q]?) :
    os_W D cA bs (os_nw σ K L) (os_ad ad K (os_n σ K) H.size) H1 := by
  obtain ⟨h1, h2, h3, h4⟩ := h
  have hold : ∀ K' i', i' < os_n (os_nw σ K L) K' → (K' = K ∧ i' = os_n σ K) ∨ (¬ (K' = K ∧ i' = os_n σ K) ∧ i' < os_n σ K') := by
    intro K' i' hi'
    rw [os_n_nw] at hi'
    by_cases z : K' = K
    · subst z
      rw [if_pos rfl] at hi'
      by_cases w : i' = os_n σ K'
      · exact Or.inl ⟨rfl, w⟩
      · exact Or.inr ⟨fun q => w q.2, by omega⟩
    · rw [if_neg z] at hi'
      exact Or.inr ⟨fun q => z q.1, hi'⟩
  have hup : ∀ k t, t < os_n σ k → t < os_n (os_nw σ K L) k := by
    intro k t ht
    rw [os_n_nw]
    split
    · rename_i z
      subst z
      omega
    · exact ht
  refine ⟨fun K' i' hi' => ?_, fun K' i' K2 i2 hi' hi2 he => ?_, fun K' i' hi' j k t ht hr => ?_, fun K' i' hi' => ?_⟩
  · rcases hold K' i' hi' with ⟨rfl, rfl⟩ | ⟨hne, hi'⟩
    · exact hc
    · refine (h1 K' i' hi').to (by rw [os_ad_eq, if_neg hne]) (oq _ (h1 K' i' hi').lt) (by rw [os_l_nw, if_neg hne]) (fun j => ?_)
      unfold os_fv
      cases htg : os_tg K' j with
      | none =>
        have hg : os_g (os_nw σ K L) K' j i' = os_g σ K' j i' := by rw [os_g_nw, if_neg hne]
        show (if os_lg K' = true then Value.long (os_g (os_nw σ K L) K' j i').toInt64 else .int (os_g (os_nw σ K L) K' j i')) = _
        rw [hg]
      | some k =>
        show va_rf ((os_r (os_nw σ K L) K' j i').map (os_ad ad K (os_n σ K) H.size k)) = _
        rw [os_r_nw, if_neg hne]
        cases hr : os_r σ K' j i' with
        | none => rfl
        | some t =>
          show va_rf (some (os_ad ad K (os_n σ K) H.size k t)) = va_rf (some (ad k t))
          have ht := h3 K' i' hi' j k t htg hr
          rw [os_ad_eq, if_neg (fun z => by obtain ⟨rfl, rfl⟩ := z; exact absurd ht (Nat.lt_irrefl _))]
  · rcases hold K' i' hi' with ⟨d1, d2⟩ | ⟨hne, g1⟩ <;> rcases hold K2 i2 hi2 with ⟨e1, e2⟩ | ⟨hne2, g2⟩
    · exact ⟨d1.trans e1.symm, d2.trans e2.symm⟩
    · rw [os_ad_eq, if_pos ⟨d1, d2⟩, os_ad_eq, if_neg hne2] at he
      have := (h1 K2 i2 g2).lt
      omega
    · rw [os_ad_eq, if_neg hne, os_ad_eq, if_pos ⟨e1, e2⟩] at he
      have := (h1 K' i' g1).lt
      omega
    · rw [os_ad_eq, if_neg hne, os_ad_eq, if_neg hne2] at he
      exact h2 K' i' K2 i2 g1 g2 he
  · rcases hold K' i' hi' with ⟨rfl, rfl⟩ | ⟨hne, hi'⟩
    · rw [os_r_nw, if_pos ⟨rfl, rfl⟩] at hr
      cases hr
    · rw [os_r_nw, if_neg hne] at hr
      exact hup _ _ (h3 K' i' hi' j k t ht hr)
  · rw [os_ad_eq]
    split
    · exact hb
    · rename_i hne
      rcases hold K' i' hi' with z | ⟨-, hi'⟩
      · exact absurd z hne
      · exact h4 K' i' hi'
theorem os_ext.nw {σ : os_S} {ad : Nat → Nat → Nat} {K L sz : Nat} : os_ext σ ad (os_nw σ K L) (os_ad ad K (os_n σ K) sz) sz := by
  refine ⟨fun K' => ?_, fun K' i hi => ?_, fun K' i h1 h2 => ?_⟩
  · rw [os_n_nw]; split
    · rename_i z; subst z; omega
    · exact Nat.le_refl _
  · rw [os_ad_eq, if_neg (fun z => by obtain ⟨rfl, rfl⟩ := z; exact absurd hi (Nat.lt_irrefl _))]
  · rw [os_n_nw] at h2
    split at h2
    · rename_i z; subst z
      rw [os_ad_eq, if_pos ⟨rfl, by omega⟩]
      exact Nat.le_refl _
    · omega
