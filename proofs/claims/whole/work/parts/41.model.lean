/-! THE REFERENCE: open faults, steps, tests -/
theorem MI.c {σ : os_S} {v : Int32} (h : MI σ) : MI (os_sg σ 13 0 0 v) := h
theorem MI.k {σ : os_S} {K j i : Nat} {v : Int32} (h : MI σ) (hK : K ≠ 13 ∧ K ≠ 15 ∧ K ≠ 40 ∧ K ≠ 41 ∧ K ≠ 42) : MI (os_sg σ K j i v) := by
  have e : ∀ K', K' ≠ K → ∀ j' i', os_g (os_sg σ K j i v) K' j' i' = os_g σ K' j' i' := fun K' h' j' i' => by rw [os_g_sg, if_neg (fun z => h' z.1)]
  have hc : ∀ j' M, mdc σ j' M → mdc (os_sg σ K j i v) j' M := fun j' M q => by unfold mdc; rw [e 13 (Ne.symm hK.1)]; exact q
  have hx : ∀ K' N M, K' ≠ K → mdx σ K' N M → mdx (os_sg σ K j i v) K' N M := fun K' N M h' q i' hi' => by rw [e K' h']; exact q i' hi'
  obtain ⟨h1, h2, h3, h4, h5, h6, h7, h8, h9, h10⟩ := h
  exact ⟨h1.sg, hc _ _ h2, hc _ _ h3, hc _ _ h4, hc _ _ h5, hc _ _ h6, hx _ _ _ (Ne.symm hK.2.1) h7, hx _ _ _ (Ne.symm hK.2.2.1) h8, hx _ _ _ (Ne.symm hK.2.2.2.1) h9, hx _ _ _ (Ne.symm hK.2.2.2.2) h10⟩
/-- the first open fault of a robot and a kind, from a number on -/
def moF (σ : os_S) (x k : Int32) : Nat → Nat → Int32
  | 0, _ => 0
  | n + 1, j => if os_g σ 23 j 0 = x ∧ os_g σ 24 j 0 = k ∧ os_g σ 26 j 0 = -1 then nI j else moF σ x k n (j + 1)
theorem moF_st {σ : os_S} {x k : Int32} {N j : Nat} (h : j ≤ N) : moF σ x k (N + 1 - j) j = if os_g σ 23 j 0 = x ∧ os_g σ 24 j 0 = k ∧ os_g σ 26 j 0 = -1 then nI j else moF σ x k (N + 1 - (j + 1)) (j + 1) := by
  rw [show N + 1 - j = (N + 1 - (j + 1)) + 1 by omega, moF]
abbrev mof (σ : os_S) (x k : Int32) : Int32 := moF σ x k (mFt σ) 1
/-- the kinds of a robot's open faults, among the first -/
def mok (σ : os_S) (x : Int32) : Nat → Int32
  | 0 => 0
  | k + 1 => if mof σ x (nI k) ≤ 0 then mok σ x k ||| 0 else mok σ x k ||| ((1 : Int32) <<< (nI k &&& 31))
def mbt (x : Int32) : Nat → Int32
  | 0 => 0
  | k + 1 => mbt x k + ((x >>> (nI k &&& 31)) &&& 1)
def mba (σ : os_S) (x k : Int32) : Int32 := if k = 2 ∧ os_g σ 16 (iN x) 0 = -1 then 3 else if os_g σ 13 13 0 = 40 then 4 else 0
theorem nlt_le {j N : Nat} {M : Int32} (h : ¬ M < nI j) (hj : j < 2 ^ 31) (hM : M = nI N) : j ≤ N := by
  subst hM
  rcases Nat.lt_or_ge N j with q | q
  · exact absurd (nI_lt q hj) h
  · exact q
theorem lt_gt {j N : Nat} {M : Int32} (h : M < nI j) (hj : j ≤ N + 1) (hN : N < 2 ^ 30) (hM : M = nI N) : j = N + 1 := by
  subst hM
  have := (nI_ltI (by omega) (by omega)).mp h
  omega
set_option maxHeartbeats 4000000 in
set_option maxRecDepth 100000 in
theorem c_Model_openOf (l : Launch) (hlt : l.stackTraces = false) (D : va_G) (cA : Nat → ClassId) (bs : Nat) (σ : os_S) (ad : Nat → Nat → Nat) (x k : Int32) (hM : MI σ) : os_Met l y_Model_openOf prog_9_method_15_code 4 (some .int) { frames := 0, cells := 0, slots := 0, locals := 0 } D cA bs [.ref (ad 13 0), .int x, .int k] σ ad (pv σ ad (some (.int (mof σ x k)))) := by
  refine os_ofW (by decide) ?_
  intro p e s m below meth c hx hb hr hml hown hlocks hmn hout hE hV
  have hts := hE.hts (args := ([.ref (ad 13 0), .int x, .int k] : List Value).toArray)
  have hK := hE.2.1
  have hbs := hE.2.2.1
  have hown : s.vm.findClass "RobotFaultsModel" = some m.cls := hown
  have hl := lv_entry ([.ref (ad 13 0), .int x, .int k]) (n := 4) (Nat.le_of_ble_eq_true rfl)
  rw [lg_entry_eq]
  generalize (lg_sl ([.ref (ad 13 0), .int x, .int k]) ++ List.replicate (4 - (lg_sl ([.ref (ad 13 0), .int x, .int k])).length) Slot.unset).toArray = ls at hl ⊢
  have hl : lv_has ls 4 [(0, .ref (ad 13 0)), (1, .int x), (2, .int k)] := hl
  refine lv_iconst (v := 1) hx hb d_Model_openOf_0 (by decide) ?_
  refine lv_istore_n (lv' := [(3, .int 1), (0, .ref (ad 13 0)), (1, .int x), (2, .int k)]) hx hb d_Model_openOf_1 rfl hl (by decide) rfl (fun ls hl => ?_)
  have loop : ∀ (n j : Nat)  (ls : Array Slot) (H : Heap) (locs : List Loc), j ≤ (iN (os_g σ 13 13 0) + 1) → (iN (os_g σ 13 13 0) + 1) < j + n → moF σ x k (iN (os_g σ 13 13 0) + 1 - j) j = mof σ x k → os_V D cA bs σ ad s σ ad H locs → lv_has ls 4 [(0, .ref (ad 13 0)), (1, .int x), (2, .int k), (3, .int (nI j))] → W p l e { frames := 0, cells := 0, slots := 0, locals := 0 } s m ([.ref (ad 13 0), .int x, .int k] : List Value).toArray below meth c H locs (0) (0) (os_End D cA bs below s σ ad { frames := 0, cells := 0, slots := 0, locals := 0 } (pv σ ad (some (.int (mof σ x k))))) (F0 m 2 ls []) := by
    intro n
    induction n with
    | zero => intro j  ls H locs h1 h2; exact absurd h2 (by omega)
    | succ n loop_ih =>
      intro j  ls H locs loop_j loop_n loop_i hV hl
      refine lv_iload_n hx hb d_Model_openOf_2 rfl (lv_at hl 3 rfl) ?_
      refine lv_aload_n hx hb d_Model_openOf_3 rfl (lv_at hl 0 rfl) ?_
      refine os_get (C := "RobotFaultsModel") (T := F_Model) (N := 38) (ci := 7) (K := 13) (j := 13) (i := 0) (v := .int (os_g σ 13 13 0)) hx hb hts i_Model hown hK hV rfl rfl (by decide) (hM.1.n 13 (by decide) (by decide)) (hts _ k_738) rfl d_Model_openOf_4 ?_
      refine lv_icmp_gt (tgt := 48) hx hb d_Model_openOf_7 (by decide) (fun c_1 => ?_) (fun c_1 => ?_)
      · skip
        refine lv_iconst (v := 0) hx hb d_Model_openOf_48 (by decide) ?_
        refine os_iret hx hb hr hlocks hV (Nat.le_of_ble_eq_true rfl) (Nat.le_of_ble_eq_true rfl) d_Model_openOf_49 ?_
        have hj := lt_gt c_1 loop_j (by have := hM.2.2.2.1.2; omega) hM.2.2.2.1.1
        exact ⟨rfl, rfl, by rw [← loop_i, hj, Nat.sub_self]; rfl⟩
      · skip
        refine lv_aload_n hx hb d_Model_openOf_10 rfl (lv_at hl 0 rfl) ?_
        refine os_get (C := "RobotFaultsModel") (T := F_Model) (N := 38) (ci := 7) (K := 13) (j := 14) (i := 0) (v := .ref (ad 23 0)) hx hb hts i_Model hown hK hV rfl rfl (by decide) (hM.1.n 13 (by decide) (by decide)) (hts _ k_739) (congrArg (fun z => va_rf (Option.map (ad 23) z)) (hM.1.2.1 14 (by decide) (by decide))) d_Model_openOf_11 ?_
        refine lv_iload_n hx hb d_Model_openOf_14 rfl (lv_at hl 3 rfl) ?_
        refine os_ialdN (K := 23) (i := 0) (t0 := 0) (n := j) hx hb hK hV rfl rfl rfl (hM.1.n 23 (by decide) (by decide)) rfl (by rw [show os_l σ 23 0 = 41 from hM.1.2.2 23 (by decide) (by decide)]; have h9 := (show j < 41 from by have h7 := (nlt_le c_1 (by have := hM.2.2.2.1.2; omega) hM.2.2.2.1.1); have h8 := hM.2.2.2.1.2; omega); omega) (by rw [show os_l σ 23 0 = 41 from hM.1.2.2 23 (by decide) (by decide)]; decide) d_Model_openOf_15 ?_
        refine lv_iload_n hx hb d_Model_openOf_16 rfl (lv_at hl 1 rfl) ?_
        refine lv_icmp_ne (tgt := 42) hx hb d_Model_openOf_17 (by decide) (fun c_2 => ?_) (fun c_2 => ?_)
        · skip
          refine lv_iinc (v := nI (j + 1)) (lv' := [(3, .int (nI (j + 1))), (0, .ref (ad 13 0)), (1, .int x), (2, .int k)]) hx hb d_Model_openOf_42 hl (k := 3) rfl (nI_1 j) (by decide) rfl (fun ls hl => ?_)
          refine lv_goto (tgt := 2) hx hb d_Model_openOf_45 (by decide) ?_
          exact loop_ih (j + 1)  ls H locs (Nat.succ_le_of_lt (Nat.lt_succ_of_le (nlt_le c_1 (by have := hM.2.2.2.1.2; omega) hM.2.2.2.1.1))) (by omega) (by rw [moF_st (nlt_le c_1 (by have := hM.2.2.2.1.2; omega) hM.2.2.2.1.1), if_neg (fun h => c_2 h.1)] at loop_i; exact loop_i) hV (lv_sub hl [1, 2, 3, 0] rfl)
        · skip
          refine lv_aload_n hx hb d_Model_openOf_20 rfl (lv_at hl 0 rfl) ?_
          refine os_get (C := "RobotFaultsModel") (T := F_Model) (N := 38) (ci := 7) (K := 13) (j := 15) (i := 0) (v := .ref (ad 24 0)) hx hb hts i_Model hown hK hV rfl rfl (by decide) (hM.1.n 13 (by decide) (by decide)) (hts _ k_740) (congrArg (fun z => va_rf (Option.map (ad 24) z)) (hM.1.2.1 15 (by decide) (by decide))) d_Model_openOf_21 ?_
          refine lv_iload_n hx hb d_Model_openOf_24 rfl (lv_at hl 3 rfl) ?_
          refine os_ialdN (K := 24) (i := 0) (t0 := 0) (n := j) hx hb hK hV rfl rfl rfl (hM.1.n 24 (by decide) (by decide)) rfl (by rw [show os_l σ 24 0 = 41 from hM.1.2.2 24 (by decide) (by decide)]; have h9 := (show j < 41 from by have h7 := (nlt_le c_1 (by have := hM.2.2.2.1.2; omega) hM.2.2.2.1.1); have h8 := hM.2.2.2.1.2; omega); omega) (by rw [show os_l σ 24 0 = 41 from hM.1.2.2 24 (by decide) (by decide)]; decide) d_Model_openOf_25 ?_
          refine lv_iload_n hx hb d_Model_openOf_26 rfl (lv_at hl 2 rfl) ?_
          refine lv_icmp_ne (tgt := 42) hx hb d_Model_openOf_27 (by decide) (fun c_3 => ?_) (fun c_3 => ?_)
          · skip
            refine lv_iinc (v := nI (j + 1)) (lv' := [(3, .int (nI (j + 1))), (0, .ref (ad 13 0)), (1, .int x), (2, .int k)]) hx hb d_Model_openOf_42 hl (k := 3) rfl (nI_1 j) (by decide) rfl (fun ls hl => ?_)
            refine lv_goto (tgt := 2) hx hb d_Model_openOf_45 (by decide) ?_
            exact loop_ih (j + 1)  ls H locs (Nat.succ_le_of_lt (Nat.lt_succ_of_le (nlt_le c_1 (by have := hM.2.2.2.1.2; omega) hM.2.2.2.1.1))) (by omega) (by rw [moF_st (nlt_le c_1 (by have := hM.2.2.2.1.2; omega) hM.2.2.2.1.1), if_neg (fun h => c_3 h.2.1)] at loop_i; exact loop_i) hV (lv_sub hl [1, 2, 3, 0] rfl)
          · skip
            refine lv_aload_n hx hb d_Model_openOf_30 rfl (lv_at hl 0 rfl) ?_
            refine os_get (C := "RobotFaultsModel") (T := F_Model) (N := 38) (ci := 7) (K := 13) (j := 17) (i := 0) (v := .ref (ad 26 0)) hx hb hts i_Model hown hK hV rfl rfl (by decide) (hM.1.n 13 (by decide) (by decide)) (hts _ k_742) (congrArg (fun z => va_rf (Option.map (ad 26) z)) (hM.1.2.1 17 (by decide) (by decide))) d_Model_openOf_31 ?_
            refine lv_iload_n hx hb d_Model_openOf_34 rfl (lv_at hl 3 rfl) ?_
            refine os_ialdN (K := 26) (i := 0) (t0 := 0) (n := j) hx hb hK hV rfl rfl rfl (hM.1.n 26 (by decide) (by decide)) rfl (by rw [show os_l σ 26 0 = 41 from hM.1.2.2 26 (by decide) (by decide)]; have h9 := (show j < 41 from by have h7 := (nlt_le c_1 (by have := hM.2.2.2.1.2; omega) hM.2.2.2.1.1); have h8 := hM.2.2.2.1.2; omega); omega) (by rw [show os_l σ 26 0 = 41 from hM.1.2.2 26 (by decide) (by decide)]; decide) d_Model_openOf_35 ?_
            refine lv_iconst (v := (-1)) hx hb d_Model_openOf_36 (by decide) ?_
            refine lv_icmp_ne (tgt := 42) hx hb d_Model_openOf_37 (by decide) (fun c_4 => ?_) (fun c_4 => ?_)
            · skip
              refine lv_iinc (v := nI (j + 1)) (lv' := [(3, .int (nI (j + 1))), (0, .ref (ad 13 0)), (1, .int x), (2, .int k)]) hx hb d_Model_openOf_42 hl (k := 3) rfl (nI_1 j) (by decide) rfl (fun ls hl => ?_)
              refine lv_goto (tgt := 2) hx hb d_Model_openOf_45 (by decide) ?_
              exact loop_ih (j + 1)  ls H locs (Nat.succ_le_of_lt (Nat.lt_succ_of_le (nlt_le c_1 (by have := hM.2.2.2.1.2; omega) hM.2.2.2.1.1))) (by omega) (by rw [moF_st (nlt_le c_1 (by have := hM.2.2.2.1.2; omega) hM.2.2.2.1.1), if_neg (fun h => c_4 h.2.2)] at loop_i; exact loop_i) hV (lv_sub hl [1, 2, 3, 0] rfl)
            · skip
              refine lv_iload_n hx hb d_Model_openOf_40 rfl (lv_at hl 3 rfl) ?_
              refine os_iret hx hb hr hlocks hV (Nat.le_of_ble_eq_true rfl) (Nat.le_of_ble_eq_true rfl) d_Model_openOf_41 ?_
              exact ⟨rfl, rfl, by rw [← loop_i, moF_st (nlt_le c_1 (by have := hM.2.2.2.1.2; omega) hM.2.2.2.1.1), if_pos ⟨c_2, c_3, c_4⟩]⟩
  exact loop ((iN (os_g σ 13 13 0) + 1) + 1) 1  ls _ _ (by omega) (by omega) rfl hV (lv_sub hl [1, 2, 3, 0] rfl)
set_option maxHeartbeats 4000000 in
set_option maxRecDepth 100000 in
theorem c_Model_openKinds (l : Launch) (hlt : l.stackTraces = false) (D : va_G) (cA : Nat → ClassId) (bs : Nat) (σ : os_S) (ad : Nat → Nat → Nat) (x : Int32) (hM : MI σ) : os_Met l y_Model_openKinds prog_9_method_16_code 4 (some .int) { frames := 1, cells := 0, slots := 0, locals := 23 } D cA bs [.ref (ad 13 0), .int x] σ ad (pv σ ad (some (.int (mok σ x 8)))) := by
  refine os_ofW (by decide) ?_
  intro p e s m below meth c hx hb hr hml hown hlocks hmn hout hE hV
  have hts := hE.hts (args := ([.ref (ad 13 0), .int x] : List Value).toArray)
  have hK := hE.2.1
  have hbs := hE.2.2.1
  have hown : s.vm.findClass "RobotFaultsModel" = some m.cls := hown
  have hl := lv_entry ([.ref (ad 13 0), .int x]) (n := 4) (Nat.le_of_ble_eq_true rfl)
  rw [lg_entry_eq]
  generalize (lg_sl ([.ref (ad 13 0), .int x]) ++ List.replicate (4 - (lg_sl ([.ref (ad 13 0), .int x])).length) Slot.unset).toArray = ls at hl ⊢
  have hl : lv_has ls 4 [(0, .ref (ad 13 0)), (1, .int x)] := hl
  refine lv_iconst (v := 0) hx hb d_Model_openKinds_0 (by decide) ?_
  refine lv_istore_n (lv' := [(2, .int 0), (0, .ref (ad 13 0)), (1, .int x)]) hx hb d_Model_openKinds_1 rfl hl (by decide) rfl (fun ls hl => ?_)
  refine lv_iconst (v := 0) hx hb d_Model_openKinds_2 (by decide) ?_
  refine lv_istore_n (lv' := [(3, .int 0), (2, .int 0), (0, .ref (ad 13 0)), (1, .int x)]) hx hb d_Model_openKinds_3 rfl hl (by decide) rfl (fun ls hl => ?_)
  have loop : ∀ (n j : Nat) (a : Int32) (ls : Array Slot) (H : Heap) (locs : List Loc), j ≤ 8 → 8 < j + n → a = mok σ x j → os_V D cA bs σ ad s σ ad H locs → lv_has ls 4 [(0, .ref (ad 13 0)), (1, .int x), (2, .int a), (3, .int (nI j))] → W p l e { frames := 1, cells := 0, slots := 0, locals := 23 } s m ([.ref (ad 13 0), .int x] : List Value).toArray below meth c H locs (0) (0) (os_End D cA bs below s σ ad { frames := 1, cells := 0, slots := 0, locals := 23 } (pv σ ad (some (.int (mok σ x 8))))) (F0 m 4 ls []) := by
    intro n
    induction n with
    | zero => intro j a ls H locs h1 h2; exact absurd h2 (by omega)
    | succ n loop_ih =>
      intro j a ls H locs loop_j loop_n loop_i hV hl
      refine lv_iload_n hx hb d_Model_openKinds_4 rfl (lv_at hl 3 rfl) ?_
      refine lv_bipush (v := 8) hx hb d_Model_openKinds_5 (by decide) ?_
      refine lv_icmp_ge (tgt := 35) hx hb d_Model_openKinds_7 (by decide) (fun c_1 => ?_) (fun c_1 => ?_)
      · skip
        refine lv_iload_n hx hb d_Model_openKinds_35 rfl (lv_at hl 2 rfl) ?_
        refine os_iret hx hb hr hlocks hV (Nat.le_of_ble_eq_true rfl) (Nat.le_of_ble_eq_true rfl) d_Model_openKinds_36 ?_
        have hj := eq_of_le c_1 loop_j
        subst hj
        exact ⟨rfl, rfl, by rw [loop_i]⟩
      · skip
        refine lv_iload_n hx hb d_Model_openKinds_10 rfl (lv_at hl 2 rfl) ?_
        refine lv_aload_n hx hb d_Model_openKinds_11 rfl (lv_at hl 0 rfl) ?_
        refine lv_iload_n hx hb d_Model_openKinds_12 rfl (lv_at hl 1 rfl) ?_
        refine lv_iload_n hx hb d_Model_openKinds_13 rfl (lv_at hl 3 rfl) ?_
        refine os_call (c_Model_openOf l hlt D cA bs σ ad x (nI j) hM) hE hV k_898 k_4 (os_inV (C := "RobotFaultsModel") (n := 2) (bytes := prog_9_method_15_code) (maxL := 4) (ret := (some .int)) hx hb hown (hts _ k_895) (hts _ k_897) (hts _ k_s25) (hts _ k_898) (by decide +kernel) rfl (os_recv hK hV rfl rfl (hM.1.n 13 (by decide) (by decide))) rfl d_Model_openKinds_14) (hl.1.trans hml.symm) (Nat.le_of_ble_eq_true rfl) (Nat.le_of_ble_eq_true rfl) (Nat.le_of_ble_eq_true rfl) (Nat.le_of_ble_eq_true rfl) (Nat.le_of_ble_eq_true rfl) (fun v σ1 ad1 H locs hp hext hV => ?_) (fun E q ce σ1 ad1 H locs hp hext hV hce hcv hcl => ?_)
        · obtain ⟨rfl, rfl, hp⟩ := hp
          cases hp
          refine W.eq (g2 := F0 m 17 ls [.int (mof σ x (nI j)), .int a]) rfl ?_
          refine lv_if_le (tgt := 26) hx hb d_Model_openKinds_17 (by decide) (fun c_2 => ?_) (fun c_2 => ?_)
          · skip
            refine lv_iconst (v := 0) hx hb d_Model_openKinds_26 (by decide) ?_
            refine lv_ior hx hb d_Model_openKinds_27 ?_
            refine lv_istore_n (lv' := [(2, .int (a ||| 0)), (0, .ref (ad 13 0)), (1, .int x), (3, .int (nI j))]) hx hb d_Model_openKinds_28 rfl hl (by decide) rfl (fun ls hl => ?_)
            refine lv_iinc (v := nI (j + 1)) (lv' := [(3, .int (nI (j + 1))), (2, .int (a ||| 0)), (0, .ref (ad 13 0)), (1, .int x)]) hx hb d_Model_openKinds_29 hl (k := 3) rfl (nI_1 j) (by decide) rfl (fun ls hl => ?_)
            refine lv_goto (tgt := 4) hx hb d_Model_openKinds_32 (by decide) ?_
            exact loop_ih (j + 1) (a ||| 0) ls H locs (Nat.succ_le_of_lt (lt_of_nle c_1 loop_j)) (by omega) (by rw [mok, if_pos c_2, loop_i]) hV (lv_sub hl [2, 3, 1, 0] rfl)
          · skip
            refine lv_iconst (v := 1) hx hb d_Model_openKinds_20 (by decide) ?_
            refine lv_iload_n hx hb d_Model_openKinds_21 rfl (lv_at hl 3 rfl) ?_
            refine lv_ishl hx hb d_Model_openKinds_22 ?_
            refine lv_goto (tgt := 27) hx hb d_Model_openKinds_23 (by decide) ?_
            refine lv_ior hx hb d_Model_openKinds_27 ?_
            refine lv_istore_n (lv' := [(2, .int (a ||| (1 <<< ((nI j) &&& 31)))), (0, .ref (ad 13 0)), (1, .int x), (3, .int (nI j))]) hx hb d_Model_openKinds_28 rfl hl (by decide) rfl (fun ls hl => ?_)
            refine lv_iinc (v := nI (j + 1)) (lv' := [(3, .int (nI (j + 1))), (2, .int (a ||| (1 <<< ((nI j) &&& 31)))), (0, .ref (ad 13 0)), (1, .int x)]) hx hb d_Model_openKinds_29 hl (k := 3) rfl (nI_1 j) (by decide) rfl (fun ls hl => ?_)
            refine lv_goto (tgt := 4) hx hb d_Model_openKinds_32 (by decide) ?_
            exact loop_ih (j + 1) (a ||| (1 <<< ((nI j) &&& 31))) ls H locs (Nat.succ_le_of_lt (lt_of_nle c_1 loop_j)) (by omega) (by rw [mok, if_neg c_2, loop_i]) hV (lv_sub hl [2, 3, 1, 0] rfl)
        · exact absurd hp.2.2 (fun h => by cases h)
  exact loop (8 + 1) 0 0 ls _ _ (by omega) (by omega) rfl hV (lv_sub hl [2, 3, 1, 0] rfl)
set_option maxHeartbeats 4000000 in
set_option maxRecDepth 100000 in
theorem c_Model_bits (l : Launch) (hlt : l.stackTraces = false) (D : va_G) (cA : Nat → ClassId) (bs : Nat) (σ : os_S) (ad : Nat → Nat → Nat) (x : Int32) : os_Met l y_Model_bits prog_9_method_21_code 3 (some .int) { frames := 0, cells := 0, slots := 0, locals := 0 } D cA bs [.int x] σ ad (pv σ ad (some (.int (mbt x 8)))) := by
  refine os_ofW (by decide) ?_
  intro p e s m below meth c hx hb hr hml hown hlocks hmn hout hE hV
  have hts := hE.hts (args := ([.int x] : List Value).toArray)
  have hK := hE.2.1
  have hbs := hE.2.2.1
  have hown : s.vm.findClass "RobotFaultsModel" = some m.cls := hown
  have hl := lv_entry ([.int x]) (n := 3) (Nat.le_of_ble_eq_true rfl)
  rw [lg_entry_eq]
  generalize (lg_sl ([.int x]) ++ List.replicate (3 - (lg_sl ([.int x])).length) Slot.unset).toArray = ls at hl ⊢
  have hl : lv_has ls 3 [(0, .int x)] := hl
  refine lv_iconst (v := 0) hx hb d_Model_bits_0 (by decide) ?_
  refine lv_istore_n (lv' := [(1, .int 0), (0, .int x)]) hx hb d_Model_bits_1 rfl hl (by decide) rfl (fun ls hl => ?_)
  refine lv_iconst (v := 0) hx hb d_Model_bits_2 (by decide) ?_
  refine lv_istore_n (lv' := [(2, .int 0), (1, .int 0), (0, .int x)]) hx hb d_Model_bits_3 rfl hl (by decide) rfl (fun ls hl => ?_)
  have loop : ∀ (n j : Nat) (a : Int32) (ls : Array Slot) (H : Heap) (locs : List Loc), j ≤ 8 → 8 < j + n → a = mbt x j → os_V D cA bs σ ad s σ ad H locs → lv_has ls 3 [(0, .int x), (1, .int a), (2, .int (nI j))] → W p l e { frames := 0, cells := 0, slots := 0, locals := 0 } s m ([.int x] : List Value).toArray below meth c H locs (0) (0) (os_End D cA bs below s σ ad { frames := 0, cells := 0, slots := 0, locals := 0 } (pv σ ad (some (.int (mbt x 8))))) (F0 m 4 ls []) := by
    intro n
    induction n with
    | zero => intro j a ls H locs h1 h2; exact absurd h2 (by omega)
    | succ n loop_ih =>
      intro j a ls H locs loop_j loop_n loop_i hV hl
      refine lv_iload_n hx hb d_Model_bits_4 rfl (lv_at hl 2 rfl) ?_
      refine lv_bipush (v := 8) hx hb d_Model_bits_5 (by decide) ?_
      refine lv_icmp_ge (tgt := 24) hx hb d_Model_bits_7 (by decide) (fun c_1 => ?_) (fun c_1 => ?_)
      · skip
        refine lv_iload_n hx hb d_Model_bits_24 rfl (lv_at hl 1 rfl) ?_
        refine os_iret hx hb hr hlocks hV (Nat.le_of_ble_eq_true rfl) (Nat.le_of_ble_eq_true rfl) d_Model_bits_25 ?_
        have hj := eq_of_le c_1 loop_j
        subst hj
        exact ⟨rfl, rfl, by rw [loop_i]⟩
      · skip
        refine lv_iload_n hx hb d_Model_bits_10 rfl (lv_at hl 1 rfl) ?_
        refine lv_iload_n hx hb d_Model_bits_11 rfl (lv_at hl 0 rfl) ?_
        refine lv_iload_n hx hb d_Model_bits_12 rfl (lv_at hl 2 rfl) ?_
        refine lv_ishr hx hb d_Model_bits_13 ?_
        refine lv_iconst (v := 1) hx hb d_Model_bits_14 (by decide) ?_
        refine lv_iand hx hb d_Model_bits_15 ?_
        refine lv_iadd hx hb d_Model_bits_16 ?_
        refine lv_istore_n (lv' := [(1, .int (a + ((x >>> ((nI j) &&& 31)) &&& 1))), (0, .int x), (2, .int (nI j))]) hx hb d_Model_bits_17 rfl hl (by decide) rfl (fun ls hl => ?_)
        refine lv_iinc (v := nI (j + 1)) (lv' := [(2, .int (nI (j + 1))), (1, .int (a + ((x >>> ((nI j) &&& 31)) &&& 1))), (0, .int x)]) hx hb d_Model_bits_18 hl (k := 2) rfl (nI_1 j) (by decide) rfl (fun ls hl => ?_)
        refine lv_goto (tgt := 4) hx hb d_Model_bits_21 (by decide) ?_
        exact loop_ih (j + 1) (a + ((x >>> ((nI j) &&& 31)) &&& 1)) ls H locs (Nat.succ_le_of_lt (lt_of_nle c_1 loop_j)) (by omega) (by rw [mbt, loop_i]) hV (lv_sub hl [2, 1, 0] rfl)
  exact loop (8 + 1) 0 0 ls _ _ (by omega) (by omega) rfl hV (lv_sub hl [2, 1, 0] rfl)
set_option maxHeartbeats 4000000 in
set_option maxRecDepth 100000 in
theorem c_Model_bars (l : Launch) (hlt : l.stackTraces = false) (D : va_G) (cA : Nat → ClassId) (bs : Nat) (σ : os_S) (ad : Nat → Nat → Nat) (x k : Int32) (hM : MI σ) (hx9 : x = nI (iN x) ∧ iN x < 8) : os_Met l y_Model_bars prog_9_method_18_code 3 (some .int) { frames := 0, cells := 0, slots := 0, locals := 0 } D cA bs [.ref (ad 13 0), .int x, .int k] σ ad (pv σ ad (some (.int (mba σ x k)))) := by
  refine os_ofW (by decide) ?_
  intro p e s m below meth c hx hb hr hml hown hlocks hmn hout hE hV
  have hts := hE.hts (args := ([.ref (ad 13 0), .int x, .int k] : List Value).toArray)
  have hK := hE.2.1
  have hbs := hE.2.2.1
  have hown : s.vm.findClass "RobotFaultsModel" = some m.cls := hown
  have hl := lv_entry ([.ref (ad 13 0), .int x, .int k]) (n := 3) (Nat.le_of_ble_eq_true rfl)
  rw [lg_entry_eq]
  generalize (lg_sl ([.ref (ad 13 0), .int x, .int k]) ++ List.replicate (3 - (lg_sl ([.ref (ad 13 0), .int x, .int k])).length) Slot.unset).toArray = ls at hl ⊢
  have hl : lv_has ls 3 [(0, .ref (ad 13 0)), (1, .int x), (2, .int k)] := hl
  refine lv_iload_n hx hb d_Model_bars_0 rfl (lv_at hl 2 rfl) ?_
  refine lv_iconst (v := 2) hx hb d_Model_bars_1 (by decide) ?_
  refine lv_icmp_ne (tgt := 19) hx hb d_Model_bars_2 (by decide) (fun c_1 => ?_) (fun c_1 => ?_)
  · skip
    refine lv_aload_n hx hb d_Model_bars_19 rfl (lv_at hl 0 rfl) ?_
    refine os_get (C := "RobotFaultsModel") (T := F_Model) (N := 38) (ci := 7) (K := 13) (j := 13) (i := 0) (v := .int (os_g σ 13 13 0)) hx hb hts i_Model hown hK hV rfl rfl (by decide) (hM.1.n 13 (by decide) (by decide)) (hts _ k_738) rfl d_Model_bars_20 ?_
    refine lv_bipush (v := 40) hx hb d_Model_bars_23 (by decide) ?_
    refine lv_icmp_ne (tgt := 32) hx hb d_Model_bars_25 (by decide) (fun c_2 => ?_) (fun c_2 => ?_)
    · skip
      refine lv_iconst (v := 0) hx hb d_Model_bars_32 (by decide) ?_
      refine os_iret hx hb hr hlocks hV (Nat.le_of_ble_eq_true rfl) (Nat.le_of_ble_eq_true rfl) d_Model_bars_33 ?_
      exact ⟨rfl, rfl, by simp [mba, c_1, c_2]⟩
    · skip
      refine lv_iconst (v := 4) hx hb d_Model_bars_28 (by decide) ?_
      refine lv_goto (tgt := 33) hx hb d_Model_bars_29 (by decide) ?_
      refine os_iret hx hb hr hlocks hV (Nat.le_of_ble_eq_true rfl) (Nat.le_of_ble_eq_true rfl) d_Model_bars_33 ?_
      exact ⟨rfl, rfl, by simp [mba, c_1, c_2]⟩
  · skip
    refine lv_aload_n hx hb d_Model_bars_5 rfl (lv_at hl 0 rfl) ?_
    refine os_get (C := "RobotFaultsModel") (T := F_Model) (N := 38) (ci := 7) (K := 13) (j := 6) (i := 0) (v := .ref (ad 16 0)) hx hb hts i_Model hown hK hV rfl rfl (by decide) (hM.1.n 13 (by decide) (by decide)) (hts _ k_731) (congrArg (fun z => va_rf (Option.map (ad 16) z)) (hM.1.2.1 6 (by decide) (by decide))) d_Model_bars_6 ?_
    refine lv_iload_n hx hb d_Model_bars_9 rfl (lv_at hl 1 rfl) ?_
    refine os_ialdN (K := 16) (i := 0) (t0 := 0) (n := (iN x)) hx hb hK hV rfl rfl rfl (hM.1.n 16 (by decide) (by decide)) hx9.1 (by rw [show os_l σ 16 0 = 8 from hM.1.2.2 16 (by decide) (by decide)]; have h9 := hx9.2; omega) (by rw [show os_l σ 16 0 = 8 from hM.1.2.2 16 (by decide) (by decide)]; decide) d_Model_bars_10 ?_
    refine lv_iconst (v := (-1)) hx hb d_Model_bars_11 (by decide) ?_
    refine lv_icmp_ne (tgt := 19) hx hb d_Model_bars_12 (by decide) (fun c_3 => ?_) (fun c_3 => ?_)
    · skip
      refine lv_aload_n hx hb d_Model_bars_19 rfl (lv_at hl 0 rfl) ?_
      refine os_get (C := "RobotFaultsModel") (T := F_Model) (N := 38) (ci := 7) (K := 13) (j := 13) (i := 0) (v := .int (os_g σ 13 13 0)) hx hb hts i_Model hown hK hV rfl rfl (by decide) (hM.1.n 13 (by decide) (by decide)) (hts _ k_738) rfl d_Model_bars_20 ?_
      refine lv_bipush (v := 40) hx hb d_Model_bars_23 (by decide) ?_
      refine lv_icmp_ne (tgt := 32) hx hb d_Model_bars_25 (by decide) (fun c_4 => ?_) (fun c_4 => ?_)
      · skip
        refine lv_iconst (v := 0) hx hb d_Model_bars_32 (by decide) ?_
        refine os_iret hx hb hr hlocks hV (Nat.le_of_ble_eq_true rfl) (Nat.le_of_ble_eq_true rfl) d_Model_bars_33 ?_
        exact ⟨rfl, rfl, by simp [mba, c_1, c_3, c_4]⟩
      · skip
        refine lv_iconst (v := 4) hx hb d_Model_bars_28 (by decide) ?_
        refine lv_goto (tgt := 33) hx hb d_Model_bars_29 (by decide) ?_
        refine os_iret hx hb hr hlocks hV (Nat.le_of_ble_eq_true rfl) (Nat.le_of_ble_eq_true rfl) d_Model_bars_33 ?_
        exact ⟨rfl, rfl, by simp [mba, c_1, c_3, c_4]⟩
    · skip
      refine lv_iconst (v := 3) hx hb d_Model_bars_15 (by decide) ?_
      refine lv_goto (tgt := 33) hx hb d_Model_bars_16 (by decide) ?_
      refine os_iret hx hb hr hlocks hV (Nat.le_of_ble_eq_true rfl) (Nat.le_of_ble_eq_true rfl) d_Model_bars_33 ?_
      exact ⟨rfl, rfl, by simp [mba, c_1, c_3]⟩
/-- what Model_step does, road by road -/
def m_step (σ : os_S) (ad : Nat → Nat → Nat) (x y : Int32) : os_O → os_S → (Nat → Nat → Nat) → Prop := fun r σ' ad' => ad = ad' ∧ (((¬ (bz (inF x 1 (os_g σ 13 13 0))) = 0) ∧ (¬ (bz (inF y 0 7)) = 0) ∧ ((os_g σ 26 (iN x) 0) = (-1)) ∧ (¬ (((os_g σ 28 (iN x) 0) >>> (y &&& 31)) &&& 1) = 1) ∧ ((os_g σ 29 (iN x) 0) ≤ (mbt (os_g (os_sg (os_sg (os_sg σ 13 0 0 0) 13 0 0 0) 28 (iN x) 0 ((os_g σ 28 (iN x) 0) ||| (1 <<< (y &&& 31)))) 28 (iN x) 0) 8)) ∧ os_sg (os_sg (os_sg (os_sg σ 13 0 0 0) 13 0 0 0) 28 (iN x) 0 ((os_g σ 28 (iN x) 0) ||| (1 <<< (y &&& 31)))) 26 (iN x) 0 (os_g σ 13 1 0) = σ' ∧ r = .inl (some (.int 1))) ∨ ((¬ (bz (inF x 1 (os_g σ 13 13 0))) = 0) ∧ (¬ (bz (inF y 0 7)) = 0) ∧ ((os_g σ 26 (iN x) 0) = (-1)) ∧ (¬ (((os_g σ 28 (iN x) 0) >>> (y &&& 31)) &&& 1) = 1) ∧ (¬ ((os_g σ 29 (iN x) 0) ≤ (mbt (os_g (os_sg (os_sg (os_sg σ 13 0 0 0) 13 0 0 0) 28 (iN x) 0 ((os_g σ 28 (iN x) 0) ||| (1 <<< (y &&& 31)))) 28 (iN x) 0) 8))) ∧ os_sg (os_sg (os_sg σ 13 0 0 0) 13 0 0 0) 28 (iN x) 0 ((os_g σ 28 (iN x) 0) ||| (1 <<< (y &&& 31))) = σ' ∧ r = .inl (some (.int 0))) ∨ ((¬ (bz (inF x 1 (os_g σ 13 13 0))) = 0) ∧ (¬ (bz (inF y 0 7)) = 0) ∧ ((os_g σ 26 (iN x) 0) = (-1)) ∧ ((((os_g σ 28 (iN x) 0) >>> (y &&& 31)) &&& 1) = 1) ∧ os_sg (os_sg σ 13 0 0 0) 13 0 0 0 = σ' ∧ r = .inl (some (.int 2))) ∨ ((¬ (bz (inF x 1 (os_g σ 13 13 0))) = 0) ∧ (¬ (bz (inF y 0 7)) = 0) ∧ (¬ ((os_g σ 26 (iN x) 0) = (-1))) ∧ os_sg (os_sg σ 13 0 0 0) 13 0 0 3 = σ' ∧ r = .inl (some (.int 0))) ∨ ((¬ (bz (inF x 1 (os_g σ 13 13 0))) = 0) ∧ ((bz (inF y 0 7)) = 0) ∧ os_sg σ 13 0 0 2 = σ' ∧ r = .inl (some (.int 0))) ∨ (((bz (inF x 1 (os_g σ 13 13 0))) = 0) ∧ os_sg σ 13 0 0 1 = σ' ∧ r = .inl (some (.int 0))))
set_option maxHeartbeats 4000000 in
set_option maxRecDepth 100000 in
theorem c_Model_step (l : Launch) (hlt : l.stackTraces = false) (D : va_G) (cA : Nat → ClassId) (bs : Nat) (σ : os_S) (ad : Nat → Nat → Nat) (x y : Int32) (hM : MI σ) : os_Met l y_Model_step prog_9_method_22_code 3 (some .int) { frames := 2, cells := 0, slots := 0, locals := 43 } D cA bs [.ref (ad 13 0), .int x, .int y] σ ad (m_step σ ad x y) := by
  refine os_ofW (by decide) ?_
  intro p e s m below meth c hx hb hr hml hown hlocks hmn hout hE hV
  have hts := hE.hts (args := ([.ref (ad 13 0), .int x, .int y] : List Value).toArray)
  have hK := hE.2.1
  have hbs := hE.2.2.1
  have hown : s.vm.findClass "RobotFaultsModel" = some m.cls := hown
  have hl := lv_entry ([.ref (ad 13 0), .int x, .int y]) (n := 3) (Nat.le_of_ble_eq_true rfl)
  rw [lg_entry_eq]
  generalize (lg_sl ([.ref (ad 13 0), .int x, .int y]) ++ List.replicate (3 - (lg_sl ([.ref (ad 13 0), .int x, .int y])).length) Slot.unset).toArray = ls at hl ⊢
  have hl : lv_has ls 3 [(0, .ref (ad 13 0)), (1, .int x), (2, .int y)] := hl
  refine lv_aload_n hx hb d_Model_step_0 rfl (lv_at hl 0 rfl) ?_
  refine lv_aload_n hx hb d_Model_step_1 rfl (lv_at hl 0 rfl) ?_
  refine lv_iload_n hx hb d_Model_step_2 rfl (lv_at hl 1 rfl) ?_
  refine os_call (c_Model_isFault l hlt D cA bs σ ad x hM) hE hV k_910 k_4 (os_inV (C := "RobotFaultsModel") (n := 1) (bytes := prog_9_method_6_code) (maxL := 2) (ret := (some .boolean)) hx hb hown (hts _ k_907) (hts _ k_909) (hts _ k_s27) (hts _ k_910) (by decide +kernel) rfl (os_recv hK hV rfl rfl (hM.1.n 13 (by decide) (by decide))) rfl d_Model_step_3) (hl.1.trans hml.symm) (Nat.le_of_ble_eq_true rfl) (Nat.le_of_ble_eq_true rfl) (Nat.le_of_ble_eq_true rfl) (Nat.le_of_ble_eq_true rfl) (Nat.le_of_ble_eq_true rfl) (fun v σ1 ad1 H locs hp hext hV => ?_) (fun E q ce σ1 ad1 H locs hp hext hV hce hcv hcl => ?_)
  · obtain ⟨rfl, rfl, hp⟩ := hp
    cases hp
    refine W.eq (g2 := F0 m 6 ls [.int (bz (inF x 1 (os_g σ 13 13 0))), .ref (ad 13 0)]) rfl ?_
    refine lv_if_ne (tgt := 13) hx hb d_Model_step_6 (by decide) (fun c_1 => ?_) (fun c_1 => ?_)
    · skip
      refine lv_iload_n hx hb d_Model_step_13 rfl (lv_at hl 2 rfl) ?_
      refine lv_iconst (v := 0) hx hb d_Model_step_14 (by decide) ?_
      refine lv_bipush (v := 7) hx hb d_Model_step_15 (by decide) ?_
      refine os_call (c_Model_in l hlt D cA bs σ ad y 0 7) hE hV k_859 k_4 (os_inS (n := 3) (bytes := prog_9_method_3_code) (maxL := 3) (ret := (some .boolean)) hx hb hown (hts _ k_857) (hts _ k_858) (hts _ k_4) (hts _ k_859) (by decide +kernel) rfl rfl d_Model_step_17) (hl.1.trans hml.symm) (Nat.le_of_ble_eq_true rfl) (Nat.le_of_ble_eq_true rfl) (Nat.le_of_ble_eq_true rfl) (Nat.le_of_ble_eq_true rfl) (Nat.le_of_ble_eq_true rfl) (fun v σ1 ad1 H locs hp hext hV => ?_) (fun E q ce σ1 ad1 H locs hp hext hV hce hcv hcl => ?_)
      · obtain ⟨rfl, rfl, hp⟩ := hp
        cases hp
        refine W.eq (g2 := F0 m 20 ls [.int (bz (inF y 0 7)), .ref (ad 13 0)]) rfl ?_
        refine lv_if_ne (tgt := 27) hx hb d_Model_step_20 (by decide) (fun c_2 => ?_) (fun c_2 => ?_)
        · skip
          refine lv_iconst (v := 0) hx hb d_Model_step_27 (by decide) ?_
          refine os_putI (C := "RobotFaultsModel") (T := F_Model) (N := 38) (ci := 7) (K := 13) (j := 0) (i := 0) (v := 0) (ty := .int) hx hb hts i_Model t_Model t_Model_ok n_Model hown hK hV rfl rfl (by decide) (hM.1.n 13 (by decide) (by decide)) (hts _ k_725) rfl rfl rfl (by decide +kernel) rfl rfl d_Model_step_28 (fun H locs hV => ?_)
          refine lv_aload_n hx hb d_Model_step_31 rfl (lv_at hl 0 rfl) ?_
          refine os_get (C := "RobotFaultsModel") (T := F_Model) (N := 38) (ci := 7) (K := 13) (j := 0) (i := 0) (v := .int 0) hx hb hts i_Model hown hK hV rfl rfl (by decide) (hM.1.n 13 (by decide) (by decide)) (hts _ k_725) (os_fv_sgs (σ := σ) (ad := ad) (K := 13) (j := 0) (i := 0) (v := 0) rfl rfl) d_Model_step_32 ?_
          refine lv_if_ne (tgt := 57) hx hb d_Model_step_35 (by decide) (fun c_3 => ?_) (fun c_3 => ?_)
          · exact absurd c_3 (by decide)
          · skip
            refine lv_aload_n hx hb d_Model_step_38 rfl (lv_at hl 0 rfl) ?_
            refine lv_aload_n hx hb d_Model_step_39 rfl (lv_at hl 0 rfl) ?_
            refine os_get (C := "RobotFaultsModel") (T := F_Model) (N := 38) (ci := 7) (K := 13) (j := 17) (i := 0) (v := .ref (ad 26 0)) hx hb hts i_Model hown hK hV rfl rfl (by decide) (hM.1.n 13 (by decide) (by decide)) (hts _ k_742) (congrArg (fun z => va_rf (Option.map (ad 26) z)) (hM.1.2.1 17 (by decide) (by decide))) d_Model_step_40 ?_
            refine lv_iload_n hx hb d_Model_step_43 rfl (lv_at hl 1 rfl) ?_
            refine os_ialdN (K := 26) (i := 0) (t0 := 0) (n := (iN x)) hx hb hK hV rfl rfl rfl (hM.1.n 26 (by decide) (by decide)) (inF.ft (σ := σ) (bz_1 c_1) hM.2.2.2.1).1 (by rw [show os_l (os_sg σ 13 0 0 0) 26 0 = 41 from hM.1.2.2 26 (by decide) (by decide)]; have h9 := (Nat.le_trans (inF.ft (σ := σ) (bz_1 c_1) hM.2.2.2.1).2.2 hM.2.2.2.1.2); omega) (by rw [show os_l (os_sg σ 13 0 0 0) 26 0 = 41 from hM.1.2.2 26 (by decide) (by decide)]; decide) d_Model_step_44 ?_
            refine W.eq (g2 := F0 m 45 ls [.int (os_g σ 26 (iN x) 0), .ref (ad 13 0)]) (congrArg (fun z => F0 m 45 ls (.int z :: [.ref (ad 13 0)])) (show os_g (os_sg σ 13 0 0 0) 26 (iN x) 0 = os_g σ 26 (iN x) 0 from rfl)) ?_
            refine lv_iconst (v := (-1)) hx hb d_Model_step_45 (by decide) ?_
            refine lv_icmp_eq (tgt := 53) hx hb d_Model_step_46 (by decide) (fun c_4 => ?_) (fun c_4 => ?_)
            · skip
              refine lv_iconst (v := 0) hx hb d_Model_step_53 (by decide) ?_
              refine os_putI (C := "RobotFaultsModel") (T := F_Model) (N := 38) (ci := 7) (K := 13) (j := 0) (i := 0) (v := 0) (ty := .int) hx hb hts i_Model t_Model t_Model_ok n_Model hown hK hV rfl rfl (by decide) (hM.1.n 13 (by decide) (by decide)) (hts _ k_725) rfl rfl rfl (by decide +kernel) rfl rfl d_Model_step_54 (fun H locs hV => ?_)
              refine lv_aload_n hx hb d_Model_step_57 rfl (lv_at hl 0 rfl) ?_
              refine os_get (C := "RobotFaultsModel") (T := F_Model) (N := 38) (ci := 7) (K := 13) (j := 0) (i := 0) (v := .int 0) hx hb hts i_Model hown hK hV rfl rfl (by decide) (hM.1.n 13 (by decide) (by decide)) (hts _ k_725) (os_fv_sgs (σ := os_sg σ 13 0 0 0) (ad := ad) (K := 13) (j := 0) (i := 0) (v := 0) rfl rfl) d_Model_step_58 ?_
              refine lv_if_le (tgt := 66) hx hb d_Model_step_61 (by decide) (fun c_5 => ?_) (fun c_5 => ?_)
              · skip
                refine lv_aload_n hx hb d_Model_step_66 rfl (lv_at hl 0 rfl) ?_
                refine os_get (C := "RobotFaultsModel") (T := F_Model) (N := 38) (ci := 7) (K := 13) (j := 19) (i := 0) (v := .ref (ad 28 0)) hx hb hts i_Model hown hK hV rfl rfl (by decide) (hM.1.n 13 (by decide) (by decide)) (hts _ k_744) (congrArg (fun z => va_rf (Option.map (ad 28) z)) (hM.1.2.1 19 (by decide) (by decide))) d_Model_step_67 ?_
                refine lv_iload_n hx hb d_Model_step_70 rfl (lv_at hl 1 rfl) ?_
                refine os_ialdN (K := 28) (i := 0) (t0 := 0) (n := (iN x)) hx hb hK hV rfl rfl rfl (hM.1.n 28 (by decide) (by decide)) (inF.ft (σ := σ) (bz_1 c_1) hM.2.2.2.1).1 (by rw [show os_l (os_sg (os_sg σ 13 0 0 0) 13 0 0 0) 28 0 = 41 from hM.1.2.2 28 (by decide) (by decide)]; have h9 := (Nat.le_trans (inF.ft (σ := σ) (bz_1 c_1) hM.2.2.2.1).2.2 hM.2.2.2.1.2); omega) (by rw [show os_l (os_sg (os_sg σ 13 0 0 0) 13 0 0 0) 28 0 = 41 from hM.1.2.2 28 (by decide) (by decide)]; decide) d_Model_step_71 ?_
                refine W.eq (g2 := F0 m 72 ls [.int (os_g σ 28 (iN x) 0)]) (congrArg (fun z => F0 m 72 ls (.int z :: [])) (show os_g (os_sg (os_sg σ 13 0 0 0) 13 0 0 0) 28 (iN x) 0 = os_g σ 28 (iN x) 0 from rfl)) ?_
                refine lv_iload_n hx hb d_Model_step_72 rfl (lv_at hl 2 rfl) ?_
                refine lv_ishr hx hb d_Model_step_73 ?_
                refine lv_iconst (v := 1) hx hb d_Model_step_74 (by decide) ?_
                refine lv_iand hx hb d_Model_step_75 ?_
                refine lv_iconst (v := 1) hx hb d_Model_step_76 (by decide) ?_
                refine lv_icmp_ne (tgt := 82) hx hb d_Model_step_77 (by decide) (fun c_6 => ?_) (fun c_6 => ?_)
                · skip
                  refine lv_aload_n hx hb d_Model_step_82 rfl (lv_at hl 0 rfl) ?_
                  refine os_get (C := "RobotFaultsModel") (T := F_Model) (N := 38) (ci := 7) (K := 13) (j := 19) (i := 0) (v := .ref (ad 28 0)) hx hb hts i_Model hown hK hV rfl rfl (by decide) (hM.1.n 13 (by decide) (by decide)) (hts _ k_744) (congrArg (fun z => va_rf (Option.map (ad 28) z)) (hM.1.2.1 19 (by decide) (by decide))) d_Model_step_83 ?_
                  refine lv_iload_n hx hb d_Model_step_86 rfl (lv_at hl 1 rfl) ?_
                  refine lv_dup2_11 hx hb d_Model_step_87 rfl rfl ?_
                  refine os_ialdN (K := 28) (i := 0) (t0 := 0) (n := (iN x)) hx hb hK hV rfl rfl rfl (hM.1.n 28 (by decide) (by decide)) (inF.ft (σ := σ) (bz_1 c_1) hM.2.2.2.1).1 (by rw [show os_l (os_sg (os_sg σ 13 0 0 0) 13 0 0 0) 28 0 = 41 from hM.1.2.2 28 (by decide) (by decide)]; have h9 := (Nat.le_trans (inF.ft (σ := σ) (bz_1 c_1) hM.2.2.2.1).2.2 hM.2.2.2.1.2); omega) (by rw [show os_l (os_sg (os_sg σ 13 0 0 0) 13 0 0 0) 28 0 = 41 from hM.1.2.2 28 (by decide) (by decide)]; decide) d_Model_step_88 ?_
                  refine W.eq (g2 := F0 m 89 ls [.int (os_g σ 28 (iN x) 0), .int x, .ref (ad 28 0)]) (congrArg (fun z => F0 m 89 ls (.int z :: [.int x, .ref (ad 28 0)])) (show os_g (os_sg (os_sg σ 13 0 0 0) 13 0 0 0) 28 (iN x) 0 = os_g σ 28 (iN x) 0 from rfl)) ?_
                  refine lv_iconst (v := 1) hx hb d_Model_step_89 (by decide) ?_
                  refine lv_iload_n hx hb d_Model_step_90 rfl (lv_at hl 2 rfl) ?_
                  refine lv_ishl hx hb d_Model_step_91 ?_
                  refine lv_ior hx hb d_Model_step_92 ?_
                  refine os_iastN (K := 28) (i := 0) (t0 := 0) (n := (iN x)) hx hb hK hV rfl rfl rfl (hM.1.n 28 (by decide) (by decide)) (inF.ft (σ := σ) (bz_1 c_1) hM.2.2.2.1).1 (by rw [show os_l (os_sg (os_sg σ 13 0 0 0) 13 0 0 0) 28 0 = 41 from hM.1.2.2 28 (by decide) (by decide)]; have h9 := (Nat.le_trans (inF.ft (σ := σ) (bz_1 c_1) hM.2.2.2.1).2.2 hM.2.2.2.1.2); omega) (by rw [show os_l (os_sg (os_sg σ 13 0 0 0) 13 0 0 0) 28 0 = 41 from hM.1.2.2 28 (by decide) (by decide)]; decide) d_Model_step_93 (fun H locs hV => ?_)
                  refine lv_aload_n hx hb d_Model_step_94 rfl (lv_at hl 0 rfl) ?_
                  refine os_get (C := "RobotFaultsModel") (T := F_Model) (N := 38) (ci := 7) (K := 13) (j := 19) (i := 0) (v := .ref (ad 28 0)) hx hb hts i_Model hown hK hV rfl rfl (by decide) (hM.1.n 13 (by decide) (by decide)) (hts _ k_744) (congrArg (fun z => va_rf (Option.map (ad 28) z)) (hM.1.2.1 19 (by decide) (by decide))) d_Model_step_95 ?_
                  refine lv_iload_n hx hb d_Model_step_98 rfl (lv_at hl 1 rfl) ?_
                  refine os_ialdN (K := 28) (i := 0) (t0 := 0) (n := (iN x)) hx hb hK hV rfl rfl rfl (hM.1.n 28 (by decide) (by decide)) (inF.ft (σ := σ) (bz_1 c_1) hM.2.2.2.1).1 (by rw [show os_l (os_sg (os_sg (os_sg σ 13 0 0 0) 13 0 0 0) 28 (iN x) 0 ((os_g σ 28 (iN x) 0) ||| (1 <<< (y &&& 31)))) 28 0 = 41 from hM.1.2.2 28 (by decide) (by decide)]; have h9 := (Nat.le_trans (inF.ft (σ := σ) (bz_1 c_1) hM.2.2.2.1).2.2 hM.2.2.2.1.2); omega) (by rw [show os_l (os_sg (os_sg (os_sg σ 13 0 0 0) 13 0 0 0) 28 (iN x) 0 ((os_g σ 28 (iN x) 0) ||| (1 <<< (y &&& 31)))) 28 0 = 41 from hM.1.2.2 28 (by decide) (by decide)]; decide) d_Model_step_99 ?_
                  refine os_call (c_Model_bits l hlt D cA bs (os_sg (os_sg (os_sg σ 13 0 0 0) 13 0 0 0) 28 (iN x) 0 ((os_g σ 28 (iN x) 0) ||| (1 <<< (y &&& 31)))) ad (os_g (os_sg (os_sg (os_sg σ 13 0 0 0) 13 0 0 0) 28 (iN x) 0 ((os_g σ 28 (iN x) 0) ||| (1 <<< (y &&& 31)))) 28 (iN x) 0)) hE hV k_913 k_4 (os_inS (n := 1) (bytes := prog_9_method_21_code) (maxL := 3) (ret := (some .int)) hx hb hown (hts _ k_911) (hts _ k_912) (hts _ k_4) (hts _ k_913) (by decide +kernel) rfl rfl d_Model_step_100) (hl.1.trans hml.symm) (Nat.le_of_ble_eq_true rfl) (Nat.le_of_ble_eq_true rfl) (Nat.le_of_ble_eq_true rfl) (Nat.le_of_ble_eq_true rfl) (Nat.le_of_ble_eq_true rfl) (fun v σ1 ad1 H locs hp hext hV => ?_) (fun E q ce σ1 ad1 H locs hp hext hV hce hcv hcl => ?_)
                  · obtain ⟨rfl, rfl, hp⟩ := hp
                    cases hp
                    refine W.eq (g2 := F0 m 103 ls [.int (mbt (os_g (os_sg (os_sg (os_sg σ 13 0 0 0) 13 0 0 0) 28 (iN x) 0 ((os_g σ 28 (iN x) 0) ||| (1 <<< (y &&& 31)))) 28 (iN x) 0) 8)]) rfl ?_
                    refine lv_aload_n hx hb d_Model_step_103 rfl (lv_at hl 0 rfl) ?_
                    refine os_get (C := "RobotFaultsModel") (T := F_Model) (N := 38) (ci := 7) (K := 13) (j := 20) (i := 0) (v := .ref (ad 29 0)) hx hb hts i_Model hown hK hV rfl rfl (by decide) (hM.1.n 13 (by decide) (by decide)) (hts _ k_745) (congrArg (fun z => va_rf (Option.map (ad 29) z)) (hM.1.2.1 20 (by decide) (by decide))) d_Model_step_104 ?_
                    refine lv_iload_n hx hb d_Model_step_107 rfl (lv_at hl 1 rfl) ?_
                    refine os_ialdN (K := 29) (i := 0) (t0 := 0) (n := (iN x)) hx hb hK hV rfl rfl rfl (hM.1.n 29 (by decide) (by decide)) (inF.ft (σ := σ) (bz_1 c_1) hM.2.2.2.1).1 (by rw [show os_l (os_sg (os_sg (os_sg σ 13 0 0 0) 13 0 0 0) 28 (iN x) 0 ((os_g σ 28 (iN x) 0) ||| (1 <<< (y &&& 31)))) 29 0 = 41 from hM.1.2.2 29 (by decide) (by decide)]; have h9 := (Nat.le_trans (inF.ft (σ := σ) (bz_1 c_1) hM.2.2.2.1).2.2 hM.2.2.2.1.2); omega) (by rw [show os_l (os_sg (os_sg (os_sg σ 13 0 0 0) 13 0 0 0) 28 (iN x) 0 ((os_g σ 28 (iN x) 0) ||| (1 <<< (y &&& 31)))) 29 0 = 41 from hM.1.2.2 29 (by decide) (by decide)]; decide) d_Model_step_108 ?_
                    refine W.eq (g2 := F0 m 109 ls [.int (os_g σ 29 (iN x) 0), .int (mbt (os_g (os_sg (os_sg (os_sg σ 13 0 0 0) 13 0 0 0) 28 (iN x) 0 ((os_g σ 28 (iN x) 0) ||| (1 <<< (y &&& 31)))) 28 (iN x) 0) 8)]) (congrArg (fun z => F0 m 109 ls (.int z :: [.int (mbt (os_g (os_sg (os_sg (os_sg σ 13 0 0 0) 13 0 0 0) 28 (iN x) 0 ((os_g σ 28 (iN x) 0) ||| (1 <<< (y &&& 31)))) 28 (iN x) 0) 8)])) (show os_g (os_sg (os_sg (os_sg σ 13 0 0 0) 13 0 0 0) 28 (iN x) 0 ((os_g σ 28 (iN x) 0) ||| (1 <<< (y &&& 31)))) 29 (iN x) 0 = os_g σ 29 (iN x) 0 from rfl)) ?_
                    refine lv_icmp_ge (tgt := 114) hx hb d_Model_step_109 (by decide) (fun c_7 => ?_) (fun c_7 => ?_)
                    · skip
                      refine lv_aload_n hx hb d_Model_step_114 rfl (lv_at hl 0 rfl) ?_
                      refine os_get (C := "RobotFaultsModel") (T := F_Model) (N := 38) (ci := 7) (K := 13) (j := 17) (i := 0) (v := .ref (ad 26 0)) hx hb hts i_Model hown hK hV rfl rfl (by decide) (hM.1.n 13 (by decide) (by decide)) (hts _ k_742) (congrArg (fun z => va_rf (Option.map (ad 26) z)) (hM.1.2.1 17 (by decide) (by decide))) d_Model_step_115 ?_
                      refine lv_iload_n hx hb d_Model_step_118 rfl (lv_at hl 1 rfl) ?_
                      refine lv_aload_n hx hb d_Model_step_119 rfl (lv_at hl 0 rfl) ?_
                      refine os_get (C := "RobotFaultsModel") (T := F_Model) (N := 38) (ci := 7) (K := 13) (j := 1) (i := 0) (v := .int (os_g σ 13 1 0)) hx hb hts i_Model hown hK hV rfl rfl (by decide) (hM.1.n 13 (by decide) (by decide)) (hts _ k_726) rfl d_Model_step_120 ?_
                      refine os_iastN (K := 26) (i := 0) (t0 := 0) (n := (iN x)) hx hb hK hV rfl rfl rfl (hM.1.n 26 (by decide) (by decide)) (inF.ft (σ := σ) (bz_1 c_1) hM.2.2.2.1).1 (by rw [show os_l (os_sg (os_sg (os_sg σ 13 0 0 0) 13 0 0 0) 28 (iN x) 0 ((os_g σ 28 (iN x) 0) ||| (1 <<< (y &&& 31)))) 26 0 = 41 from hM.1.2.2 26 (by decide) (by decide)]; have h9 := (Nat.le_trans (inF.ft (σ := σ) (bz_1 c_1) hM.2.2.2.1).2.2 hM.2.2.2.1.2); omega) (by rw [show os_l (os_sg (os_sg (os_sg σ 13 0 0 0) 13 0 0 0) 28 (iN x) 0 ((os_g σ 28 (iN x) 0) ||| (1 <<< (y &&& 31)))) 26 0 = 41 from hM.1.2.2 26 (by decide) (by decide)]; decide) d_Model_step_123 (fun H locs hV => ?_)
                      refine lv_iconst (v := 1) hx hb d_Model_step_124 (by decide) ?_
                      refine os_iret hx hb hr hlocks hV (Nat.le_of_ble_eq_true rfl) (Nat.le_of_ble_eq_true rfl) d_Model_step_125 ?_
                      exact ⟨rfl, Or.inl (⟨c_1, c_2, c_4, c_6, c_7, rfl, rfl⟩)⟩
                    · skip
                      refine lv_iconst (v := 0) hx hb d_Model_step_112 (by decide) ?_
                      refine os_iret hx hb hr hlocks hV (Nat.le_of_ble_eq_true rfl) (Nat.le_of_ble_eq_true rfl) d_Model_step_113 ?_
                      exact ⟨rfl, Or.inr (Or.inl (⟨c_1, c_2, c_4, c_6, c_7, rfl, rfl⟩))⟩
                  · exact absurd hp.2.2 (fun h => by cases h)
                · skip
                  refine lv_iconst (v := 2) hx hb d_Model_step_80 (by decide) ?_
                  refine os_iret hx hb hr hlocks hV (Nat.le_of_ble_eq_true rfl) (Nat.le_of_ble_eq_true rfl) d_Model_step_81 ?_
                  exact ⟨rfl, Or.inr (Or.inr (Or.inl (⟨c_1, c_2, c_4, c_6, rfl, rfl⟩)))⟩
              · exact absurd (by decide) c_5
            · skip
              refine lv_iconst (v := 3) hx hb d_Model_step_49 (by decide) ?_
              refine lv_goto (tgt := 54) hx hb d_Model_step_50 (by decide) ?_
              refine os_putI (C := "RobotFaultsModel") (T := F_Model) (N := 38) (ci := 7) (K := 13) (j := 0) (i := 0) (v := 3) (ty := .int) hx hb hts i_Model t_Model t_Model_ok n_Model hown hK hV rfl rfl (by decide) (hM.1.n 13 (by decide) (by decide)) (hts _ k_725) rfl rfl rfl (by decide +kernel) rfl rfl d_Model_step_54 (fun H locs hV => ?_)
              refine lv_aload_n hx hb d_Model_step_57 rfl (lv_at hl 0 rfl) ?_
              refine os_get (C := "RobotFaultsModel") (T := F_Model) (N := 38) (ci := 7) (K := 13) (j := 0) (i := 0) (v := .int 3) hx hb hts i_Model hown hK hV rfl rfl (by decide) (hM.1.n 13 (by decide) (by decide)) (hts _ k_725) (os_fv_sgs (σ := os_sg σ 13 0 0 0) (ad := ad) (K := 13) (j := 0) (i := 0) (v := 3) rfl rfl) d_Model_step_58 ?_
              refine lv_if_le (tgt := 66) hx hb d_Model_step_61 (by decide) (fun c_8 => ?_) (fun c_8 => ?_)
              · exact absurd c_8 (by decide)
              · skip
                refine lv_iconst (v := 0) hx hb d_Model_step_64 (by decide) ?_
                refine os_iret hx hb hr hlocks hV (Nat.le_of_ble_eq_true rfl) (Nat.le_of_ble_eq_true rfl) d_Model_step_65 ?_
                exact ⟨rfl, Or.inr (Or.inr (Or.inr (Or.inl (⟨c_1, c_2, c_4, rfl, rfl⟩))))⟩
        · skip
          refine lv_iconst (v := 2) hx hb d_Model_step_23 (by decide) ?_
          refine lv_goto (tgt := 28) hx hb d_Model_step_24 (by decide) ?_
          refine os_putI (C := "RobotFaultsModel") (T := F_Model) (N := 38) (ci := 7) (K := 13) (j := 0) (i := 0) (v := 2) (ty := .int) hx hb hts i_Model t_Model t_Model_ok n_Model hown hK hV rfl rfl (by decide) (hM.1.n 13 (by decide) (by decide)) (hts _ k_725) rfl rfl rfl (by decide +kernel) rfl rfl d_Model_step_28 (fun H locs hV => ?_)
          refine lv_aload_n hx hb d_Model_step_31 rfl (lv_at hl 0 rfl) ?_
          refine os_get (C := "RobotFaultsModel") (T := F_Model) (N := 38) (ci := 7) (K := 13) (j := 0) (i := 0) (v := .int 2) hx hb hts i_Model hown hK hV rfl rfl (by decide) (hM.1.n 13 (by decide) (by decide)) (hts _ k_725) (os_fv_sgs (σ := σ) (ad := ad) (K := 13) (j := 0) (i := 0) (v := 2) rfl rfl) d_Model_step_32 ?_
          refine lv_if_ne (tgt := 57) hx hb d_Model_step_35 (by decide) (fun c_9 => ?_) (fun c_9 => ?_)
          · skip
            refine lv_aload_n hx hb d_Model_step_57 rfl (lv_at hl 0 rfl) ?_
            refine os_get (C := "RobotFaultsModel") (T := F_Model) (N := 38) (ci := 7) (K := 13) (j := 0) (i := 0) (v := .int 2) hx hb hts i_Model hown hK hV rfl rfl (by decide) (hM.1.n 13 (by decide) (by decide)) (hts _ k_725) (os_fv_sgs (σ := σ) (ad := ad) (K := 13) (j := 0) (i := 0) (v := 2) rfl rfl) d_Model_step_58 ?_
            refine lv_if_le (tgt := 66) hx hb d_Model_step_61 (by decide) (fun c_10 => ?_) (fun c_10 => ?_)
            · exact absurd c_10 (by decide)
            · skip
              refine lv_iconst (v := 0) hx hb d_Model_step_64 (by decide) ?_
              refine os_iret hx hb hr hlocks hV (Nat.le_of_ble_eq_true rfl) (Nat.le_of_ble_eq_true rfl) d_Model_step_65 ?_
              exact ⟨rfl, Or.inr (Or.inr (Or.inr (Or.inr (Or.inl (⟨c_1, c_2, rfl, rfl⟩)))))⟩
          · exact absurd c_9 (by decide)
      · exact absurd hp.2.2 (fun h => by cases h)
    · skip
      refine lv_iconst (v := 1) hx hb d_Model_step_9 (by decide) ?_
      refine lv_goto (tgt := 28) hx hb d_Model_step_10 (by decide) ?_
      refine os_putI (C := "RobotFaultsModel") (T := F_Model) (N := 38) (ci := 7) (K := 13) (j := 0) (i := 0) (v := 1) (ty := .int) hx hb hts i_Model t_Model t_Model_ok n_Model hown hK hV rfl rfl (by decide) (hM.1.n 13 (by decide) (by decide)) (hts _ k_725) rfl rfl rfl (by decide +kernel) rfl rfl d_Model_step_28 (fun H locs hV => ?_)
      refine lv_aload_n hx hb d_Model_step_31 rfl (lv_at hl 0 rfl) ?_
      refine os_get (C := "RobotFaultsModel") (T := F_Model) (N := 38) (ci := 7) (K := 13) (j := 0) (i := 0) (v := .int 1) hx hb hts i_Model hown hK hV rfl rfl (by decide) (hM.1.n 13 (by decide) (by decide)) (hts _ k_725) (os_fv_sgs (σ := σ) (ad := ad) (K := 13) (j := 0) (i := 0) (v := 1) rfl rfl) d_Model_step_32 ?_
      refine lv_if_ne (tgt := 57) hx hb d_Model_step_35 (by decide) (fun c_11 => ?_) (fun c_11 => ?_)
      · skip
        refine lv_aload_n hx hb d_Model_step_57 rfl (lv_at hl 0 rfl) ?_
        refine os_get (C := "RobotFaultsModel") (T := F_Model) (N := 38) (ci := 7) (K := 13) (j := 0) (i := 0) (v := .int 1) hx hb hts i_Model hown hK hV rfl rfl (by decide) (hM.1.n 13 (by decide) (by decide)) (hts _ k_725) (os_fv_sgs (σ := σ) (ad := ad) (K := 13) (j := 0) (i := 0) (v := 1) rfl rfl) d_Model_step_58 ?_
        refine lv_if_le (tgt := 66) hx hb d_Model_step_61 (by decide) (fun c_12 => ?_) (fun c_12 => ?_)
        · exact absurd c_12 (by decide)
        · skip
          refine lv_iconst (v := 0) hx hb d_Model_step_64 (by decide) ?_
          refine os_iret hx hb hr hlocks hV (Nat.le_of_ble_eq_true rfl) (Nat.le_of_ble_eq_true rfl) d_Model_step_65 ?_
          exact ⟨rfl, Or.inr (Or.inr (Or.inr (Or.inr (Or.inr (⟨c_1, rfl, rfl⟩)))))⟩
      · exact absurd c_11 (by decide)
  · exact absurd hp.2.2 (fun h => by cases h)
/-- what Model_test does, road by road -/
def m_test (σ : os_S) (ad : Nat → Nat → Nat) (x : Int32) (g : Bool) : os_O → os_S → (Nat → Nat → Nat) → Prop := fun r σ' ad' => ad = ad' ∧ (((¬ (bz (inF x 0 (os_g σ 13 4 0 - 1))) = 0) ∧ ((os_g σ 17 (iN x) 0) = 0) ∧ os_sg (os_sg σ 13 0 0 0) 13 0 0 2 = σ' ∧ r = .inl (some (.int 0))) ∨ ((¬ (bz (inF x 0 (os_g σ 13 4 0 - 1))) = 0) ∧ (¬ ((os_g σ 17 (iN x) 0) = 0)) ∧ ((os_g σ 17 (iN x) 0) = 2) ∧ os_sg (os_sg σ 13 0 0 0) 13 0 0 2 = σ' ∧ r = .inl (some (.int 0))) ∨ ((¬ (bz (inF x 0 (os_g σ 13 4 0 - 1))) = 0) ∧ (¬ ((os_g σ 17 (iN x) 0) = 0)) ∧ (¬ ((os_g σ 17 (iN x) 0) = 2)) ∧ ((mok (os_sg σ 13 0 0 0) x 8) = 0) ∧ (¬ (bz g) = 0) ∧ os_sg (os_sg (os_sg σ 13 0 0 0) 13 0 0 0) 18 (iN x) 0 0 = σ' ∧ r = .inl (some (.int (bz g)))) ∨ ((¬ (bz (inF x 0 (os_g σ 13 4 0 - 1))) = 0) ∧ (¬ ((os_g σ 17 (iN x) 0) = 0)) ∧ (¬ ((os_g σ 17 (iN x) 0) = 2)) ∧ ((mok (os_sg σ 13 0 0 0) x 8) = 0) ∧ ((bz g) = 0) ∧ os_sg (os_sg (os_sg σ 13 0 0 0) 13 0 0 0) 18 (iN x) 0 1 = σ' ∧ r = .inl (some (.int (bz g)))) ∨ ((¬ (bz (inF x 0 (os_g σ 13 4 0 - 1))) = 0) ∧ (¬ ((os_g σ 17 (iN x) 0) = 0)) ∧ (¬ ((os_g σ 17 (iN x) 0) = 2)) ∧ (¬ ((mok (os_sg σ 13 0 0 0) x 8) = 0)) ∧ os_sg (os_sg σ 13 0 0 0) 13 0 0 2 = σ' ∧ r = .inl (some (.int 0))) ∨ (((bz (inF x 0 (os_g σ 13 4 0 - 1))) = 0) ∧ os_sg σ 13 0 0 1 = σ' ∧ r = .inl (some (.int 0))))
set_option maxHeartbeats 4000000 in
set_option maxRecDepth 100000 in
theorem c_Model_test (l : Launch) (hlt : l.stackTraces = false) (D : va_G) (cA : Nat → ClassId) (bs : Nat) (σ : os_S) (ad : Nat → Nat → Nat) (x : Int32) (g : Bool) (hM : MI σ) : os_Met l y_Model_test prog_9_method_23_code 3 (some .boolean) { frames := 2, cells := 0, slots := 0, locals := 46 } D cA bs [.ref (ad 13 0), .int x, .int (bz g)] σ ad (m_test σ ad x g) := by
  refine os_ofW (by decide) ?_
  intro p e s m below meth c hx hb hr hml hown hlocks hmn hout hE hV
  have hts := hE.hts (args := ([.ref (ad 13 0), .int x, .int (bz g)] : List Value).toArray)
  have hK := hE.2.1
  have hbs := hE.2.2.1
  have hown : s.vm.findClass "RobotFaultsModel" = some m.cls := hown
  have hl := lv_entry ([.ref (ad 13 0), .int x, .int (bz g)]) (n := 3) (Nat.le_of_ble_eq_true rfl)
  rw [lg_entry_eq]
  generalize (lg_sl ([.ref (ad 13 0), .int x, .int (bz g)]) ++ List.replicate (3 - (lg_sl ([.ref (ad 13 0), .int x, .int (bz g)])).length) Slot.unset).toArray = ls at hl ⊢
  have hl : lv_has ls 3 [(0, .ref (ad 13 0)), (1, .int x), (2, .int (bz g))] := hl
  refine lv_aload_n hx hb d_Model_test_0 rfl (lv_at hl 0 rfl) ?_
  refine lv_aload_n hx hb d_Model_test_1 rfl (lv_at hl 0 rfl) ?_
  refine lv_iload_n hx hb d_Model_test_2 rfl (lv_at hl 1 rfl) ?_
  refine os_call (c_Model_isRobot l hlt D cA bs σ ad x hM) hE hV k_878 k_4 (os_inV (C := "RobotFaultsModel") (n := 1) (bytes := prog_9_method_5_code) (maxL := 2) (ret := (some .boolean)) hx hb hown (hts _ k_875) (hts _ k_877) (hts _ k_s22) (hts _ k_878) (by decide +kernel) rfl (os_recv hK hV rfl rfl (hM.1.n 13 (by decide) (by decide))) rfl d_Model_test_3) (hl.1.trans hml.symm) (Nat.le_of_ble_eq_true rfl) (Nat.le_of_ble_eq_true rfl) (Nat.le_of_ble_eq_true rfl) (Nat.le_of_ble_eq_true rfl) (Nat.le_of_ble_eq_true rfl) (fun v σ1 ad1 H locs hp hext hV => ?_) (fun E q ce σ1 ad1 H locs hp hext hV hce hcv hcl => ?_)
  · obtain ⟨rfl, rfl, hp⟩ := hp
    cases hp
    refine W.eq (g2 := F0 m 6 ls [.int (bz (inF x 0 (os_g σ 13 4 0 - 1))), .ref (ad 13 0)]) rfl ?_
    refine lv_if_ne (tgt := 13) hx hb d_Model_test_6 (by decide) (fun c_1 => ?_) (fun c_1 => ?_)
    · skip
      refine lv_iconst (v := 0) hx hb d_Model_test_13 (by decide) ?_
      refine os_putI (C := "RobotFaultsModel") (T := F_Model) (N := 38) (ci := 7) (K := 13) (j := 0) (i := 0) (v := 0) (ty := .int) hx hb hts i_Model t_Model t_Model_ok n_Model hown hK hV rfl rfl (by decide) (hM.1.n 13 (by decide) (by decide)) (hts _ k_725) rfl rfl rfl (by decide +kernel) rfl rfl d_Model_test_14 (fun H locs hV => ?_)
      refine lv_aload_n hx hb d_Model_test_17 rfl (lv_at hl 0 rfl) ?_
      refine os_get (C := "RobotFaultsModel") (T := F_Model) (N := 38) (ci := 7) (K := 13) (j := 0) (i := 0) (v := .int 0) hx hb hts i_Model hown hK hV rfl rfl (by decide) (hM.1.n 13 (by decide) (by decide)) (hts _ k_725) (os_fv_sgs (σ := σ) (ad := ad) (K := 13) (j := 0) (i := 0) (v := 0) rfl rfl) d_Model_test_18 ?_
      refine lv_if_ne (tgt := 60) hx hb d_Model_test_21 (by decide) (fun c_2 => ?_) (fun c_2 => ?_)
      · exact absurd c_2 (by decide)
      · skip
        refine lv_aload_n hx hb d_Model_test_24 rfl (lv_at hl 0 rfl) ?_
        refine lv_aload_n hx hb d_Model_test_25 rfl (lv_at hl 0 rfl) ?_
        refine os_get (C := "RobotFaultsModel") (T := F_Model) (N := 38) (ci := 7) (K := 13) (j := 7) (i := 0) (v := .ref (ad 17 0)) hx hb hts i_Model hown hK hV rfl rfl (by decide) (hM.1.n 13 (by decide) (by decide)) (hts _ k_732) (congrArg (fun z => va_rf (Option.map (ad 17) z)) (hM.1.2.1 7 (by decide) (by decide))) d_Model_test_26 ?_
        refine lv_iload_n hx hb d_Model_test_29 rfl (lv_at hl 1 rfl) ?_
        refine os_ialdN (K := 17) (i := 0) (t0 := 0) (n := (iN x)) hx hb hK hV rfl rfl rfl (hM.1.n 17 (by decide) (by decide)) (inF.ix (σ := σ) (bz_1 c_1) hM.2.2.1).1 (by rw [show os_l (os_sg σ 13 0 0 0) 17 0 = 8 from hM.1.2.2 17 (by decide) (by decide)]; have h9 := (Nat.lt_of_lt_of_le (inF.ix (σ := σ) (bz_1 c_1) hM.2.2.1).2 hM.2.2.1.2); omega) (by rw [show os_l (os_sg σ 13 0 0 0) 17 0 = 8 from hM.1.2.2 17 (by decide) (by decide)]; decide) d_Model_test_30 ?_
        refine W.eq (g2 := F0 m 31 ls [.int (os_g σ 17 (iN x) 0), .ref (ad 13 0)]) (congrArg (fun z => F0 m 31 ls (.int z :: [.ref (ad 13 0)])) (show os_g (os_sg σ 13 0 0 0) 17 (iN x) 0 = os_g σ 17 (iN x) 0 from rfl)) ?_
        refine lv_if_eq (tgt := 52) hx hb d_Model_test_31 (by decide) (fun c_3 => ?_) (fun c_3 => ?_)
        · skip
          refine lv_iconst (v := 2) hx hb d_Model_test_52 (by decide) ?_
          refine lv_goto (tgt := 57) hx hb d_Model_test_53 (by decide) ?_
          refine os_putI (C := "RobotFaultsModel") (T := F_Model) (N := 38) (ci := 7) (K := 13) (j := 0) (i := 0) (v := 2) (ty := .int) hx hb hts i_Model t_Model t_Model_ok n_Model hown hK hV rfl rfl (by decide) (hM.1.n 13 (by decide) (by decide)) (hts _ k_725) rfl rfl rfl (by decide +kernel) rfl rfl d_Model_test_57 (fun H locs hV => ?_)
          refine lv_aload_n hx hb d_Model_test_60 rfl (lv_at hl 0 rfl) ?_
          refine os_get (C := "RobotFaultsModel") (T := F_Model) (N := 38) (ci := 7) (K := 13) (j := 0) (i := 0) (v := .int 2) hx hb hts i_Model hown hK hV rfl rfl (by decide) (hM.1.n 13 (by decide) (by decide)) (hts _ k_725) (os_fv_sgs (σ := os_sg σ 13 0 0 0) (ad := ad) (K := 13) (j := 0) (i := 0) (v := 2) rfl rfl) d_Model_test_61 ?_
          refine lv_if_le (tgt := 69) hx hb d_Model_test_64 (by decide) (fun c_4 => ?_) (fun c_4 => ?_)
          · exact absurd c_4 (by decide)
          · skip
            refine lv_iconst (v := 0) hx hb d_Model_test_67 (by decide) ?_
            refine os_zret hx hb hr rfl hlocks hV (Nat.le_of_ble_eq_true rfl) (Nat.le_of_ble_eq_true rfl) d_Model_test_68 ?_
            exact ⟨rfl, Or.inl (⟨c_1, c_3, rfl, rfl⟩)⟩
        · skip
          refine lv_aload_n hx hb d_Model_test_34 rfl (lv_at hl 0 rfl) ?_
          refine os_get (C := "RobotFaultsModel") (T := F_Model) (N := 38) (ci := 7) (K := 13) (j := 7) (i := 0) (v := .ref (ad 17 0)) hx hb hts i_Model hown hK hV rfl rfl (by decide) (hM.1.n 13 (by decide) (by decide)) (hts _ k_732) (congrArg (fun z => va_rf (Option.map (ad 17) z)) (hM.1.2.1 7 (by decide) (by decide))) d_Model_test_35 ?_
          refine lv_iload_n hx hb d_Model_test_38 rfl (lv_at hl 1 rfl) ?_
          refine os_ialdN (K := 17) (i := 0) (t0 := 0) (n := (iN x)) hx hb hK hV rfl rfl rfl (hM.1.n 17 (by decide) (by decide)) (inF.ix (σ := σ) (bz_1 c_1) hM.2.2.1).1 (by rw [show os_l (os_sg σ 13 0 0 0) 17 0 = 8 from hM.1.2.2 17 (by decide) (by decide)]; have h9 := (Nat.lt_of_lt_of_le (inF.ix (σ := σ) (bz_1 c_1) hM.2.2.1).2 hM.2.2.1.2); omega) (by rw [show os_l (os_sg σ 13 0 0 0) 17 0 = 8 from hM.1.2.2 17 (by decide) (by decide)]; decide) d_Model_test_39 ?_
          refine W.eq (g2 := F0 m 40 ls [.int (os_g σ 17 (iN x) 0), .ref (ad 13 0)]) (congrArg (fun z => F0 m 40 ls (.int z :: [.ref (ad 13 0)])) (show os_g (os_sg σ 13 0 0 0) 17 (iN x) 0 = os_g σ 17 (iN x) 0 from rfl)) ?_
          refine lv_iconst (v := 2) hx hb d_Model_test_40 (by decide) ?_
          refine lv_icmp_eq (tgt := 52) hx hb d_Model_test_41 (by decide) (fun c_5 => ?_) (fun c_5 => ?_)
          · skip
            refine lv_iconst (v := 2) hx hb d_Model_test_52 (by decide) ?_
            refine lv_goto (tgt := 57) hx hb d_Model_test_53 (by decide) ?_
            refine os_putI (C := "RobotFaultsModel") (T := F_Model) (N := 38) (ci := 7) (K := 13) (j := 0) (i := 0) (v := 2) (ty := .int) hx hb hts i_Model t_Model t_Model_ok n_Model hown hK hV rfl rfl (by decide) (hM.1.n 13 (by decide) (by decide)) (hts _ k_725) rfl rfl rfl (by decide +kernel) rfl rfl d_Model_test_57 (fun H locs hV => ?_)
            refine lv_aload_n hx hb d_Model_test_60 rfl (lv_at hl 0 rfl) ?_
            refine os_get (C := "RobotFaultsModel") (T := F_Model) (N := 38) (ci := 7) (K := 13) (j := 0) (i := 0) (v := .int 2) hx hb hts i_Model hown hK hV rfl rfl (by decide) (hM.1.n 13 (by decide) (by decide)) (hts _ k_725) (os_fv_sgs (σ := os_sg σ 13 0 0 0) (ad := ad) (K := 13) (j := 0) (i := 0) (v := 2) rfl rfl) d_Model_test_61 ?_
            refine lv_if_le (tgt := 69) hx hb d_Model_test_64 (by decide) (fun c_6 => ?_) (fun c_6 => ?_)
            · exact absurd c_6 (by decide)
            · skip
              refine lv_iconst (v := 0) hx hb d_Model_test_67 (by decide) ?_
              refine os_zret hx hb hr rfl hlocks hV (Nat.le_of_ble_eq_true rfl) (Nat.le_of_ble_eq_true rfl) d_Model_test_68 ?_
              exact ⟨rfl, Or.inr (Or.inl (⟨c_1, c_3, c_5, rfl, rfl⟩))⟩
          · skip
            refine lv_aload_n hx hb d_Model_test_44 rfl (lv_at hl 0 rfl) ?_
            refine lv_iload_n hx hb d_Model_test_45 rfl (lv_at hl 1 rfl) ?_
            refine os_call (c_Model_openKinds l hlt D cA bs (os_sg σ 13 0 0 0) ad x (MI.c (v := 0) hM)) hE hV k_921 k_4 (os_inV (C := "RobotFaultsModel") (n := 1) (bytes := prog_9_method_16_code) (maxL := 4) (ret := (some .int)) hx hb hown (hts _ k_918) (hts _ k_920) (hts _ k_s28) (hts _ k_921) (by decide +kernel) rfl (os_recv hK hV rfl rfl (hM.1.n 13 (by decide) (by decide))) rfl d_Model_test_46) (hl.1.trans hml.symm) (Nat.le_of_ble_eq_true rfl) (Nat.le_of_ble_eq_true rfl) (Nat.le_of_ble_eq_true rfl) (Nat.le_of_ble_eq_true rfl) (Nat.le_of_ble_eq_true rfl) (fun v σ1 ad1 H locs hp hext hV => ?_) (fun E q ce σ1 ad1 H locs hp hext hV hce hcv hcl => ?_)
            · obtain ⟨rfl, rfl, hp⟩ := hp
              cases hp
              refine W.eq (g2 := F0 m 49 ls [.int (mok (os_sg σ 13 0 0 0) x 8), .ref (ad 13 0)]) rfl ?_
              refine lv_if_eq (tgt := 56) hx hb d_Model_test_49 (by decide) (fun c_7 => ?_) (fun c_7 => ?_)
              · skip
                refine lv_iconst (v := 0) hx hb d_Model_test_56 (by decide) ?_
                refine os_putI (C := "RobotFaultsModel") (T := F_Model) (N := 38) (ci := 7) (K := 13) (j := 0) (i := 0) (v := 0) (ty := .int) hx hb hts i_Model t_Model t_Model_ok n_Model hown hK hV rfl rfl (by decide) (hM.1.n 13 (by decide) (by decide)) (hts _ k_725) rfl rfl rfl (by decide +kernel) rfl rfl d_Model_test_57 (fun H locs hV => ?_)
                refine lv_aload_n hx hb d_Model_test_60 rfl (lv_at hl 0 rfl) ?_
                refine os_get (C := "RobotFaultsModel") (T := F_Model) (N := 38) (ci := 7) (K := 13) (j := 0) (i := 0) (v := .int 0) hx hb hts i_Model hown hK hV rfl rfl (by decide) (hM.1.n 13 (by decide) (by decide)) (hts _ k_725) (os_fv_sgs (σ := os_sg σ 13 0 0 0) (ad := ad) (K := 13) (j := 0) (i := 0) (v := 0) rfl rfl) d_Model_test_61 ?_
                refine lv_if_le (tgt := 69) hx hb d_Model_test_64 (by decide) (fun c_8 => ?_) (fun c_8 => ?_)
                · skip
                  refine lv_aload_n hx hb d_Model_test_69 rfl (lv_at hl 0 rfl) ?_
                  refine os_get (C := "RobotFaultsModel") (T := F_Model) (N := 38) (ci := 7) (K := 13) (j := 8) (i := 0) (v := .ref (ad 18 0)) hx hb hts i_Model hown hK hV rfl rfl (by decide) (hM.1.n 13 (by decide) (by decide)) (hts _ k_733) (congrArg (fun z => va_rf (Option.map (ad 18) z)) (hM.1.2.1 8 (by decide) (by decide))) d_Model_test_70 ?_
                  refine lv_iload_n hx hb d_Model_test_73 rfl (lv_at hl 1 rfl) ?_
                  refine lv_iload_n hx hb d_Model_test_74 rfl (lv_at hl 2 rfl) ?_
                  refine lv_if_ne (tgt := 82) hx hb d_Model_test_75 (by decide) (fun c_9 => ?_) (fun c_9 => ?_)
                  · skip
                    refine lv_iconst (v := 0) hx hb d_Model_test_82 (by decide) ?_
                    refine os_zastN (K := 18) (i := 0) (t0 := 1) (n := (iN x)) hx hb hK hV rfl rfl rfl (hM.1.n 18 (by decide) (by decide)) (inF.ix (σ := σ) (bz_1 c_1) hM.2.2.1).1 (by rw [show os_l (os_sg (os_sg σ 13 0 0 0) 13 0 0 0) 18 0 = 8 from hM.1.2.2 18 (by decide) (by decide)]; have h9 := (Nat.lt_of_lt_of_le (inF.ix (σ := σ) (bz_1 c_1) hM.2.2.1).2 hM.2.2.1.2); omega) (by rw [show os_l (os_sg (os_sg σ 13 0 0 0) 13 0 0 0) 18 0 = 8 from hM.1.2.2 18 (by decide) (by decide)]; decide) rfl d_Model_test_83 (fun H locs hV => ?_)
                    refine lv_iload_n hx hb d_Model_test_84 rfl (lv_at hl 2 rfl) ?_
                    refine os_zret hx hb hr (bz_nar _) hlocks hV (Nat.le_of_ble_eq_true rfl) (Nat.le_of_ble_eq_true rfl) d_Model_test_85 ?_
                    exact ⟨rfl, Or.inr (Or.inr (Or.inl (⟨c_1, c_3, c_5, c_7, c_9, rfl, rfl⟩)))⟩
                  · skip
                    refine lv_iconst (v := 1) hx hb d_Model_test_78 (by decide) ?_
                    refine lv_goto (tgt := 83) hx hb d_Model_test_79 (by decide) ?_
                    refine os_zastN (K := 18) (i := 0) (t0 := 1) (n := (iN x)) hx hb hK hV rfl rfl rfl (hM.1.n 18 (by decide) (by decide)) (inF.ix (σ := σ) (bz_1 c_1) hM.2.2.1).1 (by rw [show os_l (os_sg (os_sg σ 13 0 0 0) 13 0 0 0) 18 0 = 8 from hM.1.2.2 18 (by decide) (by decide)]; have h9 := (Nat.lt_of_lt_of_le (inF.ix (σ := σ) (bz_1 c_1) hM.2.2.1).2 hM.2.2.1.2); omega) (by rw [show os_l (os_sg (os_sg σ 13 0 0 0) 13 0 0 0) 18 0 = 8 from hM.1.2.2 18 (by decide) (by decide)]; decide) rfl d_Model_test_83 (fun H locs hV => ?_)
                    refine lv_iload_n hx hb d_Model_test_84 rfl (lv_at hl 2 rfl) ?_
                    refine os_zret hx hb hr (bz_nar _) hlocks hV (Nat.le_of_ble_eq_true rfl) (Nat.le_of_ble_eq_true rfl) d_Model_test_85 ?_
                    exact ⟨rfl, Or.inr (Or.inr (Or.inr (Or.inl (⟨c_1, c_3, c_5, c_7, c_9, rfl, rfl⟩))))⟩
                · exact absurd (by decide) c_8
              · skip
                refine lv_iconst (v := 2) hx hb d_Model_test_52 (by decide) ?_
                refine lv_goto (tgt := 57) hx hb d_Model_test_53 (by decide) ?_
                refine os_putI (C := "RobotFaultsModel") (T := F_Model) (N := 38) (ci := 7) (K := 13) (j := 0) (i := 0) (v := 2) (ty := .int) hx hb hts i_Model t_Model t_Model_ok n_Model hown hK hV rfl rfl (by decide) (hM.1.n 13 (by decide) (by decide)) (hts _ k_725) rfl rfl rfl (by decide +kernel) rfl rfl d_Model_test_57 (fun H locs hV => ?_)
                refine lv_aload_n hx hb d_Model_test_60 rfl (lv_at hl 0 rfl) ?_
                refine os_get (C := "RobotFaultsModel") (T := F_Model) (N := 38) (ci := 7) (K := 13) (j := 0) (i := 0) (v := .int 2) hx hb hts i_Model hown hK hV rfl rfl (by decide) (hM.1.n 13 (by decide) (by decide)) (hts _ k_725) (os_fv_sgs (σ := os_sg σ 13 0 0 0) (ad := ad) (K := 13) (j := 0) (i := 0) (v := 2) rfl rfl) d_Model_test_61 ?_
                refine lv_if_le (tgt := 69) hx hb d_Model_test_64 (by decide) (fun c_10 => ?_) (fun c_10 => ?_)
                · exact absurd c_10 (by decide)
                · skip
                  refine lv_iconst (v := 0) hx hb d_Model_test_67 (by decide) ?_
                  refine os_zret hx hb hr rfl hlocks hV (Nat.le_of_ble_eq_true rfl) (Nat.le_of_ble_eq_true rfl) d_Model_test_68 ?_
                  exact ⟨rfl, Or.inr (Or.inr (Or.inr (Or.inr (Or.inl (⟨c_1, c_3, c_5, c_7, rfl, rfl⟩)))))⟩
            · exact absurd hp.2.2 (fun h => by cases h)
    · skip
      refine lv_iconst (v := 1) hx hb d_Model_test_9 (by decide) ?_
      refine lv_goto (tgt := 14) hx hb d_Model_test_10 (by decide) ?_
      refine os_putI (C := "RobotFaultsModel") (T := F_Model) (N := 38) (ci := 7) (K := 13) (j := 0) (i := 0) (v := 1) (ty := .int) hx hb hts i_Model t_Model t_Model_ok n_Model hown hK hV rfl rfl (by decide) (hM.1.n 13 (by decide) (by decide)) (hts _ k_725) rfl rfl rfl (by decide +kernel) rfl rfl d_Model_test_14 (fun H locs hV => ?_)
      refine lv_aload_n hx hb d_Model_test_17 rfl (lv_at hl 0 rfl) ?_
      refine os_get (C := "RobotFaultsModel") (T := F_Model) (N := 38) (ci := 7) (K := 13) (j := 0) (i := 0) (v := .int 1) hx hb hts i_Model hown hK hV rfl rfl (by decide) (hM.1.n 13 (by decide) (by decide)) (hts _ k_725) (os_fv_sgs (σ := σ) (ad := ad) (K := 13) (j := 0) (i := 0) (v := 1) rfl rfl) d_Model_test_18 ?_
      refine lv_if_ne (tgt := 60) hx hb d_Model_test_21 (by decide) (fun c_11 => ?_) (fun c_11 => ?_)
      · skip
        refine lv_aload_n hx hb d_Model_test_60 rfl (lv_at hl 0 rfl) ?_
        refine os_get (C := "RobotFaultsModel") (T := F_Model) (N := 38) (ci := 7) (K := 13) (j := 0) (i := 0) (v := .int 1) hx hb hts i_Model hown hK hV rfl rfl (by decide) (hM.1.n 13 (by decide) (by decide)) (hts _ k_725) (os_fv_sgs (σ := σ) (ad := ad) (K := 13) (j := 0) (i := 0) (v := 1) rfl rfl) d_Model_test_61 ?_
        refine lv_if_le (tgt := 69) hx hb d_Model_test_64 (by decide) (fun c_12 => ?_) (fun c_12 => ?_)
        · exact absurd c_12 (by decide)
        · skip
          refine lv_iconst (v := 0) hx hb d_Model_test_67 (by decide) ?_
          refine os_zret hx hb hr rfl hlocks hV (Nat.le_of_ble_eq_true rfl) (Nat.le_of_ble_eq_true rfl) d_Model_test_68 ?_
          exact ⟨rfl, Or.inr (Or.inr (Or.inr (Or.inr (Or.inr (⟨c_1, rfl, rfl⟩)))))⟩
      · exact absurd c_11 (by decide)
  · exact absurd hp.2.2 (fun h => by cases h)
/-- what Model_resume does, road by road -/
def m_resume (σ : os_S) (ad : Nat → Nat → Nat) (x : Int32) : os_O → os_S → (Nat → Nat → Nat) → Prop := fun r σ' ad' => ad = ad' ∧ (((¬ (bz (inF x 0 (os_g σ 13 4 0 - 1))) = 0) ∧ (¬ (os_g σ 17 (iN x) 0) = 0) ∧ ((mok (os_sg (os_sg σ 13 0 0 0) 13 0 0 0) x 8) = 0) ∧ (¬ (os_g σ 17 (iN x) 0) = 2) ∧ ((os_g σ 18 (iN x) 0) = 0) ∧ os_sg (os_sg (os_sg σ 13 0 0 0) 13 0 0 0) 17 (iN x) 0 0 = σ' ∧ r = .inl (some (.int 1))) ∨ ((¬ (bz (inF x 0 (os_g σ 13 4 0 - 1))) = 0) ∧ (¬ (os_g σ 17 (iN x) 0) = 0) ∧ ((mok (os_sg (os_sg σ 13 0 0 0) 13 0 0 0) x 8) = 0) ∧ (¬ (os_g σ 17 (iN x) 0) = 2) ∧ (¬ ((os_g σ 18 (iN x) 0) = 0)) ∧ os_sg (os_sg σ 13 0 0 0) 13 0 0 0 = σ' ∧ r = .inl (some (.int (-3)))) ∨ ((¬ (bz (inF x 0 (os_g σ 13 4 0 - 1))) = 0) ∧ (¬ (os_g σ 17 (iN x) 0) = 0) ∧ ((mok (os_sg (os_sg σ 13 0 0 0) 13 0 0 0) x 8) = 0) ∧ ((os_g σ 17 (iN x) 0) = 2) ∧ os_sg (os_sg σ 13 0 0 0) 13 0 0 0 = σ' ∧ r = .inl (some (.int (-2)))) ∨ ((¬ (bz (inF x 0 (os_g σ 13 4 0 - 1))) = 0) ∧ (¬ (os_g σ 17 (iN x) 0) = 0) ∧ (¬ ((mok (os_sg (os_sg σ 13 0 0 0) 13 0 0 0) x 8) = 0)) ∧ os_sg (os_sg σ 13 0 0 0) 13 0 0 0 = σ' ∧ r = .inl (some (.int (-1)))) ∨ ((¬ (bz (inF x 0 (os_g σ 13 4 0 - 1))) = 0) ∧ ((os_g σ 17 (iN x) 0) = 0) ∧ os_sg (os_sg σ 13 0 0 0) 13 0 0 2 = σ' ∧ r = .inl (some (.int 0))) ∨ (((bz (inF x 0 (os_g σ 13 4 0 - 1))) = 0) ∧ os_sg σ 13 0 0 1 = σ' ∧ r = .inl (some (.int 0))))
set_option maxHeartbeats 4000000 in
set_option maxRecDepth 100000 in
theorem c_Model_resume (l : Launch) (hlt : l.stackTraces = false) (D : va_G) (cA : Nat → ClassId) (bs : Nat) (σ : os_S) (ad : Nat → Nat → Nat) (x : Int32) (hM : MI σ) : os_Met l y_Model_resume prog_9_method_24_code 3 (some .int) { frames := 2, cells := 0, slots := 0, locals := 46 } D cA bs [.ref (ad 13 0), .int x] σ ad (m_resume σ ad x) := by
  refine os_ofW (by decide) ?_
  intro p e s m below meth c hx hb hr hml hown hlocks hmn hout hE hV
  have hts := hE.hts (args := ([.ref (ad 13 0), .int x] : List Value).toArray)
  have hK := hE.2.1
  have hbs := hE.2.2.1
  have hown : s.vm.findClass "RobotFaultsModel" = some m.cls := hown
  have hl := lv_entry ([.ref (ad 13 0), .int x]) (n := 3) (Nat.le_of_ble_eq_true rfl)
  rw [lg_entry_eq]
  generalize (lg_sl ([.ref (ad 13 0), .int x]) ++ List.replicate (3 - (lg_sl ([.ref (ad 13 0), .int x])).length) Slot.unset).toArray = ls at hl ⊢
  have hl : lv_has ls 3 [(0, .ref (ad 13 0)), (1, .int x)] := hl
  refine lv_aload_n hx hb d_Model_resume_0 rfl (lv_at hl 0 rfl) ?_
  refine lv_aload_n hx hb d_Model_resume_1 rfl (lv_at hl 0 rfl) ?_
  refine lv_iload_n hx hb d_Model_resume_2 rfl (lv_at hl 1 rfl) ?_
  refine os_call (c_Model_isRobot l hlt D cA bs σ ad x hM) hE hV k_878 k_4 (os_inV (C := "RobotFaultsModel") (n := 1) (bytes := prog_9_method_5_code) (maxL := 2) (ret := (some .boolean)) hx hb hown (hts _ k_875) (hts _ k_877) (hts _ k_s22) (hts _ k_878) (by decide +kernel) rfl (os_recv hK hV rfl rfl (hM.1.n 13 (by decide) (by decide))) rfl d_Model_resume_3) (hl.1.trans hml.symm) (Nat.le_of_ble_eq_true rfl) (Nat.le_of_ble_eq_true rfl) (Nat.le_of_ble_eq_true rfl) (Nat.le_of_ble_eq_true rfl) (Nat.le_of_ble_eq_true rfl) (fun v σ1 ad1 H locs hp hext hV => ?_) (fun E q ce σ1 ad1 H locs hp hext hV hce hcv hcl => ?_)
  · obtain ⟨rfl, rfl, hp⟩ := hp
    cases hp
    refine W.eq (g2 := F0 m 6 ls [.int (bz (inF x 0 (os_g σ 13 4 0 - 1))), .ref (ad 13 0)]) rfl ?_
    refine lv_if_ne (tgt := 13) hx hb d_Model_resume_6 (by decide) (fun c_1 => ?_) (fun c_1 => ?_)
    · skip
      refine lv_iconst (v := 0) hx hb d_Model_resume_13 (by decide) ?_
      refine os_putI (C := "RobotFaultsModel") (T := F_Model) (N := 38) (ci := 7) (K := 13) (j := 0) (i := 0) (v := 0) (ty := .int) hx hb hts i_Model t_Model t_Model_ok n_Model hown hK hV rfl rfl (by decide) (hM.1.n 13 (by decide) (by decide)) (hts _ k_725) rfl rfl rfl (by decide +kernel) rfl rfl d_Model_resume_14 (fun H locs hV => ?_)
      refine lv_aload_n hx hb d_Model_resume_17 rfl (lv_at hl 0 rfl) ?_
      refine os_get (C := "RobotFaultsModel") (T := F_Model) (N := 38) (ci := 7) (K := 13) (j := 0) (i := 0) (v := .int 0) hx hb hts i_Model hown hK hV rfl rfl (by decide) (hM.1.n 13 (by decide) (by decide)) (hts _ k_725) (os_fv_sgs (σ := σ) (ad := ad) (K := 13) (j := 0) (i := 0) (v := 0) rfl rfl) d_Model_resume_18 ?_
      refine lv_if_ne (tgt := 42) hx hb d_Model_resume_21 (by decide) (fun c_2 => ?_) (fun c_2 => ?_)
      · exact absurd c_2 (by decide)
      · skip
        refine lv_aload_n hx hb d_Model_resume_24 rfl (lv_at hl 0 rfl) ?_
        refine lv_aload_n hx hb d_Model_resume_25 rfl (lv_at hl 0 rfl) ?_
        refine os_get (C := "RobotFaultsModel") (T := F_Model) (N := 38) (ci := 7) (K := 13) (j := 7) (i := 0) (v := .ref (ad 17 0)) hx hb hts i_Model hown hK hV rfl rfl (by decide) (hM.1.n 13 (by decide) (by decide)) (hts _ k_732) (congrArg (fun z => va_rf (Option.map (ad 17) z)) (hM.1.2.1 7 (by decide) (by decide))) d_Model_resume_26 ?_
        refine lv_iload_n hx hb d_Model_resume_29 rfl (lv_at hl 1 rfl) ?_
        refine os_ialdN (K := 17) (i := 0) (t0 := 0) (n := (iN x)) hx hb hK hV rfl rfl rfl (hM.1.n 17 (by decide) (by decide)) (inF.ix (σ := σ) (bz_1 c_1) hM.2.2.1).1 (by rw [show os_l (os_sg σ 13 0 0 0) 17 0 = 8 from hM.1.2.2 17 (by decide) (by decide)]; have h9 := (Nat.lt_of_lt_of_le (inF.ix (σ := σ) (bz_1 c_1) hM.2.2.1).2 hM.2.2.1.2); omega) (by rw [show os_l (os_sg σ 13 0 0 0) 17 0 = 8 from hM.1.2.2 17 (by decide) (by decide)]; decide) d_Model_resume_30 ?_
        refine W.eq (g2 := F0 m 31 ls [.int (os_g σ 17 (iN x) 0), .ref (ad 13 0)]) (congrArg (fun z => F0 m 31 ls (.int z :: [.ref (ad 13 0)])) (show os_g (os_sg σ 13 0 0 0) 17 (iN x) 0 = os_g σ 17 (iN x) 0 from rfl)) ?_
        refine lv_if_ne (tgt := 38) hx hb d_Model_resume_31 (by decide) (fun c_3 => ?_) (fun c_3 => ?_)
        · skip
          refine lv_iconst (v := 0) hx hb d_Model_resume_38 (by decide) ?_
          refine os_putI (C := "RobotFaultsModel") (T := F_Model) (N := 38) (ci := 7) (K := 13) (j := 0) (i := 0) (v := 0) (ty := .int) hx hb hts i_Model t_Model t_Model_ok n_Model hown hK hV rfl rfl (by decide) (hM.1.n 13 (by decide) (by decide)) (hts _ k_725) rfl rfl rfl (by decide +kernel) rfl rfl d_Model_resume_39 (fun H locs hV => ?_)
          refine lv_aload_n hx hb d_Model_resume_42 rfl (lv_at hl 0 rfl) ?_
          refine os_get (C := "RobotFaultsModel") (T := F_Model) (N := 38) (ci := 7) (K := 13) (j := 0) (i := 0) (v := .int 0) hx hb hts i_Model hown hK hV rfl rfl (by decide) (hM.1.n 13 (by decide) (by decide)) (hts _ k_725) (os_fv_sgs (σ := os_sg σ 13 0 0 0) (ad := ad) (K := 13) (j := 0) (i := 0) (v := 0) rfl rfl) d_Model_resume_43 ?_
          refine lv_if_le (tgt := 51) hx hb d_Model_resume_46 (by decide) (fun c_4 => ?_) (fun c_4 => ?_)
          · skip
            refine lv_aload_n hx hb d_Model_resume_51 rfl (lv_at hl 0 rfl) ?_
            refine lv_iload_n hx hb d_Model_resume_52 rfl (lv_at hl 1 rfl) ?_
            refine os_call (c_Model_openKinds l hlt D cA bs (os_sg (os_sg σ 13 0 0 0) 13 0 0 0) ad x (MI.c (v := 0) (MI.c (v := 0) hM))) hE hV k_921 k_4 (os_inV (C := "RobotFaultsModel") (n := 1) (bytes := prog_9_method_16_code) (maxL := 4) (ret := (some .int)) hx hb hown (hts _ k_918) (hts _ k_920) (hts _ k_s28) (hts _ k_921) (by decide +kernel) rfl (os_recv hK hV rfl rfl (hM.1.n 13 (by decide) (by decide))) rfl d_Model_resume_53) (hl.1.trans hml.symm) (Nat.le_of_ble_eq_true rfl) (Nat.le_of_ble_eq_true rfl) (Nat.le_of_ble_eq_true rfl) (Nat.le_of_ble_eq_true rfl) (Nat.le_of_ble_eq_true rfl) (fun v σ1 ad1 H locs hp hext hV => ?_) (fun E q ce σ1 ad1 H locs hp hext hV hce hcv hcl => ?_)
            · obtain ⟨rfl, rfl, hp⟩ := hp
              cases hp
              refine W.eq (g2 := F0 m 56 ls [.int (mok (os_sg (os_sg σ 13 0 0 0) 13 0 0 0) x 8)]) rfl ?_
              refine lv_if_eq (tgt := 63) hx hb d_Model_resume_56 (by decide) (fun c_5 => ?_) (fun c_5 => ?_)
              · skip
                refine lv_aload_n hx hb d_Model_resume_63 rfl (lv_at hl 0 rfl) ?_
                refine os_get (C := "RobotFaultsModel") (T := F_Model) (N := 38) (ci := 7) (K := 13) (j := 7) (i := 0) (v := .ref (ad 17 0)) hx hb hts i_Model hown hK hV rfl rfl (by decide) (hM.1.n 13 (by decide) (by decide)) (hts _ k_732) (congrArg (fun z => va_rf (Option.map (ad 17) z)) (hM.1.2.1 7 (by decide) (by decide))) d_Model_resume_64 ?_
                refine lv_iload_n hx hb d_Model_resume_67 rfl (lv_at hl 1 rfl) ?_
                refine os_ialdN (K := 17) (i := 0) (t0 := 0) (n := (iN x)) hx hb hK hV rfl rfl rfl (hM.1.n 17 (by decide) (by decide)) (inF.ix (σ := σ) (bz_1 c_1) hM.2.2.1).1 (by rw [show os_l (os_sg (os_sg σ 13 0 0 0) 13 0 0 0) 17 0 = 8 from hM.1.2.2 17 (by decide) (by decide)]; have h9 := (Nat.lt_of_lt_of_le (inF.ix (σ := σ) (bz_1 c_1) hM.2.2.1).2 hM.2.2.1.2); omega) (by rw [show os_l (os_sg (os_sg σ 13 0 0 0) 13 0 0 0) 17 0 = 8 from hM.1.2.2 17 (by decide) (by decide)]; decide) d_Model_resume_68 ?_
                refine W.eq (g2 := F0 m 69 ls [.int (os_g σ 17 (iN x) 0)]) (congrArg (fun z => F0 m 69 ls (.int z :: [])) (show os_g (os_sg (os_sg σ 13 0 0 0) 13 0 0 0) 17 (iN x) 0 = os_g σ 17 (iN x) 0 from rfl)) ?_
                refine lv_iconst (v := 2) hx hb d_Model_resume_69 (by decide) ?_
                refine lv_icmp_ne (tgt := 78) hx hb d_Model_resume_70 (by decide) (fun c_6 => ?_) (fun c_6 => ?_)
                · skip
                  refine lv_aload_n hx hb d_Model_resume_78 rfl (lv_at hl 0 rfl) ?_
                  refine os_get (C := "RobotFaultsModel") (T := F_Model) (N := 38) (ci := 7) (K := 13) (j := 8) (i := 0) (v := .ref (ad 18 0)) hx hb hts i_Model hown hK hV rfl rfl (by decide) (hM.1.n 13 (by decide) (by decide)) (hts _ k_733) (congrArg (fun z => va_rf (Option.map (ad 18) z)) (hM.1.2.1 8 (by decide) (by decide))) d_Model_resume_79 ?_
                  refine lv_iload_n hx hb d_Model_resume_82 rfl (lv_at hl 1 rfl) ?_
                  refine os_zaldN (K := 18) (i := 0) (t0 := 1) (n := (iN x)) hx hb hK hV rfl rfl rfl (hM.1.n 18 (by decide) (by decide)) (inF.ix (σ := σ) (bz_1 c_1) hM.2.2.1).1 (by rw [show os_l (os_sg (os_sg σ 13 0 0 0) 13 0 0 0) 18 0 = 8 from hM.1.2.2 18 (by decide) (by decide)]; have h9 := (Nat.lt_of_lt_of_le (inF.ix (σ := σ) (bz_1 c_1) hM.2.2.1).2 hM.2.2.1.2); omega) (by rw [show os_l (os_sg (os_sg σ 13 0 0 0) 13 0 0 0) 18 0 = 8 from hM.1.2.2 18 (by decide) (by decide)]; decide) d_Model_resume_83 ?_
                  refine W.eq (g2 := F0 m 84 ls [.int (os_g σ 18 (iN x) 0)]) (congrArg (fun z => F0 m 84 ls (.int z :: [])) (show os_g (os_sg (os_sg σ 13 0 0 0) 13 0 0 0) 18 (iN x) 0 = os_g σ 18 (iN x) 0 from rfl)) ?_
                  refine lv_if_eq (tgt := 92) hx hb d_Model_resume_84 (by decide) (fun c_7 => ?_) (fun c_7 => ?_)
                  · skip
                    refine lv_iconst (v := 0) hx hb d_Model_resume_92 (by decide) ?_
                    refine lv_istore_n (lv' := [(2, .int 0), (0, .ref (ad 13 0)), (1, .int x)]) hx hb d_Model_resume_93 rfl hl (by decide) rfl (fun ls hl => ?_)
                    refine lv_iload_n hx hb d_Model_resume_94 rfl (lv_at hl 0 rfl) ?_
                    refine lv_if_ge (tgt := 100) hx hb d_Model_resume_95 (by decide) (fun c_8 => ?_) (fun c_8 => ?_)
                    · skip
                      refine lv_aload_n hx hb d_Model_resume_100 rfl (lv_at hl 1 rfl) ?_
                      refine os_get (C := "RobotFaultsModel") (T := F_Model) (N := 38) (ci := 7) (K := 13) (j := 7) (i := 0) (v := .ref (ad 17 0)) hx hb hts i_Model hown hK hV rfl rfl (by decide) (hM.1.n 13 (by decide) (by decide)) (hts _ k_732) (congrArg (fun z => va_rf (Option.map (ad 17) z)) (hM.1.2.1 7 (by decide) (by decide))) d_Model_resume_101 ?_
                      refine lv_iload_n hx hb d_Model_resume_104 rfl (lv_at hl 2 rfl) ?_
                      refine lv_iconst (v := 0) hx hb d_Model_resume_105 (by decide) ?_
                      refine os_iastN (K := 17) (i := 0) (t0 := 0) (n := (iN x)) hx hb hK hV rfl rfl rfl (hM.1.n 17 (by decide) (by decide)) (inF.ix (σ := σ) (bz_1 c_1) hM.2.2.1).1 (by rw [show os_l (os_sg (os_sg σ 13 0 0 0) 13 0 0 0) 17 0 = 8 from hM.1.2.2 17 (by decide) (by decide)]; have h9 := (Nat.lt_of_lt_of_le (inF.ix (σ := σ) (bz_1 c_1) hM.2.2.1).2 hM.2.2.1.2); omega) (by rw [show os_l (os_sg (os_sg σ 13 0 0 0) 13 0 0 0) 17 0 = 8 from hM.1.2.2 17 (by decide) (by decide)]; decide) d_Model_resume_106 (fun H locs hV => ?_)
                      refine lv_iconst (v := 1) hx hb d_Model_resume_107 (by decide) ?_
                      refine os_iret hx hb hr hlocks hV (Nat.le_of_ble_eq_true rfl) (Nat.le_of_ble_eq_true rfl) d_Model_resume_108 ?_
                      exact ⟨rfl, Or.inl (⟨c_1, c_3, c_5, c_6, c_7, rfl, rfl⟩)⟩
                    · exact absurd (by decide) c_8
                  · skip
                    refine lv_bipush (v := (-3)) hx hb d_Model_resume_87 (by decide) ?_
                    refine lv_goto (tgt := 93) hx hb d_Model_resume_89 (by decide) ?_
                    refine lv_istore_n (lv' := [(2, .int (-3)), (0, .ref (ad 13 0)), (1, .int x)]) hx hb d_Model_resume_93 rfl hl (by decide) rfl (fun ls hl => ?_)
                    refine lv_iload_n hx hb d_Model_resume_94 rfl (lv_at hl 0 rfl) ?_
                    refine lv_if_ge (tgt := 100) hx hb d_Model_resume_95 (by decide) (fun c_9 => ?_) (fun c_9 => ?_)
                    · exact absurd c_9 (by decide)
                    · skip
                      refine lv_iload_n hx hb d_Model_resume_98 rfl (lv_at hl 0 rfl) ?_
                      refine os_iret hx hb hr hlocks hV (Nat.le_of_ble_eq_true rfl) (Nat.le_of_ble_eq_true rfl) d_Model_resume_99 ?_
                      exact ⟨rfl, Or.inr (Or.inl (⟨c_1, c_3, c_5, c_6, c_7, rfl, rfl⟩))⟩
                · skip
                  refine lv_bipush (v := (-2)) hx hb d_Model_resume_73 (by decide) ?_
                  refine lv_goto (tgt := 93) hx hb d_Model_resume_75 (by decide) ?_
                  refine lv_istore_n (lv' := [(2, .int (-2)), (0, .ref (ad 13 0)), (1, .int x)]) hx hb d_Model_resume_93 rfl hl (by decide) rfl (fun ls hl => ?_)
                  refine lv_iload_n hx hb d_Model_resume_94 rfl (lv_at hl 0 rfl) ?_
                  refine lv_if_ge (tgt := 100) hx hb d_Model_resume_95 (by decide) (fun c_10 => ?_) (fun c_10 => ?_)
                  · exact absurd c_10 (by decide)
                  · skip
                    refine lv_iload_n hx hb d_Model_resume_98 rfl (lv_at hl 0 rfl) ?_
                    refine os_iret hx hb hr hlocks hV (Nat.le_of_ble_eq_true rfl) (Nat.le_of_ble_eq_true rfl) d_Model_resume_99 ?_
                    exact ⟨rfl, Or.inr (Or.inr (Or.inl (⟨c_1, c_3, c_5, c_6, rfl, rfl⟩)))⟩
              · skip
                refine lv_iconst (v := (-1)) hx hb d_Model_resume_59 (by decide) ?_
                refine lv_goto (tgt := 93) hx hb d_Model_resume_60 (by decide) ?_
                refine lv_istore_n (lv' := [(2, .int (-1)), (0, .ref (ad 13 0)), (1, .int x)]) hx hb d_Model_resume_93 rfl hl (by decide) rfl (fun ls hl => ?_)
                refine lv_iload_n hx hb d_Model_resume_94 rfl (lv_at hl 0 rfl) ?_
                refine lv_if_ge (tgt := 100) hx hb d_Model_resume_95 (by decide) (fun c_11 => ?_) (fun c_11 => ?_)
                · exact absurd c_11 (by decide)
                · skip
                  refine lv_iload_n hx hb d_Model_resume_98 rfl (lv_at hl 0 rfl) ?_
                  refine os_iret hx hb hr hlocks hV (Nat.le_of_ble_eq_true rfl) (Nat.le_of_ble_eq_true rfl) d_Model_resume_99 ?_
                  exact ⟨rfl, Or.inr (Or.inr (Or.inr (Or.inl (⟨c_1, c_3, c_5, rfl, rfl⟩))))⟩
            · exact absurd hp.2.2 (fun h => by cases h)
          · exact absurd (by decide) c_4
        · skip
          refine lv_iconst (v := 2) hx hb d_Model_resume_34 (by decide) ?_
          refine lv_goto (tgt := 39) hx hb d_Model_resume_35 (by decide) ?_
          refine os_putI (C := "RobotFaultsModel") (T := F_Model) (N := 38) (ci := 7) (K := 13) (j := 0) (i := 0) (v := 2) (ty := .int) hx hb hts i_Model t_Model t_Model_ok n_Model hown hK hV rfl rfl (by decide) (hM.1.n 13 (by decide) (by decide)) (hts _ k_725) rfl rfl rfl (by decide +kernel) rfl rfl d_Model_resume_39 (fun H locs hV => ?_)
          refine lv_aload_n hx hb d_Model_resume_42 rfl (lv_at hl 0 rfl) ?_
          refine os_get (C := "RobotFaultsModel") (T := F_Model) (N := 38) (ci := 7) (K := 13) (j := 0) (i := 0) (v := .int 2) hx hb hts i_Model hown hK hV rfl rfl (by decide) (hM.1.n 13 (by decide) (by decide)) (hts _ k_725) (os_fv_sgs (σ := os_sg σ 13 0 0 0) (ad := ad) (K := 13) (j := 0) (i := 0) (v := 2) rfl rfl) d_Model_resume_43 ?_
          refine lv_if_le (tgt := 51) hx hb d_Model_resume_46 (by decide) (fun c_12 => ?_) (fun c_12 => ?_)
          · exact absurd c_12 (by decide)
          · skip
            refine lv_iconst (v := 0) hx hb d_Model_resume_49 (by decide) ?_
            refine os_iret hx hb hr hlocks hV (Nat.le_of_ble_eq_true rfl) (Nat.le_of_ble_eq_true rfl) d_Model_resume_50 ?_
            exact ⟨rfl, Or.inr (Or.inr (Or.inr (Or.inr (Or.inl (⟨c_1, c_3, rfl, rfl⟩)))))⟩
    · skip
      refine lv_iconst (v := 1) hx hb d_Model_resume_9 (by decide) ?_
      refine lv_goto (tgt := 14) hx hb d_Model_resume_10 (by decide) ?_
      refine os_putI (C := "RobotFaultsModel") (T := F_Model) (N := 38) (ci := 7) (K := 13) (j := 0) (i := 0) (v := 1) (ty := .int) hx hb hts i_Model t_Model t_Model_ok n_Model hown hK hV rfl rfl (by decide) (hM.1.n 13 (by decide) (by decide)) (hts _ k_725) rfl rfl rfl (by decide +kernel) rfl rfl d_Model_resume_14 (fun H locs hV => ?_)
      refine lv_aload_n hx hb d_Model_resume_17 rfl (lv_at hl 0 rfl) ?_
      refine os_get (C := "RobotFaultsModel") (T := F_Model) (N := 38) (ci := 7) (K := 13) (j := 0) (i := 0) (v := .int 1) hx hb hts i_Model hown hK hV rfl rfl (by decide) (hM.1.n 13 (by decide) (by decide)) (hts _ k_725) (os_fv_sgs (σ := σ) (ad := ad) (K := 13) (j := 0) (i := 0) (v := 1) rfl rfl) d_Model_resume_18 ?_
      refine lv_if_ne (tgt := 42) hx hb d_Model_resume_21 (by decide) (fun c_13 => ?_) (fun c_13 => ?_)
      · skip
        refine lv_aload_n hx hb d_Model_resume_42 rfl (lv_at hl 0 rfl) ?_
        refine os_get (C := "RobotFaultsModel") (T := F_Model) (N := 38) (ci := 7) (K := 13) (j := 0) (i := 0) (v := .int 1) hx hb hts i_Model hown hK hV rfl rfl (by decide) (hM.1.n 13 (by decide) (by decide)) (hts _ k_725) (os_fv_sgs (σ := σ) (ad := ad) (K := 13) (j := 0) (i := 0) (v := 1) rfl rfl) d_Model_resume_43 ?_
        refine lv_if_le (tgt := 51) hx hb d_Model_resume_46 (by decide) (fun c_14 => ?_) (fun c_14 => ?_)
        · exact absurd c_14 (by decide)
        · skip
          refine lv_iconst (v := 0) hx hb d_Model_resume_49 (by decide) ?_
          refine os_iret hx hb hr hlocks hV (Nat.le_of_ble_eq_true rfl) (Nat.le_of_ble_eq_true rfl) d_Model_resume_50 ?_
          exact ⟨rfl, Or.inr (Or.inr (Or.inr (Or.inr (Or.inr (⟨c_1, rfl, rfl⟩)))))⟩
      · exact absurd c_13 (by decide)
  · exact absurd hp.2.2 (fun h => by cases h)
/-- what Model_told does, road by road -/
def m_told (σ : os_S) (ad : Nat → Nat → Nat) (x y : Int32) : os_O → os_S → (Nat → Nat → Nat) → Prop := fun r σ' ad' => ad = ad' ∧ (((¬ (bz (inF x 0 (os_g σ 13 4 0 - 1))) = 0) ∧ (¬ (bz (inF y 0 4)) = 0) ∧ (¬ y = 0) ∧ (¬ y = 1) ∧ (¬ y = 2) ∧ (¬ y = 3) ∧ ((os_g σ 18 (iN x) 0) = 0) ∧ os_sg σ 13 0 0 0 = σ' ∧ r = .inl (some (.int 0))) ∨ ((¬ (bz (inF x 0 (os_g σ 13 4 0 - 1))) = 0) ∧ (¬ (bz (inF y 0 4)) = 0) ∧ (¬ y = 0) ∧ (¬ y = 1) ∧ (¬ y = 2) ∧ (¬ y = 3) ∧ (¬ ((os_g σ 18 (iN x) 0) = 0)) ∧ os_sg σ 13 0 0 0 = σ' ∧ r = .inl (some (.int 1))) ∨ ((¬ (bz (inF x 0 (os_g σ 13 4 0 - 1))) = 0) ∧ (¬ (bz (inF y 0 4)) = 0) ∧ (¬ y = 0) ∧ (¬ y = 1) ∧ (¬ y = 2) ∧ (y = 3) ∧ os_sg σ 13 0 0 0 = σ' ∧ r = .inl (some (.int (mok (os_sg σ 13 0 0 0) x 8)))) ∨ ((¬ (bz (inF x 0 (os_g σ 13 4 0 - 1))) = 0) ∧ (¬ (bz (inF y 0 4)) = 0) ∧ (¬ y = 0) ∧ (¬ y = 1) ∧ (y = 2) ∧ os_sg σ 13 0 0 0 = σ' ∧ r = .inl (some (.int (os_g σ 16 (iN x) 0)))) ∨ ((¬ (bz (inF x 0 (os_g σ 13 4 0 - 1))) = 0) ∧ (¬ (bz (inF y 0 4)) = 0) ∧ (¬ y = 0) ∧ (y = 1) ∧ os_sg σ 13 0 0 0 = σ' ∧ r = .inl (some (.int (os_g σ 15 (iN x) 0)))) ∨ ((¬ (bz (inF x 0 (os_g σ 13 4 0 - 1))) = 0) ∧ (¬ (bz (inF y 0 4)) = 0) ∧ (y = 0) ∧ os_sg σ 13 0 0 0 = σ' ∧ r = .inl (some (.int (os_g σ 17 (iN x) 0)))) ∨ ((¬ (bz (inF x 0 (os_g σ 13 4 0 - 1))) = 0) ∧ ((bz (inF y 0 4)) = 0) ∧ os_sg σ 13 0 0 2 = σ' ∧ r = .inl (some (.int 0))) ∨ (((bz (inF x 0 (os_g σ 13 4 0 - 1))) = 0) ∧ os_sg σ 13 0 0 1 = σ' ∧ r = .inl (some (.int 0))))
set_option maxHeartbeats 4000000 in
set_option maxRecDepth 100000 in
theorem c_Model_told (l : Launch) (hlt : l.stackTraces = false) (D : va_G) (cA : Nat → ClassId) (bs : Nat) (σ : os_S) (ad : Nat → Nat → Nat) (x y : Int32) (hM : MI σ) : os_Met l y_Model_told prog_9_method_37_code 3 (some .int) { frames := 2, cells := 0, slots := 0, locals := 46 } D cA bs [.ref (ad 13 0), .int x, .int y] σ ad (m_told σ ad x y) := by
  refine os_ofW (by decide) ?_
  intro p e s m below meth c hx hb hr hml hown hlocks hmn hout hE hV
  have hts := hE.hts (args := ([.ref (ad 13 0), .int x, .int y] : List Value).toArray)
  have hK := hE.2.1
  have hbs := hE.2.2.1
  have hown : s.vm.findClass "RobotFaultsModel" = some m.cls := hown
  have hl := lv_entry ([.ref (ad 13 0), .int x, .int y]) (n := 3) (Nat.le_of_ble_eq_true rfl)
  rw [lg_entry_eq]
  generalize (lg_sl ([.ref (ad 13 0), .int x, .int y]) ++ List.replicate (3 - (lg_sl ([.ref (ad 13 0), .int x, .int y])).length) Slot.unset).toArray = ls at hl ⊢
  have hl : lv_has ls 3 [(0, .ref (ad 13 0)), (1, .int x), (2, .int y)] := hl
  refine lv_aload_n hx hb d_Model_told_0 rfl (lv_at hl 0 rfl) ?_
  refine lv_aload_n hx hb d_Model_told_1 rfl (lv_at hl 0 rfl) ?_
  refine lv_iload_n hx hb d_Model_told_2 rfl (lv_at hl 1 rfl) ?_
  refine os_call (c_Model_isRobot l hlt D cA bs σ ad x hM) hE hV k_878 k_4 (os_inV (C := "RobotFaultsModel") (n := 1) (bytes := prog_9_method_5_code) (maxL := 2) (ret := (some .boolean)) hx hb hown (hts _ k_875) (hts _ k_877) (hts _ k_s22) (hts _ k_878) (by decide +kernel) rfl (os_recv hK hV rfl rfl (hM.1.n 13 (by decide) (by decide))) rfl d_Model_told_3) (hl.1.trans hml.symm) (Nat.le_of_ble_eq_true rfl) (Nat.le_of_ble_eq_true rfl) (Nat.le_of_ble_eq_true rfl) (Nat.le_of_ble_eq_true rfl) (Nat.le_of_ble_eq_true rfl) (fun v σ1 ad1 H locs hp hext hV => ?_) (fun E q ce σ1 ad1 H locs hp hext hV hce hcv hcl => ?_)
  · obtain ⟨rfl, rfl, hp⟩ := hp
    cases hp
    refine W.eq (g2 := F0 m 6 ls [.int (bz (inF x 0 (os_g σ 13 4 0 - 1))), .ref (ad 13 0)]) rfl ?_
    refine lv_if_ne (tgt := 13) hx hb d_Model_told_6 (by decide) (fun c_1 => ?_) (fun c_1 => ?_)
    · skip
      refine lv_iload_n hx hb d_Model_told_13 rfl (lv_at hl 2 rfl) ?_
      refine lv_iconst (v := 0) hx hb d_Model_told_14 (by decide) ?_
      refine lv_iconst (v := 4) hx hb d_Model_told_15 (by decide) ?_
      refine os_call (c_Model_in l hlt D cA bs σ ad y 0 4) hE hV k_859 k_4 (os_inS (n := 3) (bytes := prog_9_method_3_code) (maxL := 3) (ret := (some .boolean)) hx hb hown (hts _ k_857) (hts _ k_858) (hts _ k_4) (hts _ k_859) (by decide +kernel) rfl rfl d_Model_told_16) (hl.1.trans hml.symm) (Nat.le_of_ble_eq_true rfl) (Nat.le_of_ble_eq_true rfl) (Nat.le_of_ble_eq_true rfl) (Nat.le_of_ble_eq_true rfl) (Nat.le_of_ble_eq_true rfl) (fun v σ1 ad1 H locs hp hext hV => ?_) (fun E q ce σ1 ad1 H locs hp hext hV hce hcv hcl => ?_)
      · obtain ⟨rfl, rfl, hp⟩ := hp
        cases hp
        refine W.eq (g2 := F0 m 19 ls [.int (bz (inF y 0 4)), .ref (ad 13 0)]) rfl ?_
        refine lv_if_ne (tgt := 26) hx hb d_Model_told_19 (by decide) (fun c_2 => ?_) (fun c_2 => ?_)
        · skip
          refine lv_iconst (v := 0) hx hb d_Model_told_26 (by decide) ?_
          refine os_putI (C := "RobotFaultsModel") (T := F_Model) (N := 38) (ci := 7) (K := 13) (j := 0) (i := 0) (v := 0) (ty := .int) hx hb hts i_Model t_Model t_Model_ok n_Model hown hK hV rfl rfl (by decide) (hM.1.n 13 (by decide) (by decide)) (hts _ k_725) rfl rfl rfl (by decide +kernel) rfl rfl d_Model_told_27 (fun H locs hV => ?_)
          refine lv_aload_n hx hb d_Model_told_30 rfl (lv_at hl 0 rfl) ?_
          refine os_get (C := "RobotFaultsModel") (T := F_Model) (N := 38) (ci := 7) (K := 13) (j := 0) (i := 0) (v := .int 0) hx hb hts i_Model hown hK hV rfl rfl (by decide) (hM.1.n 13 (by decide) (by decide)) (hts _ k_725) (os_fv_sgs (σ := σ) (ad := ad) (K := 13) (j := 0) (i := 0) (v := 0) rfl rfl) d_Model_told_31 ?_
          refine lv_if_le (tgt := 39) hx hb d_Model_told_34 (by decide) (fun c_3 => ?_) (fun c_3 => ?_)
          · skip
            refine lv_iload_n hx hb d_Model_told_39 rfl (lv_at hl 2 rfl) ?_
            refine lv_if_ne (tgt := 50) hx hb d_Model_told_40 (by decide) (fun c_4 => ?_) (fun c_4 => ?_)
            · skip
              refine lv_iload_n hx hb d_Model_told_50 rfl (lv_at hl 2 rfl) ?_
              refine lv_iconst (v := 1) hx hb d_Model_told_51 (by decide) ?_
              refine lv_icmp_ne (tgt := 62) hx hb d_Model_told_52 (by decide) (fun c_5 => ?_) (fun c_5 => ?_)
              · skip
                refine lv_iload_n hx hb d_Model_told_62 rfl (lv_at hl 2 rfl) ?_
                refine lv_iconst (v := 2) hx hb d_Model_told_63 (by decide) ?_
                refine lv_icmp_ne (tgt := 74) hx hb d_Model_told_64 (by decide) (fun c_6 => ?_) (fun c_6 => ?_)
                · skip
                  refine lv_iload_n hx hb d_Model_told_74 rfl (lv_at hl 2 rfl) ?_
                  refine lv_iconst (v := 3) hx hb d_Model_told_75 (by decide) ?_
                  refine lv_icmp_ne (tgt := 87) hx hb d_Model_told_76 (by decide) (fun c_7 => ?_) (fun c_7 => ?_)
                  · skip
                    refine lv_aload_n hx hb d_Model_told_87 rfl (lv_at hl 0 rfl) ?_
                    refine os_get (C := "RobotFaultsModel") (T := F_Model) (N := 38) (ci := 7) (K := 13) (j := 8) (i := 0) (v := .ref (ad 18 0)) hx hb hts i_Model hown hK hV rfl rfl (by decide) (hM.1.n 13 (by decide) (by decide)) (hts _ k_733) (congrArg (fun z => va_rf (Option.map (ad 18) z)) (hM.1.2.1 8 (by decide) (by decide))) d_Model_told_88 ?_
                    refine lv_iload_n hx hb d_Model_told_91 rfl (lv_at hl 1 rfl) ?_
                    refine os_zaldN (K := 18) (i := 0) (t0 := 1) (n := (iN x)) hx hb hK hV rfl rfl rfl (hM.1.n 18 (by decide) (by decide)) (inF.ix (σ := σ) (bz_1 c_1) hM.2.2.1).1 (by rw [show os_l (os_sg σ 13 0 0 0) 18 0 = 8 from hM.1.2.2 18 (by decide) (by decide)]; have h9 := (Nat.lt_of_lt_of_le (inF.ix (σ := σ) (bz_1 c_1) hM.2.2.1).2 hM.2.2.1.2); omega) (by rw [show os_l (os_sg σ 13 0 0 0) 18 0 = 8 from hM.1.2.2 18 (by decide) (by decide)]; decide) d_Model_told_92 ?_
                    refine W.eq (g2 := F0 m 93 ls [.int (os_g σ 18 (iN x) 0)]) (congrArg (fun z => F0 m 93 ls (.int z :: [])) (show os_g (os_sg σ 13 0 0 0) 18 (iN x) 0 = os_g σ 18 (iN x) 0 from rfl)) ?_
                    refine lv_if_eq (tgt := 100) hx hb d_Model_told_93 (by decide) (fun c_8 => ?_) (fun c_8 => ?_)
                    · skip
                      refine lv_iconst (v := 0) hx hb d_Model_told_100 (by decide) ?_
                      refine os_iret hx hb hr hlocks hV (Nat.le_of_ble_eq_true rfl) (Nat.le_of_ble_eq_true rfl) d_Model_told_101 ?_
                      exact ⟨rfl, Or.inl (⟨c_1, c_2, c_4, c_5, c_6, c_7, c_8, rfl, rfl⟩)⟩
                    · skip
                      refine lv_iconst (v := 1) hx hb d_Model_told_96 (by decide) ?_
                      refine lv_goto (tgt := 101) hx hb d_Model_told_97 (by decide) ?_
                      refine os_iret hx hb hr hlocks hV (Nat.le_of_ble_eq_true rfl) (Nat.le_of_ble_eq_true rfl) d_Model_told_101 ?_
                      exact ⟨rfl, Or.inr (Or.inl (⟨c_1, c_2, c_4, c_5, c_6, c_7, c_8, rfl, rfl⟩))⟩
                  · skip
                    refine lv_aload_n hx hb d_Model_told_79 rfl (lv_at hl 0 rfl) ?_
                    refine lv_iload_n hx hb d_Model_told_80 rfl (lv_at hl 1 rfl) ?_
                    refine os_call (c_Model_openKinds l hlt D cA bs (os_sg σ 13 0 0 0) ad x (MI.c (v := 0) hM)) hE hV k_921 k_4 (os_inV (C := "RobotFaultsModel") (n := 1) (bytes := prog_9_method_16_code) (maxL := 4) (ret := (some .int)) hx hb hown (hts _ k_918) (hts _ k_920) (hts _ k_s28) (hts _ k_921) (by decide +kernel) rfl (os_recv hK hV rfl rfl (hM.1.n 13 (by decide) (by decide))) rfl d_Model_told_81) (hl.1.trans hml.symm) (Nat.le_of_ble_eq_true rfl) (Nat.le_of_ble_eq_true rfl) (Nat.le_of_ble_eq_true rfl) (Nat.le_of_ble_eq_true rfl) (Nat.le_of_ble_eq_true rfl) (fun v σ1 ad1 H locs hp hext hV => ?_) (fun E q ce σ1 ad1 H locs hp hext hV hce hcv hcl => ?_)
                    · obtain ⟨rfl, rfl, hp⟩ := hp
                      cases hp
                      refine W.eq (g2 := F0 m 84 ls [.int (mok (os_sg σ 13 0 0 0) x 8)]) rfl ?_
                      refine lv_goto (tgt := 101) hx hb d_Model_told_84 (by decide) ?_
                      refine os_iret hx hb hr hlocks hV (Nat.le_of_ble_eq_true rfl) (Nat.le_of_ble_eq_true rfl) d_Model_told_101 ?_
                      exact ⟨rfl, Or.inr (Or.inr (Or.inl (⟨c_1, c_2, c_4, c_5, c_6, c_7, rfl, rfl⟩)))⟩
                    · exact absurd hp.2.2 (fun h => by cases h)
                · skip
                  refine lv_aload_n hx hb d_Model_told_67 rfl (lv_at hl 0 rfl) ?_
                  refine os_get (C := "RobotFaultsModel") (T := F_Model) (N := 38) (ci := 7) (K := 13) (j := 6) (i := 0) (v := .ref (ad 16 0)) hx hb hts i_Model hown hK hV rfl rfl (by decide) (hM.1.n 13 (by decide) (by decide)) (hts _ k_731) (congrArg (fun z => va_rf (Option.map (ad 16) z)) (hM.1.2.1 6 (by decide) (by decide))) d_Model_told_68 ?_
                  refine lv_iload_n hx hb d_Model_told_71 rfl (lv_at hl 1 rfl) ?_
                  refine os_ialdN (K := 16) (i := 0) (t0 := 0) (n := (iN x)) hx hb hK hV rfl rfl rfl (hM.1.n 16 (by decide) (by decide)) (inF.ix (σ := σ) (bz_1 c_1) hM.2.2.1).1 (by rw [show os_l (os_sg σ 13 0 0 0) 16 0 = 8 from hM.1.2.2 16 (by decide) (by decide)]; have h9 := (Nat.lt_of_lt_of_le (inF.ix (σ := σ) (bz_1 c_1) hM.2.2.1).2 hM.2.2.1.2); omega) (by rw [show os_l (os_sg σ 13 0 0 0) 16 0 = 8 from hM.1.2.2 16 (by decide) (by decide)]; decide) d_Model_told_72 ?_
                  refine W.eq (g2 := F0 m 73 ls [.int (os_g σ 16 (iN x) 0)]) (congrArg (fun z => F0 m 73 ls (.int z :: [])) (show os_g (os_sg σ 13 0 0 0) 16 (iN x) 0 = os_g σ 16 (iN x) 0 from rfl)) ?_
                  refine os_iret hx hb hr hlocks hV (Nat.le_of_ble_eq_true rfl) (Nat.le_of_ble_eq_true rfl) d_Model_told_73 ?_
                  exact ⟨rfl, Or.inr (Or.inr (Or.inr (Or.inl (⟨c_1, c_2, c_4, c_5, c_6, rfl, rfl⟩))))⟩
              · skip
                refine lv_aload_n hx hb d_Model_told_55 rfl (lv_at hl 0 rfl) ?_
                refine os_get (C := "RobotFaultsModel") (T := F_Model) (N := 38) (ci := 7) (K := 13) (j := 5) (i := 0) (v := .ref (ad 15 0)) hx hb hts i_Model hown hK hV rfl rfl (by decide) (hM.1.n 13 (by decide) (by decide)) (hts _ k_730) (congrArg (fun z => va_rf (Option.map (ad 15) z)) (hM.1.2.1 5 (by decide) (by decide))) d_Model_told_56 ?_
                refine lv_iload_n hx hb d_Model_told_59 rfl (lv_at hl 1 rfl) ?_
                refine os_ialdN (K := 15) (i := 0) (t0 := 0) (n := (iN x)) hx hb hK hV rfl rfl rfl (hM.1.n 15 (by decide) (by decide)) (inF.ix (σ := σ) (bz_1 c_1) hM.2.2.1).1 (by rw [show os_l (os_sg σ 13 0 0 0) 15 0 = 8 from hM.1.2.2 15 (by decide) (by decide)]; have h9 := (Nat.lt_of_lt_of_le (inF.ix (σ := σ) (bz_1 c_1) hM.2.2.1).2 hM.2.2.1.2); omega) (by rw [show os_l (os_sg σ 13 0 0 0) 15 0 = 8 from hM.1.2.2 15 (by decide) (by decide)]; decide) d_Model_told_60 ?_
                refine W.eq (g2 := F0 m 61 ls [.int (os_g σ 15 (iN x) 0)]) (congrArg (fun z => F0 m 61 ls (.int z :: [])) (show os_g (os_sg σ 13 0 0 0) 15 (iN x) 0 = os_g σ 15 (iN x) 0 from rfl)) ?_
                refine os_iret hx hb hr hlocks hV (Nat.le_of_ble_eq_true rfl) (Nat.le_of_ble_eq_true rfl) d_Model_told_61 ?_
                exact ⟨rfl, Or.inr (Or.inr (Or.inr (Or.inr (Or.inl (⟨c_1, c_2, c_4, c_5, rfl, rfl⟩)))))⟩
            · skip
              refine lv_aload_n hx hb d_Model_told_43 rfl (lv_at hl 0 rfl) ?_
              refine os_get (C := "RobotFaultsModel") (T := F_Model) (N := 38) (ci := 7) (K := 13) (j := 7) (i := 0) (v := .ref (ad 17 0)) hx hb hts i_Model hown hK hV rfl rfl (by decide) (hM.1.n 13 (by decide) (by decide)) (hts _ k_732) (congrArg (fun z => va_rf (Option.map (ad 17) z)) (hM.1.2.1 7 (by decide) (by decide))) d_Model_told_44 ?_
              refine lv_iload_n hx hb d_Model_told_47 rfl (lv_at hl 1 rfl) ?_
              refine os_ialdN (K := 17) (i := 0) (t0 := 0) (n := (iN x)) hx hb hK hV rfl rfl rfl (hM.1.n 17 (by decide) (by decide)) (inF.ix (σ := σ) (bz_1 c_1) hM.2.2.1).1 (by rw [show os_l (os_sg σ 13 0 0 0) 17 0 = 8 from hM.1.2.2 17 (by decide) (by decide)]; have h9 := (Nat.lt_of_lt_of_le (inF.ix (σ := σ) (bz_1 c_1) hM.2.2.1).2 hM.2.2.1.2); omega) (by rw [show os_l (os_sg σ 13 0 0 0) 17 0 = 8 from hM.1.2.2 17 (by decide) (by decide)]; decide) d_Model_told_48 ?_
              refine W.eq (g2 := F0 m 49 ls [.int (os_g σ 17 (iN x) 0)]) (congrArg (fun z => F0 m 49 ls (.int z :: [])) (show os_g (os_sg σ 13 0 0 0) 17 (iN x) 0 = os_g σ 17 (iN x) 0 from rfl)) ?_
              refine os_iret hx hb hr hlocks hV (Nat.le_of_ble_eq_true rfl) (Nat.le_of_ble_eq_true rfl) d_Model_told_49 ?_
              exact ⟨rfl, Or.inr (Or.inr (Or.inr (Or.inr (Or.inr (Or.inl (⟨c_1, c_2, c_4, rfl, rfl⟩))))))⟩
          · exact absurd (by decide) c_3
        · skip
          refine lv_iconst (v := 2) hx hb d_Model_told_22 (by decide) ?_
          refine lv_goto (tgt := 27) hx hb d_Model_told_23 (by decide) ?_
          refine os_putI (C := "RobotFaultsModel") (T := F_Model) (N := 38) (ci := 7) (K := 13) (j := 0) (i := 0) (v := 2) (ty := .int) hx hb hts i_Model t_Model t_Model_ok n_Model hown hK hV rfl rfl (by decide) (hM.1.n 13 (by decide) (by decide)) (hts _ k_725) rfl rfl rfl (by decide +kernel) rfl rfl d_Model_told_27 (fun H locs hV => ?_)
          refine lv_aload_n hx hb d_Model_told_30 rfl (lv_at hl 0 rfl) ?_
          refine os_get (C := "RobotFaultsModel") (T := F_Model) (N := 38) (ci := 7) (K := 13) (j := 0) (i := 0) (v := .int 2) hx hb hts i_Model hown hK hV rfl rfl (by decide) (hM.1.n 13 (by decide) (by decide)) (hts _ k_725) (os_fv_sgs (σ := σ) (ad := ad) (K := 13) (j := 0) (i := 0) (v := 2) rfl rfl) d_Model_told_31 ?_
          refine lv_if_le (tgt := 39) hx hb d_Model_told_34 (by decide) (fun c_9 => ?_) (fun c_9 => ?_)
          · exact absurd c_9 (by decide)
          · skip
            refine lv_iconst (v := 0) hx hb d_Model_told_37 (by decide) ?_
            refine os_iret hx hb hr hlocks hV (Nat.le_of_ble_eq_true rfl) (Nat.le_of_ble_eq_true rfl) d_Model_told_38 ?_
            exact ⟨rfl, Or.inr (Or.inr (Or.inr (Or.inr (Or.inr (Or.inr (Or.inl (⟨c_1, c_2, rfl, rfl⟩)))))))⟩
      · exact absurd hp.2.2 (fun h => by cases h)
    · skip
      refine lv_iconst (v := 1) hx hb d_Model_told_9 (by decide) ?_
      refine lv_goto (tgt := 27) hx hb d_Model_told_10 (by decide) ?_
      refine os_putI (C := "RobotFaultsModel") (T := F_Model) (N := 38) (ci := 7) (K := 13) (j := 0) (i := 0) (v := 1) (ty := .int) hx hb hts i_Model t_Model t_Model_ok n_Model hown hK hV rfl rfl (by decide) (hM.1.n 13 (by decide) (by decide)) (hts _ k_725) rfl rfl rfl (by decide +kernel) rfl rfl d_Model_told_27 (fun H locs hV => ?_)
      refine lv_aload_n hx hb d_Model_told_30 rfl (lv_at hl 0 rfl) ?_
      refine os_get (C := "RobotFaultsModel") (T := F_Model) (N := 38) (ci := 7) (K := 13) (j := 0) (i := 0) (v := .int 1) hx hb hts i_Model hown hK hV rfl rfl (by decide) (hM.1.n 13 (by decide) (by decide)) (hts _ k_725) (os_fv_sgs (σ := σ) (ad := ad) (K := 13) (j := 0) (i := 0) (v := 1) rfl rfl) d_Model_told_31 ?_
      refine lv_if_le (tgt := 39) hx hb d_Model_told_34 (by decide) (fun c_10 => ?_) (fun c_10 => ?_)
      · exact absurd c_10 (by decide)
      · skip
        refine lv_iconst (v := 0) hx hb d_Model_told_37 (by decide) ?_
        refine os_iret hx hb hr hlocks hV (Nat.le_of_ble_eq_true rfl) (Nat.le_of_ble_eq_true rfl) d_Model_told_38 ?_
        exact ⟨rfl, Or.inr (Or.inr (Or.inr (Or.inr (Or.inr (Or.inr (Or.inr (⟨c_1, rfl, rfl⟩)))))))⟩
  · exact absurd hp.2.2 (fun h => by cases h)
/-- what Model_plant does, road by road -/
def m_plant (σ : os_S) (ad : Nat → Nat → Nat) (x k n9 : Int32) : os_O → os_S → (Nat → Nat → Nat) → Prop := fun r σ' ad' => ad = ad' ∧ (((¬ (bz (inF x 0 (os_g σ 13 4 0 - 1))) = 0) ∧ ((bz (inF k 0 7)) = 0) ∧ os_sg σ 13 0 0 2 = σ' ∧ r = .inl none) ∨ ((¬ (bz (inF x 0 (os_g σ 13 4 0 - 1))) = 0) ∧ (¬ ((bz (inF k 0 7)) = 0)) ∧ (¬ (bz (inF n9 1 1000)) = 0) ∧ (¬ (os_g σ 13 33 0) = 10) ∧ os_sg (os_sg (os_sg (os_sg (os_sg σ 13 0 0 0) 41 (iN (os_g σ 13 33 0)) 0 x) 42 (iN (os_g σ 13 33 0)) 0 k) 43 (iN (os_g σ 13 33 0)) 0 ((os_g σ 13 1 0) + n9)) 13 33 0 ((os_g σ 13 33 0) + 1) = σ' ∧ r = .inl none) ∨ ((¬ (bz (inF x 0 (os_g σ 13 4 0 - 1))) = 0) ∧ (¬ ((bz (inF k 0 7)) = 0)) ∧ (¬ (bz (inF n9 1 1000)) = 0) ∧ ((os_g σ 13 33 0) = 10) ∧ os_sg σ 13 0 0 3 = σ' ∧ r = .inl none) ∨ ((¬ (bz (inF x 0 (os_g σ 13 4 0 - 1))) = 0) ∧ (¬ ((bz (inF k 0 7)) = 0)) ∧ ((bz (inF n9 1 1000)) = 0) ∧ os_sg σ 13 0 0 2 = σ' ∧ r = .inl none) ∨ (((bz (inF x 0 (os_g σ 13 4 0 - 1))) = 0) ∧ os_sg σ 13 0 0 1 = σ' ∧ r = .inl none))
set_option maxHeartbeats 4000000 in
set_option maxRecDepth 100000 in
theorem c_Model_plant (l : Launch) (hlt : l.stackTraces = false) (D : va_G) (cA : Nat → ClassId) (bs : Nat) (σ : os_S) (ad : Nat → Nat → Nat) (x k n9 : Int32) (hM : MI σ) : os_Met l y_Model_plant prog_9_method_30_code 4 none { frames := 2, cells := 0, slots := 0, locals := 43 } D cA bs [.ref (ad 13 0), .int x, .int k, .int n9] σ ad (m_plant σ ad x k n9) := by
  refine os_ofW (by decide) ?_
  intro p e s m below meth c hx hb hr hml hown hlocks hmn hout hE hV
  have hts := hE.hts (args := ([.ref (ad 13 0), .int x, .int k, .int n9] : List Value).toArray)
  have hK := hE.2.1
  have hbs := hE.2.2.1
  have hown : s.vm.findClass "RobotFaultsModel" = some m.cls := hown
  have hl := lv_entry ([.ref (ad 13 0), .int x, .int k, .int n9]) (n := 4) (Nat.le_of_ble_eq_true rfl)
  rw [lg_entry_eq]
  generalize (lg_sl ([.ref (ad 13 0), .int x, .int k, .int n9]) ++ List.replicate (4 - (lg_sl ([.ref (ad 13 0), .int x, .int k, .int n9])).length) Slot.unset).toArray = ls at hl ⊢
  have hl : lv_has ls 4 [(0, .ref (ad 13 0)), (1, .int x), (2, .int k), (3, .int n9)] := hl
  refine lv_aload_n hx hb d_Model_plant_0 rfl (lv_at hl 0 rfl) ?_
  refine lv_aload_n hx hb d_Model_plant_1 rfl (lv_at hl 0 rfl) ?_
  refine lv_iload_n hx hb d_Model_plant_2 rfl (lv_at hl 1 rfl) ?_
  refine os_call (c_Model_isRobot l hlt D cA bs σ ad x hM) hE hV k_878 k_4 (os_inV (C := "RobotFaultsModel") (n := 1) (bytes := prog_9_method_5_code) (maxL := 2) (ret := (some .boolean)) hx hb hown (hts _ k_875) (hts _ k_877) (hts _ k_s22) (hts _ k_878) (by decide +kernel) rfl (os_recv hK hV rfl rfl (hM.1.n 13 (by decide) (by decide))) rfl d_Model_plant_3) (hl.1.trans hml.symm) (Nat.le_of_ble_eq_true rfl) (Nat.le_of_ble_eq_true rfl) (Nat.le_of_ble_eq_true rfl) (Nat.le_of_ble_eq_true rfl) (Nat.le_of_ble_eq_true rfl) (fun v σ1 ad1 H locs hp hext hV => ?_) (fun E q ce σ1 ad1 H locs hp hext hV hce hcv hcl => ?_)
  · obtain ⟨rfl, rfl, hp⟩ := hp
    cases hp
    refine W.eq (g2 := F0 m 6 ls [.int (bz (inF x 0 (os_g σ 13 4 0 - 1))), .ref (ad 13 0)]) rfl ?_
    refine lv_if_ne (tgt := 13) hx hb d_Model_plant_6 (by decide) (fun c_1 => ?_) (fun c_1 => ?_)
    · skip
      refine lv_iload_n hx hb d_Model_plant_13 rfl (lv_at hl 2 rfl) ?_
      refine os_call (c_Model_isKind l hlt D cA bs σ ad k) hE hV k_870 k_4 (os_inS (n := 1) (bytes := prog_9_method_8_code) (maxL := 1) (ret := (some .boolean)) hx hb hown (hts _ k_868) (hts _ k_869) (hts _ k_4) (hts _ k_870) (by decide +kernel) rfl rfl d_Model_plant_14) (hl.1.trans hml.symm) (Nat.le_of_ble_eq_true rfl) (Nat.le_of_ble_eq_true rfl) (Nat.le_of_ble_eq_true rfl) (Nat.le_of_ble_eq_true rfl) (Nat.le_of_ble_eq_true rfl) (fun v σ1 ad1 H locs hp hext hV => ?_) (fun E q ce σ1 ad1 H locs hp hext hV hce hcv hcl => ?_)
      · obtain ⟨rfl, rfl, hp⟩ := hp
        cases hp
        refine W.eq (g2 := F0 m 17 ls [.int (bz (inF k 0 7)), .ref (ad 13 0)]) rfl ?_
        refine lv_if_eq (tgt := 31) hx hb d_Model_plant_17 (by decide) (fun c_2 => ?_) (fun c_2 => ?_)
        · skip
          refine lv_iconst (v := 2) hx hb d_Model_plant_31 (by decide) ?_
          refine lv_goto (tgt := 49) hx hb d_Model_plant_32 (by decide) ?_
          refine os_putI (C := "RobotFaultsModel") (T := F_Model) (N := 38) (ci := 7) (K := 13) (j := 0) (i := 0) (v := 2) (ty := .int) hx hb hts i_Model t_Model t_Model_ok n_Model hown hK hV rfl rfl (by decide) (hM.1.n 13 (by decide) (by decide)) (hts _ k_725) rfl rfl rfl (by decide +kernel) rfl rfl d_Model_plant_49 (fun H locs hV => ?_)
          refine lv_aload_n hx hb d_Model_plant_52 rfl (lv_at hl 0 rfl) ?_
          refine os_get (C := "RobotFaultsModel") (T := F_Model) (N := 38) (ci := 7) (K := 13) (j := 0) (i := 0) (v := .int 2) hx hb hts i_Model hown hK hV rfl rfl (by decide) (hM.1.n 13 (by decide) (by decide)) (hts _ k_725) (os_fv_sgs (σ := σ) (ad := ad) (K := 13) (j := 0) (i := 0) (v := 2) rfl rfl) d_Model_plant_53 ?_
          refine lv_if_le (tgt := 60) hx hb d_Model_plant_56 (by decide) (fun c_3 => ?_) (fun c_3 => ?_)
          · exact absurd c_3 (by decide)
          · skip
            refine os_vret hx hb hr hlocks hV (Nat.le_of_ble_eq_true rfl) (Nat.le_of_ble_eq_true rfl) d_Model_plant_59 ?_
            exact ⟨rfl, Or.inl (⟨c_1, c_2, rfl, rfl⟩)⟩
        · skip
          refine lv_iload_n hx hb d_Model_plant_20 rfl (lv_at hl 3 rfl) ?_
          refine lv_iconst (v := 1) hx hb d_Model_plant_21 (by decide) ?_
          refine lv_sipush (v := 1000) hx hb d_Model_plant_22 (by decide) ?_
          refine os_call (c_Model_in l hlt D cA bs σ ad n9 1 1000) hE hV k_859 k_4 (os_inS (n := 3) (bytes := prog_9_method_3_code) (maxL := 3) (ret := (some .boolean)) hx hb hown (hts _ k_857) (hts _ k_858) (hts _ k_4) (hts _ k_859) (by decide +kernel) rfl rfl d_Model_plant_25) (hl.1.trans hml.symm) (Nat.le_of_ble_eq_true rfl) (Nat.le_of_ble_eq_true rfl) (Nat.le_of_ble_eq_true rfl) (Nat.le_of_ble_eq_true rfl) (Nat.le_of_ble_eq_true rfl) (fun v σ1 ad1 H locs hp hext hV => ?_) (fun E q ce σ1 ad1 H locs hp hext hV hce hcv hcl => ?_)
          · obtain ⟨rfl, rfl, hp⟩ := hp
            cases hp
            refine W.eq (g2 := F0 m 28 ls [.int (bz (inF n9 1 1000)), .ref (ad 13 0)]) rfl ?_
            refine lv_if_ne (tgt := 35) hx hb d_Model_plant_28 (by decide) (fun c_4 => ?_) (fun c_4 => ?_)
            · skip
              refine lv_aload_n hx hb d_Model_plant_35 rfl (lv_at hl 0 rfl) ?_
              refine os_get (C := "RobotFaultsModel") (T := F_Model) (N := 38) (ci := 7) (K := 13) (j := 33) (i := 0) (v := .int (os_g σ 13 33 0)) hx hb hts i_Model hown hK hV rfl rfl (by decide) (hM.1.n 13 (by decide) (by decide)) (hts _ k_758) rfl d_Model_plant_36 ?_
              refine lv_bipush (v := 10) hx hb d_Model_plant_39 (by decide) ?_
              refine lv_icmp_ne (tgt := 48) hx hb d_Model_plant_41 (by decide) (fun c_5 => ?_) (fun c_5 => ?_)
              · skip
                refine lv_iconst (v := 0) hx hb d_Model_plant_48 (by decide) ?_
                refine os_putI (C := "RobotFaultsModel") (T := F_Model) (N := 38) (ci := 7) (K := 13) (j := 0) (i := 0) (v := 0) (ty := .int) hx hb hts i_Model t_Model t_Model_ok n_Model hown hK hV rfl rfl (by decide) (hM.1.n 13 (by decide) (by decide)) (hts _ k_725) rfl rfl rfl (by decide +kernel) rfl rfl d_Model_plant_49 (fun H locs hV => ?_)
                refine lv_aload_n hx hb d_Model_plant_52 rfl (lv_at hl 0 rfl) ?_
                refine os_get (C := "RobotFaultsModel") (T := F_Model) (N := 38) (ci := 7) (K := 13) (j := 0) (i := 0) (v := .int 0) hx hb hts i_Model hown hK hV rfl rfl (by decide) (hM.1.n 13 (by decide) (by decide)) (hts _ k_725) (os_fv_sgs (σ := σ) (ad := ad) (K := 13) (j := 0) (i := 0) (v := 0) rfl rfl) d_Model_plant_53 ?_
                refine lv_if_le (tgt := 60) hx hb d_Model_plant_56 (by decide) (fun c_6 => ?_) (fun c_6 => ?_)
                · skip
                  have hr9 : iN (os_g σ 13 33 0) < 10 := Nat.lt_of_le_of_ne hM.2.2.2.2.2.1.2 (fun q => c_5 (by rw [hM.2.2.2.2.2.1.1, q]; rfl))
                  refine lv_aload_n hx hb d_Model_plant_60 rfl (lv_at hl 0 rfl) ?_
                  refine os_get (C := "RobotFaultsModel") (T := F_Model) (N := 38) (ci := 7) (K := 13) (j := 34) (i := 0) (v := .ref (ad 41 0)) hx hb hts i_Model hown hK hV rfl rfl (by decide) (hM.1.n 13 (by decide) (by decide)) (hts _ k_759) (congrArg (fun z => va_rf (Option.map (ad 41) z)) (hM.1.2.1 34 (by decide) (by decide))) d_Model_plant_61 ?_
                  refine lv_aload_n hx hb d_Model_plant_64 rfl (lv_at hl 0 rfl) ?_
                  refine os_get (C := "RobotFaultsModel") (T := F_Model) (N := 38) (ci := 7) (K := 13) (j := 33) (i := 0) (v := .int (os_g σ 13 33 0)) hx hb hts i_Model hown hK hV rfl rfl (by decide) (hM.1.n 13 (by decide) (by decide)) (hts _ k_758) rfl d_Model_plant_65 ?_
                  refine lv_iload_n hx hb d_Model_plant_68 rfl (lv_at hl 1 rfl) ?_
                  refine os_iastN (K := 41) (i := 0) (t0 := 0) (n := (iN (os_g σ 13 33 0))) hx hb hK hV rfl rfl rfl (hM.1.n 41 (by decide) (by decide)) hM.2.2.2.2.2.1.1 (by rw [show os_l (os_sg σ 13 0 0 0) 41 0 = 10 from hM.1.2.2 41 (by decide) (by decide)]; have h9 := hr9; omega) (by rw [show os_l (os_sg σ 13 0 0 0) 41 0 = 10 from hM.1.2.2 41 (by decide) (by decide)]; decide) d_Model_plant_69 (fun H locs hV => ?_)
                  refine lv_aload_n hx hb d_Model_plant_70 rfl (lv_at hl 0 rfl) ?_
                  refine os_get (C := "RobotFaultsModel") (T := F_Model) (N := 38) (ci := 7) (K := 13) (j := 35) (i := 0) (v := .ref (ad 42 0)) hx hb hts i_Model hown hK hV rfl rfl (by decide) (hM.1.n 13 (by decide) (by decide)) (hts _ k_760) (congrArg (fun z => va_rf (Option.map (ad 42) z)) (hM.1.2.1 35 (by decide) (by decide))) d_Model_plant_71 ?_
                  refine lv_aload_n hx hb d_Model_plant_74 rfl (lv_at hl 0 rfl) ?_
                  refine os_get (C := "RobotFaultsModel") (T := F_Model) (N := 38) (ci := 7) (K := 13) (j := 33) (i := 0) (v := .int (os_g σ 13 33 0)) hx hb hts i_Model hown hK hV rfl rfl (by decide) (hM.1.n 13 (by decide) (by decide)) (hts _ k_758) rfl d_Model_plant_75 ?_
                  refine lv_iload_n hx hb d_Model_plant_78 rfl (lv_at hl 2 rfl) ?_
                  refine os_iastN (K := 42) (i := 0) (t0 := 0) (n := (iN (os_g σ 13 33 0))) hx hb hK hV rfl rfl rfl (hM.1.n 42 (by decide) (by decide)) hM.2.2.2.2.2.1.1 (by rw [show os_l (os_sg (os_sg σ 13 0 0 0) 41 (iN (os_g σ 13 33 0)) 0 x) 42 0 = 10 from hM.1.2.2 42 (by decide) (by decide)]; have h9 := hr9; omega) (by rw [show os_l (os_sg (os_sg σ 13 0 0 0) 41 (iN (os_g σ 13 33 0)) 0 x) 42 0 = 10 from hM.1.2.2 42 (by decide) (by decide)]; decide) d_Model_plant_79 (fun H locs hV => ?_)
                  refine lv_aload_n hx hb d_Model_plant_80 rfl (lv_at hl 0 rfl) ?_
                  refine os_get (C := "RobotFaultsModel") (T := F_Model) (N := 38) (ci := 7) (K := 13) (j := 36) (i := 0) (v := .ref (ad 43 0)) hx hb hts i_Model hown hK hV rfl rfl (by decide) (hM.1.n 13 (by decide) (by decide)) (hts _ k_761) (congrArg (fun z => va_rf (Option.map (ad 43) z)) (hM.1.2.1 36 (by decide) (by decide))) d_Model_plant_81 ?_
                  refine lv_aload_n hx hb d_Model_plant_84 rfl (lv_at hl 0 rfl) ?_
                  refine os_get (C := "RobotFaultsModel") (T := F_Model) (N := 38) (ci := 7) (K := 13) (j := 33) (i := 0) (v := .int (os_g σ 13 33 0)) hx hb hts i_Model hown hK hV rfl rfl (by decide) (hM.1.n 13 (by decide) (by decide)) (hts _ k_758) rfl d_Model_plant_85 ?_
                  refine lv_aload_n hx hb d_Model_plant_88 rfl (lv_at hl 0 rfl) ?_
                  refine os_get (C := "RobotFaultsModel") (T := F_Model) (N := 38) (ci := 7) (K := 13) (j := 1) (i := 0) (v := .int (os_g σ 13 1 0)) hx hb hts i_Model hown hK hV rfl rfl (by decide) (hM.1.n 13 (by decide) (by decide)) (hts _ k_726) rfl d_Model_plant_89 ?_
                  refine lv_iload_n hx hb d_Model_plant_92 rfl (lv_at hl 3 rfl) ?_
                  refine lv_iadd hx hb d_Model_plant_93 ?_
                  refine os_iastN (K := 43) (i := 0) (t0 := 0) (n := (iN (os_g σ 13 33 0))) hx hb hK hV rfl rfl rfl (hM.1.n 43 (by decide) (by decide)) hM.2.2.2.2.2.1.1 (by rw [show os_l (os_sg (os_sg (os_sg σ 13 0 0 0) 41 (iN (os_g σ 13 33 0)) 0 x) 42 (iN (os_g σ 13 33 0)) 0 k) 43 0 = 10 from hM.1.2.2 43 (by decide) (by decide)]; have h9 := hr9; omega) (by rw [show os_l (os_sg (os_sg (os_sg σ 13 0 0 0) 41 (iN (os_g σ 13 33 0)) 0 x) 42 (iN (os_g σ 13 33 0)) 0 k) 43 0 = 10 from hM.1.2.2 43 (by decide) (by decide)]; decide) d_Model_plant_94 (fun H locs hV => ?_)
                  refine lv_aload_n hx hb d_Model_plant_95 rfl (lv_at hl 0 rfl) ?_
                  refine lv_dup hx hb d_Model_plant_96 rfl ?_
                  refine os_get (C := "RobotFaultsModel") (T := F_Model) (N := 38) (ci := 7) (K := 13) (j := 33) (i := 0) (v := .int (os_g σ 13 33 0)) hx hb hts i_Model hown hK hV rfl rfl (by decide) (hM.1.n 13 (by decide) (by decide)) (hts _ k_758) rfl d_Model_plant_97 ?_
                  refine lv_iconst (v := 1) hx hb d_Model_plant_100 (by decide) ?_
                  refine lv_iadd hx hb d_Model_plant_101 ?_
                  refine os_putI (C := "RobotFaultsModel") (T := F_Model) (N := 38) (ci := 7) (K := 13) (j := 33) (i := 0) (v := (os_g σ 13 33 0) + 1) (ty := .int) hx hb hts i_Model t_Model t_Model_ok n_Model hown hK hV rfl rfl (by decide) (hM.1.n 13 (by decide) (by decide)) (hts _ k_758) rfl rfl rfl (by decide +kernel) rfl rfl d_Model_plant_102 (fun H locs hV => ?_)
                  refine os_vret hx hb hr hlocks hV (Nat.le_of_ble_eq_true rfl) (Nat.le_of_ble_eq_true rfl) d_Model_plant_105 ?_
                  exact ⟨rfl, Or.inr (Or.inl (⟨c_1, c_2, c_4, c_5, rfl, rfl⟩))⟩
                · exact absurd (by decide) c_6
              · skip
                refine lv_iconst (v := 3) hx hb d_Model_plant_44 (by decide) ?_
                refine lv_goto (tgt := 49) hx hb d_Model_plant_45 (by decide) ?_
                refine os_putI (C := "RobotFaultsModel") (T := F_Model) (N := 38) (ci := 7) (K := 13) (j := 0) (i := 0) (v := 3) (ty := .int) hx hb hts i_Model t_Model t_Model_ok n_Model hown hK hV rfl rfl (by decide) (hM.1.n 13 (by decide) (by decide)) (hts _ k_725) rfl rfl rfl (by decide +kernel) rfl rfl d_Model_plant_49 (fun H locs hV => ?_)
                refine lv_aload_n hx hb d_Model_plant_52 rfl (lv_at hl 0 rfl) ?_
                refine os_get (C := "RobotFaultsModel") (T := F_Model) (N := 38) (ci := 7) (K := 13) (j := 0) (i := 0) (v := .int 3) hx hb hts i_Model hown hK hV rfl rfl (by decide) (hM.1.n 13 (by decide) (by decide)) (hts _ k_725) (os_fv_sgs (σ := σ) (ad := ad) (K := 13) (j := 0) (i := 0) (v := 3) rfl rfl) d_Model_plant_53 ?_
                refine lv_if_le (tgt := 60) hx hb d_Model_plant_56 (by decide) (fun c_7 => ?_) (fun c_7 => ?_)
                · exact absurd c_7 (by decide)
                · skip
                  refine os_vret hx hb hr hlocks hV (Nat.le_of_ble_eq_true rfl) (Nat.le_of_ble_eq_true rfl) d_Model_plant_59 ?_
                  exact ⟨rfl, Or.inr (Or.inr (Or.inl (⟨c_1, c_2, c_4, c_5, rfl, rfl⟩)))⟩
            · skip
              refine lv_iconst (v := 2) hx hb d_Model_plant_31 (by decide) ?_
              refine lv_goto (tgt := 49) hx hb d_Model_plant_32 (by decide) ?_
              refine os_putI (C := "RobotFaultsModel") (T := F_Model) (N := 38) (ci := 7) (K := 13) (j := 0) (i := 0) (v := 2) (ty := .int) hx hb hts i_Model t_Model t_Model_ok n_Model hown hK hV rfl rfl (by decide) (hM.1.n 13 (by decide) (by decide)) (hts _ k_725) rfl rfl rfl (by decide +kernel) rfl rfl d_Model_plant_49 (fun H locs hV => ?_)
              refine lv_aload_n hx hb d_Model_plant_52 rfl (lv_at hl 0 rfl) ?_
              refine os_get (C := "RobotFaultsModel") (T := F_Model) (N := 38) (ci := 7) (K := 13) (j := 0) (i := 0) (v := .int 2) hx hb hts i_Model hown hK hV rfl rfl (by decide) (hM.1.n 13 (by decide) (by decide)) (hts _ k_725) (os_fv_sgs (σ := σ) (ad := ad) (K := 13) (j := 0) (i := 0) (v := 2) rfl rfl) d_Model_plant_53 ?_
              refine lv_if_le (tgt := 60) hx hb d_Model_plant_56 (by decide) (fun c_8 => ?_) (fun c_8 => ?_)
              · exact absurd c_8 (by decide)
              · skip
                refine os_vret hx hb hr hlocks hV (Nat.le_of_ble_eq_true rfl) (Nat.le_of_ble_eq_true rfl) d_Model_plant_59 ?_
                exact ⟨rfl, Or.inr (Or.inr (Or.inr (Or.inl (⟨c_1, c_2, c_4, rfl, rfl⟩))))⟩
          · exact absurd hp.2.2 (fun h => by cases h)
      · exact absurd hp.2.2 (fun h => by cases h)
    · skip
      refine lv_iconst (v := 1) hx hb d_Model_plant_9 (by decide) ?_
      refine lv_goto (tgt := 49) hx hb d_Model_plant_10 (by decide) ?_
      refine os_putI (C := "RobotFaultsModel") (T := F_Model) (N := 38) (ci := 7) (K := 13) (j := 0) (i := 0) (v := 1) (ty := .int) hx hb hts i_Model t_Model t_Model_ok n_Model hown hK hV rfl rfl (by decide) (hM.1.n 13 (by decide) (by decide)) (hts _ k_725) rfl rfl rfl (by decide +kernel) rfl rfl d_Model_plant_49 (fun H locs hV => ?_)
      refine lv_aload_n hx hb d_Model_plant_52 rfl (lv_at hl 0 rfl) ?_
      refine os_get (C := "RobotFaultsModel") (T := F_Model) (N := 38) (ci := 7) (K := 13) (j := 0) (i := 0) (v := .int 1) hx hb hts i_Model hown hK hV rfl rfl (by decide) (hM.1.n 13 (by decide) (by decide)) (hts _ k_725) (os_fv_sgs (σ := σ) (ad := ad) (K := 13) (j := 0) (i := 0) (v := 1) rfl rfl) d_Model_plant_53 ?_
      refine lv_if_le (tgt := 60) hx hb d_Model_plant_56 (by decide) (fun c_9 => ?_) (fun c_9 => ?_)
      · exact absurd c_9 (by decide)
      · skip
        refine os_vret hx hb hr hlocks hV (Nat.le_of_ble_eq_true rfl) (Nat.le_of_ble_eq_true rfl) d_Model_plant_59 ?_
        exact ⟨rfl, Or.inr (Or.inr (Or.inr (Or.inr (⟨c_1, rfl, rfl⟩))))⟩
  · exact absurd hp.2.2 (fun h => by cases h)
