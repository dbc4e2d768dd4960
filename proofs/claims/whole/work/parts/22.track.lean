/-! THE CLASS'S SHAPE; ITS TRACK -/
/-- the roots, the arrays' lengths, the rules -/
def rfA (σ : os_S) : Prop := (∀ K, K < 8 → os_n σ K = 1) ∧ os_n σ 8 = 8 ∧ (∀ j, j < 6 → os_r σ 0 j 0 = some 0) ∧ os_r σ 1 0 0 = some 0 ∧ (os_l σ 2 0 = 20 ∧ os_l σ 3 0 = 8 ∧ os_l σ 4 0 = 8 ∧ os_l σ 5 0 = 40 ∧ os_l σ 6 0 = 40 ∧ os_l σ 7 0 = 10) ∧ ∀ k, k < 8 → os_r σ 3 k 0 = some k
theorem rfA.n {σ : os_S} (h : rfA σ) (K : Nat) (hK : K < 8) : 0 < os_n σ K := by rw [h.1 K hK]; decide
theorem rfA.r {σ : os_S} (h : rfA σ) (j : Nat) (hj : j < 6) : os_r σ 0 j 0 = some 0 := h.2.2.1 j hj
theorem rfA.t {σ : os_S} (h : rfA σ) : os_r σ 1 0 0 = some 0 := h.2.2.2.1
theorem rfA.l2 {σ : os_S} (h : rfA σ) : os_l σ 2 0 = 20 := h.2.2.2.2.1.1
theorem rfA.l3 {σ : os_S} (h : rfA σ) : os_l σ 3 0 = 8 := h.2.2.2.2.1.2.1
theorem rfA.l4 {σ : os_S} (h : rfA σ) : os_l σ 4 0 = 8 := h.2.2.2.2.1.2.2.1
theorem rfA.l5 {σ : os_S} (h : rfA σ) : os_l σ 5 0 = 40 := h.2.2.2.2.1.2.2.2.1
theorem rfA.l6 {σ : os_S} (h : rfA σ) : os_l σ 6 0 = 40 := h.2.2.2.2.1.2.2.2.2.1
theorem rfA.l7 {σ : os_S} (h : rfA σ) : os_l σ 7 0 = 10 := h.2.2.2.2.1.2.2.2.2.2
theorem rfA.ru {σ : os_S} (h : rfA σ) (k : Nat) (hk : k < 8) : os_r σ 3 k 0 = some k := h.2.2.2.2.2 k hk
theorem rng {x M : Int32} {N : Nat} (hM : M = nI N) (hN : N < 2 ^ 31) (h0 : ¬ x < 0) (h1 : ¬ M ≤ x) : ∃ n, n < N ∧ x = nI n := by
  subst hM
  rcases pk_ix x hN with h | h | h
  · exact absurd h h0
  · exact absurd h h1
  · exact h
theorem nI_inj {a b : Nat} (h : nI a = nI b) (ha : a < 2 ^ 31) (hb : b < 2 ^ 31) : a = b := (nI_eq ha hb).mp h
set_option maxHeartbeats 4000000 in
set_option maxRecDepth 100000 in
theorem c_Track_size (l : Launch) (hlt : l.stackTraces = false) (D : va_G) (cA : Nat → ClassId) (bs : Nat) (σ : os_S) (ad : Nat → Nat → Nat) (hA : rfA σ) : os_Met l y_Track_size prog_7_method_2_code 1 (some .int) { frames := 0, cells := 0, slots := 0, locals := 0 } D cA bs [.ref (ad 1 0)] σ ad (pv σ ad (some (.int (os_g σ 1 1 0)))) := by
  refine os_ofW (by decide) ?_
  intro p e s m below meth c hx hb hr hml hown hlocks hmn hout hE hV
  have hts := hE.hts (args := ([.ref (ad 1 0)] : List Value).toArray)
  have hK := hE.2.1
  have hbs := hE.2.2.1
  have hown : s.vm.findClass "RobotFaults$Track" = some m.cls := hown
  have hl := lv_entry ([.ref (ad 1 0)]) (n := 1) (Nat.le_of_ble_eq_true rfl)
  rw [lg_entry_eq]
  generalize (lg_sl ([.ref (ad 1 0)]) ++ List.replicate (1 - (lg_sl ([.ref (ad 1 0)])).length) Slot.unset).toArray = ls at hl ⊢
  have hl : lv_has ls 1 [(0, .ref (ad 1 0))] := hl
  refine lv_aload_n hx hb d_Track_size_0 rfl (lv_at hl 0 rfl) ?_
  refine os_get (C := "RobotFaults$Track") (T := F_Track) (N := 2) (ci := 1) (K := 1) (j := 1) (i := 0) (v := .int (os_g σ 1 1 0)) hx hb hts i_Track hown hK hV rfl rfl (by decide) (hA.n 1 (by decide)) (hts _ k_33) rfl d_Track_size_1 ?_
  refine os_iret hx hb hr hlocks hV (Nat.le_of_ble_eq_true rfl) (Nat.le_of_ble_eq_true rfl) d_Track_size_4 ?_
  exact ⟨rfl, rfl, rfl⟩
set_option maxHeartbeats 4000000 in
set_option maxRecDepth 100000 in
theorem c_Track_isFull (l : Launch) (hlt : l.stackTraces = false) (D : va_G) (cA : Nat → ClassId) (bs : Nat) (σ : os_S) (ad : Nat → Nat → Nat) (hA : rfA σ) : os_Met l y_Track_isFull prog_7_method_3_code 1 (some .boolean) { frames := 0, cells := 0, slots := 0, locals := 0 } D cA bs [.ref (ad 1 0)] σ ad (pv σ ad (some (.int (bz (decide (20 ≤ os_g σ 1 1 0)))))) := by
  refine os_ofW (by decide) ?_
  intro p e s m below meth c hx hb hr hml hown hlocks hmn hout hE hV
  have hts := hE.hts (args := ([.ref (ad 1 0)] : List Value).toArray)
  have hK := hE.2.1
  have hbs := hE.2.2.1
  have hown : s.vm.findClass "RobotFaults$Track" = some m.cls := hown
  have hl := lv_entry ([.ref (ad 1 0)]) (n := 1) (Nat.le_of_ble_eq_true rfl)
  rw [lg_entry_eq]
  generalize (lg_sl ([.ref (ad 1 0)]) ++ List.replicate (1 - (lg_sl ([.ref (ad 1 0)])).length) Slot.unset).toArray = ls at hl ⊢
  have hl : lv_has ls 1 [(0, .ref (ad 1 0))] := hl
  refine lv_aload_n hx hb d_Track_isFull_0 rfl (lv_at hl 0 rfl) ?_
  refine os_get (C := "RobotFaults$Track") (T := F_Track) (N := 2) (ci := 1) (K := 1) (j := 1) (i := 0) (v := .int (os_g σ 1 1 0)) hx hb hts i_Track hown hK hV rfl rfl (by decide) (hA.n 1 (by decide)) (hts _ k_33) rfl d_Track_isFull_1 ?_
  refine lv_aload_n hx hb d_Track_isFull_4 rfl (lv_at hl 0 rfl) ?_
  refine os_get (C := "RobotFaults$Track") (T := F_Track) (N := 2) (ci := 1) (K := 1) (j := 0) (i := 0) (v := .ref (ad 2 0)) hx hb hts i_Track hown hK hV rfl rfl (by decide) (hA.n 1 (by decide)) (hts _ k_32) (congrArg (fun z => va_rf (Option.map (ad 2) z)) hA.t) d_Track_isFull_5 ?_
  refine os_alen (K := 2) (i := 0) (t0 := 0) (v := 20) hx hb hK hV rfl rfl (hA.n 2 (by decide)) (congrArg Int32.ofNat hA.l2) d_Track_isFull_8 ?_
  refine lv_icmp_lt (tgt := 16) hx hb d_Track_isFull_9 (by decide) (fun c_1 => ?_) (fun c_1 => ?_)
  · skip
    refine lv_iconst (v := 0) hx hb d_Track_isFull_16 (by decide) ?_
    refine os_zret hx hb hr rfl hlocks hV (Nat.le_of_ble_eq_true rfl) (Nat.le_of_ble_eq_true rfl) d_Track_isFull_17 ?_
    exact ⟨rfl, rfl, by simp [bz, c_1]⟩
  · skip
    refine lv_iconst (v := 1) hx hb d_Track_isFull_12 (by decide) ?_
    refine lv_goto (tgt := 17) hx hb d_Track_isFull_13 (by decide) ?_
    refine os_zret hx hb hr rfl hlocks hV (Nat.le_of_ble_eq_true rfl) (Nat.le_of_ble_eq_true rfl) d_Track_isFull_17 ?_
    exact ⟨rfl, rfl, by simp [bz, c_1]⟩
set_option maxHeartbeats 4000000 in
set_option maxRecDepth 100000 in
theorem c_Track_has (l : Launch) (hlt : l.stackTraces = false) (D : va_G) (cA : Nat → ClassId) (bs : Nat) (σ : os_S) (ad : Nat → Nat → Nat) (x : Int32) (hA : rfA σ) : os_Met l y_Track_has prog_7_method_4_code 2 (some .boolean) { frames := 0, cells := 0, slots := 0, locals := 0 } D cA bs [.ref (ad 1 0), .int x] σ ad (pv σ ad (some (.int (bz (decide (¬ x < 0 ∧ ¬ os_g σ 1 1 0 ≤ x)))))) := by
  refine os_ofW (by decide) ?_
  intro p e s m below meth c hx hb hr hml hown hlocks hmn hout hE hV
  have hts := hE.hts (args := ([.ref (ad 1 0), .int x] : List Value).toArray)
  have hK := hE.2.1
  have hbs := hE.2.2.1
  have hown : s.vm.findClass "RobotFaults$Track" = some m.cls := hown
  have hl := lv_entry ([.ref (ad 1 0), .int x]) (n := 2) (Nat.le_of_ble_eq_true rfl)
  rw [lg_entry_eq]
  generalize (lg_sl ([.ref (ad 1 0), .int x]) ++ List.replicate (2 - (lg_sl ([.ref (ad 1 0), .int x])).length) Slot.unset).toArray = ls at hl ⊢
  have hl : lv_has ls 2 [(0, .ref (ad 1 0)), (1, .int x)] := hl
  refine lv_iload_n hx hb d_Track_has_0 rfl (lv_at hl 1 rfl) ?_
  refine lv_if_lt (tgt := 16) hx hb d_Track_has_1 (by decide) (fun c_1 => ?_) (fun c_1 => ?_)
  · skip
    refine lv_iconst (v := 0) hx hb d_Track_has_16 (by decide) ?_
    refine os_zret hx hb hr rfl hlocks hV (Nat.le_of_ble_eq_true rfl) (Nat.le_of_ble_eq_true rfl) d_Track_has_17 ?_
    exact ⟨rfl, rfl, by simp [bz, c_1]⟩
  · skip
    refine lv_iload_n hx hb d_Track_has_4 rfl (lv_at hl 1 rfl) ?_
    refine lv_aload_n hx hb d_Track_has_5 rfl (lv_at hl 0 rfl) ?_
    refine os_get (C := "RobotFaults$Track") (T := F_Track) (N := 2) (ci := 1) (K := 1) (j := 1) (i := 0) (v := .int (os_g σ 1 1 0)) hx hb hts i_Track hown hK hV rfl rfl (by decide) (hA.n 1 (by decide)) (hts _ k_33) rfl d_Track_has_6 ?_
    refine lv_icmp_ge (tgt := 16) hx hb d_Track_has_9 (by decide) (fun c_2 => ?_) (fun c_2 => ?_)
    · skip
      refine lv_iconst (v := 0) hx hb d_Track_has_16 (by decide) ?_
      refine os_zret hx hb hr rfl hlocks hV (Nat.le_of_ble_eq_true rfl) (Nat.le_of_ble_eq_true rfl) d_Track_has_17 ?_
      exact ⟨rfl, rfl, by simp [bz, c_1, c_2]⟩
    · skip
      refine lv_iconst (v := 1) hx hb d_Track_has_12 (by decide) ?_
      refine lv_goto (tgt := 17) hx hb d_Track_has_13 (by decide) ?_
      refine os_zret hx hb hr rfl hlocks hV (Nat.le_of_ble_eq_true rfl) (Nat.le_of_ble_eq_true rfl) d_Track_has_17 ?_
      exact ⟨rfl, rfl, by simp [bz, c_1, c_2]⟩
set_option maxHeartbeats 4000000 in
set_option maxRecDepth 100000 in
theorem c_Track_add (l : Launch) (hlt : l.stackTraces = false) (D : va_G) (cA : Nat → ClassId) (bs : Nat) (σ : os_S) (ad : Nat → Nat → Nat) (hA : rfA σ) : os_Met l y_Track_add prog_7_method_5_code 2 (some .int) { frames := 0, cells := 0, slots := 0, locals := 0 } D cA bs [.ref (ad 1 0)] σ ad (fun r σ' ad' => os_sg σ 1 1 0 (os_g σ 1 1 0 + 1) = σ' ∧ ad = ad' ∧ r = .inl (some (.int (os_g σ 1 1 0)))) := by
  refine os_ofW (by decide) ?_
  intro p e s m below meth c hx hb hr hml hown hlocks hmn hout hE hV
  have hts := hE.hts (args := ([.ref (ad 1 0)] : List Value).toArray)
  have hK := hE.2.1
  have hbs := hE.2.2.1
  have hown : s.vm.findClass "RobotFaults$Track" = some m.cls := hown
  have hl := lv_entry ([.ref (ad 1 0)]) (n := 2) (Nat.le_of_ble_eq_true rfl)
  rw [lg_entry_eq]
  generalize (lg_sl ([.ref (ad 1 0)]) ++ List.replicate (2 - (lg_sl ([.ref (ad 1 0)])).length) Slot.unset).toArray = ls at hl ⊢
  have hl : lv_has ls 2 [(0, .ref (ad 1 0))] := hl
  refine lv_aload_n hx hb d_Track_add_0 rfl (lv_at hl 0 rfl) ?_
  refine os_get (C := "RobotFaults$Track") (T := F_Track) (N := 2) (ci := 1) (K := 1) (j := 1) (i := 0) (v := .int (os_g σ 1 1 0)) hx hb hts i_Track hown hK hV rfl rfl (by decide) (hA.n 1 (by decide)) (hts _ k_33) rfl d_Track_add_1 ?_
  refine lv_istore_n (lv' := [(1, .int (os_g σ 1 1 0)), (0, .ref (ad 1 0))]) hx hb d_Track_add_4 rfl hl (by decide) rfl (fun ls hl => ?_)
  refine lv_aload_n hx hb d_Track_add_5 rfl (lv_at hl 1 rfl) ?_
  refine lv_dup hx hb d_Track_add_6 rfl ?_
  refine os_get (C := "RobotFaults$Track") (T := F_Track) (N := 2) (ci := 1) (K := 1) (j := 1) (i := 0) (v := .int (os_g σ 1 1 0)) hx hb hts i_Track hown hK hV rfl rfl (by decide) (hA.n 1 (by decide)) (hts _ k_33) rfl d_Track_add_7 ?_
  refine lv_iconst (v := 1) hx hb d_Track_add_10 (by decide) ?_
  refine lv_iadd hx hb d_Track_add_11 ?_
  refine os_putI (C := "RobotFaults$Track") (T := F_Track) (N := 2) (ci := 1) (K := 1) (j := 1) (i := 0) (v := (os_g σ 1 1 0) + 1) (ty := .int) hx hb hts i_Track t_Track t_Track_ok n_Track hown hK hV rfl rfl (by decide) (hA.n 1 (by decide)) (hts _ k_33) rfl rfl rfl (by decide +kernel) rfl rfl d_Track_add_12 (fun H locs hV => ?_)
  refine lv_iload_n hx hb d_Track_add_15 rfl (lv_at hl 0 rfl) ?_
  refine os_iret hx hb hr hlocks hV (Nat.le_of_ble_eq_true rfl) (Nat.le_of_ble_eq_true rfl) d_Track_add_16 ?_
  exact ⟨rfl, rfl, rfl⟩
set_option maxHeartbeats 4000000 in
set_option maxRecDepth 100000 in
theorem c_Track_connect (l : Launch) (hlt : l.stackTraces = false) (D : va_G) (cA : Nat → ClassId) (bs : Nat) (σ : os_S) (ad : Nat → Nat → Nat) (a b : Nat) (hA : rfA σ) (ha : a < 20) (hb2 : b < 20) : os_Met l y_Track_connect prog_7_method_6_code 3 none { frames := 0, cells := 0, slots := 0, locals := 0 } D cA bs [.ref (ad 1 0), .int (nI a), .int (nI b)] σ ad (fun r σ' ad' => os_sg (os_sg σ 2 a 0 (os_g σ 2 a 0 ||| (1 : Int32) <<< (nI b &&& 31))) 2 b 0 (os_g (os_sg σ 2 a 0 (os_g σ 2 a 0 ||| (1 : Int32) <<< (nI b &&& 31))) 2 b 0 ||| (1 : Int32) <<< (nI a &&& 31)) = σ' ∧ ad = ad' ∧ r = .inl none) := by
  refine os_ofW (by decide) ?_
  intro p e s m below meth c hx hb hr hml hown hlocks hmn hout hE hV
  have hts := hE.hts (args := ([.ref (ad 1 0), .int (nI a), .int (nI b)] : List Value).toArray)
  have hK := hE.2.1
  have hbs := hE.2.2.1
  have hown : s.vm.findClass "RobotFaults$Track" = some m.cls := hown
  have hl := lv_entry ([.ref (ad 1 0), .int (nI a), .int (nI b)]) (n := 3) (Nat.le_of_ble_eq_true rfl)
  rw [lg_entry_eq]
  generalize (lg_sl ([.ref (ad 1 0), .int (nI a), .int (nI b)]) ++ List.replicate (3 - (lg_sl ([.ref (ad 1 0), .int (nI a), .int (nI b)])).length) Slot.unset).toArray = ls at hl ⊢
  have hl : lv_has ls 3 [(0, .ref (ad 1 0)), (1, .int (nI a)), (2, .int (nI b))] := hl
  refine lv_aload_n hx hb d_Track_connect_0 rfl (lv_at hl 0 rfl) ?_
  refine os_get (C := "RobotFaults$Track") (T := F_Track) (N := 2) (ci := 1) (K := 1) (j := 0) (i := 0) (v := .ref (ad 2 0)) hx hb hts i_Track hown hK hV rfl rfl (by decide) (hA.n 1 (by decide)) (hts _ k_32) (congrArg (fun z => va_rf (Option.map (ad 2) z)) hA.t) d_Track_connect_1 ?_
  refine lv_iload_n hx hb d_Track_connect_4 rfl (lv_at hl 1 rfl) ?_
  refine lv_dup2_11 hx hb d_Track_connect_5 rfl rfl ?_
  refine os_ialdN (K := 2) (i := 0) (t0 := 0) (n := a) hx hb hK hV rfl rfl rfl (hA.n 2 (by decide)) rfl (by rw [show os_l σ 2 0 = 20 from hA.l2]; exact ha) (by rw [show os_l σ 2 0 = 20 from hA.l2]; decide) d_Track_connect_6 ?_
  refine lv_iconst (v := 1) hx hb d_Track_connect_7 (by decide) ?_
  refine lv_iload_n hx hb d_Track_connect_8 rfl (lv_at hl 2 rfl) ?_
  refine lv_ishl hx hb d_Track_connect_9 ?_
  refine lv_ior hx hb d_Track_connect_10 ?_
  refine os_iastN (K := 2) (i := 0) (t0 := 0) (n := a) hx hb hK hV rfl rfl rfl (hA.n 2 (by decide)) rfl (by rw [show os_l σ 2 0 = 20 from hA.l2]; exact ha) (by rw [show os_l σ 2 0 = 20 from hA.l2]; decide) d_Track_connect_11 (fun H locs hV => ?_)
  refine lv_aload_n hx hb d_Track_connect_12 rfl (lv_at hl 0 rfl) ?_
  refine os_get (C := "RobotFaults$Track") (T := F_Track) (N := 2) (ci := 1) (K := 1) (j := 0) (i := 0) (v := .ref (ad 2 0)) hx hb hts i_Track hown hK hV rfl rfl (by decide) (hA.n 1 (by decide)) (hts _ k_32) (congrArg (fun z => va_rf (Option.map (ad 2) z)) hA.t) d_Track_connect_13 ?_
  refine lv_iload_n hx hb d_Track_connect_16 rfl (lv_at hl 2 rfl) ?_
  refine lv_dup2_11 hx hb d_Track_connect_17 rfl rfl ?_
  refine os_ialdN (K := 2) (i := 0) (t0 := 0) (n := b) hx hb hK hV rfl rfl rfl (hA.n 2 (by decide)) rfl (by rw [show os_l (os_sg σ 2 a 0 ((os_g σ 2 a 0) ||| (1 <<< ((nI b) &&& 31)))) 2 0 = 20 from hA.l2]; exact hb2) (by rw [show os_l (os_sg σ 2 a 0 ((os_g σ 2 a 0) ||| (1 <<< ((nI b) &&& 31)))) 2 0 = 20 from hA.l2]; decide) d_Track_connect_18 ?_
  refine lv_iconst (v := 1) hx hb d_Track_connect_19 (by decide) ?_
  refine lv_iload_n hx hb d_Track_connect_20 rfl (lv_at hl 1 rfl) ?_
  refine lv_ishl hx hb d_Track_connect_21 ?_
  refine lv_ior hx hb d_Track_connect_22 ?_
  refine os_iastN (K := 2) (i := 0) (t0 := 0) (n := b) hx hb hK hV rfl rfl rfl (hA.n 2 (by decide)) rfl (by rw [show os_l (os_sg σ 2 a 0 ((os_g σ 2 a 0) ||| (1 <<< ((nI b) &&& 31)))) 2 0 = 20 from hA.l2]; exact hb2) (by rw [show os_l (os_sg σ 2 a 0 ((os_g σ 2 a 0) ||| (1 <<< ((nI b) &&& 31)))) 2 0 = 20 from hA.l2]; decide) d_Track_connect_23 (fun H locs hV => ?_)
  refine os_vret hx hb hr hlocks hV (Nat.le_of_ble_eq_true rfl) (Nat.le_of_ble_eq_true rfl) d_Track_connect_24 ?_
  exact ⟨rfl, rfl, rfl⟩
set_option maxHeartbeats 4000000 in
set_option maxRecDepth 100000 in
theorem c_Track_areConnected (l : Launch) (hlt : l.stackTraces = false) (D : va_G) (cA : Nat → ClassId) (bs : Nat) (σ : os_S) (ad : Nat → Nat → Nat) (a : Nat) (x : Int32) (hA : rfA σ) (ha : a < 20) : os_Met l y_Track_areConnected prog_7_method_7_code 3 (some .boolean) { frames := 1, cells := 0, slots := 0, locals := 21 } D cA bs [.ref (ad 1 0), .int (nI a), .int x] σ ad (pv σ ad (some (.int (bz (rf_holds (os_g σ 2 a 0) x))))) := by
  refine os_ofW (by decide) ?_
  intro p e s m below meth c hx hb hr hml hown hlocks hmn hout hE hV
  have hts := hE.hts (args := ([.ref (ad 1 0), .int (nI a), .int x] : List Value).toArray)
  have hK := hE.2.1
  have hbs := hE.2.2.1
  have hown : s.vm.findClass "RobotFaults$Track" = some m.cls := hown
  have hl := lv_entry ([.ref (ad 1 0), .int (nI a), .int x]) (n := 3) (Nat.le_of_ble_eq_true rfl)
  rw [lg_entry_eq]
  generalize (lg_sl ([.ref (ad 1 0), .int (nI a), .int x]) ++ List.replicate (3 - (lg_sl ([.ref (ad 1 0), .int (nI a), .int x])).length) Slot.unset).toArray = ls at hl ⊢
  have hl : lv_has ls 3 [(0, .ref (ad 1 0)), (1, .int (nI a)), (2, .int x)] := hl
  refine lv_aload_n hx hb d_Track_areConnected_0 rfl (lv_at hl 0 rfl) ?_
  refine os_get (C := "RobotFaults$Track") (T := F_Track) (N := 2) (ci := 1) (K := 1) (j := 0) (i := 0) (v := .ref (ad 2 0)) hx hb hts i_Track hown hK hV rfl rfl (by decide) (hA.n 1 (by decide)) (hts _ k_32) (congrArg (fun z => va_rf (Option.map (ad 2) z)) hA.t) d_Track_areConnected_1 ?_
  refine lv_iload_n hx hb d_Track_areConnected_4 rfl (lv_at hl 1 rfl) ?_
  refine os_ialdN (K := 2) (i := 0) (t0 := 0) (n := a) hx hb hK hV rfl rfl rfl (hA.n 2 (by decide)) rfl (by rw [show os_l σ 2 0 = 20 from hA.l2]; exact ha) (by rw [show os_l σ 2 0 = 20 from hA.l2]; decide) d_Track_areConnected_5 ?_
  refine lv_iload_n hx hb d_Track_areConnected_6 rfl (lv_at hl 2 rfl) ?_
  refine os_call (c_RF_holds l hlt D cA bs σ ad (os_g σ 2 a 0) x) hE hV k_373 k_1 (os_inSN (n := 2) (bytes := prog_1_method_30_code) (maxL := 2) (ret := (some .boolean)) hx hb hown (hts _ k_371) (hts _ k_372) (hts _ k_1) (hts _ k_373) (by decide +kernel) rfl rfl d_Track_areConnected_7) (hl.1.trans hml.symm) (Nat.le_of_ble_eq_true rfl) (Nat.le_of_ble_eq_true rfl) (Nat.le_of_ble_eq_true rfl) (Nat.le_of_ble_eq_true rfl) (Nat.le_of_ble_eq_true rfl) (fun v σ1 ad1 H locs hp hext hV => ?_) (fun E q ce σ1 ad1 H locs hp hext hV hce hcv hcl => ?_)
  · obtain ⟨rfl, rfl, hp⟩ := hp
    cases hp
    refine W.eq (g2 := F0 m 10 ls [.int (bz (rf_holds (os_g σ 2 a 0) x))]) rfl ?_
    refine os_zret hx hb hr (bz_nar _) hlocks hV (Nat.le_of_ble_eq_true rfl) (Nat.le_of_ble_eq_true rfl) d_Track_areConnected_10 ?_
    exact ⟨rfl, rfl, rfl⟩
  · exact absurd hp.2.2 (fun h => by cases h)
set_option maxHeartbeats 4000000 in
set_option maxRecDepth 100000 in
theorem c_RF_needPiece (l : Launch) (hlt : l.stackTraces = false) (D : va_G) (cA : Nat → ClassId) (bs : Nat) (σ : os_S) (ad : Nat → Nat → Nat) (x : Int32) (hA : rfA σ) : os_Met l y_RF_needPiece prog_1_method_23_code 2 none { frames := 6, cells := 1, slots := 6, locals := 96 } D cA bs [.ref (ad 0 0), .int x] σ ad (pt σ ad (¬ x < 0 ∧ ¬ os_g σ 1 1 0 ≤ x) none "java/util/NoSuchElementException") := by
  refine os_ofW (by decide) ?_
  intro p e s m below meth c hx hb hr hml hown hlocks hmn hout hE hV
  have hts := hE.hts (args := ([.ref (ad 0 0), .int x] : List Value).toArray)
  have hK := hE.2.1
  have hbs := hE.2.2.1
  have hown : s.vm.findClass "RobotFaults" = some m.cls := hown
  have hl := lv_entry ([.ref (ad 0 0), .int x]) (n := 2) (Nat.le_of_ble_eq_true rfl)
  rw [lg_entry_eq]
  generalize (lg_sl ([.ref (ad 0 0), .int x]) ++ List.replicate (2 - (lg_sl ([.ref (ad 0 0), .int x])).length) Slot.unset).toArray = ls at hl ⊢
  have hl : lv_has ls 2 [(0, .ref (ad 0 0)), (1, .int x)] := hl
  refine lv_aload_n hx hb d_RF_needPiece_0 rfl (lv_at hl 0 rfl) ?_
  refine os_get (C := "RobotFaults") (T := F_RF) (N := 11) (ci := 0) (K := 0) (j := 0) (i := 0) (v := .ref (ad 1 0)) hx hb hts i_RF hown hK hV rfl rfl (by decide) (hA.n 0 (by decide)) (hts _ k_68) (congrArg (fun z => va_rf (Option.map (ad 1) z)) (hA.r 0 (by decide))) d_RF_needPiece_1 ?_
  refine lv_iload_n hx hb d_RF_needPiece_4 rfl (lv_at hl 1 rfl) ?_
  refine os_call (c_Track_has l hlt D cA bs σ ad x hA) hE hV k_244 k_2 (os_inV (C := "RobotFaults$Track") (n := 1) (bytes := prog_7_method_4_code) (maxL := 2) (ret := (some .boolean)) hx hb hown (hts _ k_241) (hts _ k_242) (hts _ k_243) (hts _ k_244) (by decide +kernel) rfl (os_recv hK hV rfl rfl (hA.n 1 (by decide))) rfl d_RF_needPiece_5) (hl.1.trans hml.symm) (Nat.le_of_ble_eq_true rfl) (Nat.le_of_ble_eq_true rfl) (Nat.le_of_ble_eq_true rfl) (Nat.le_of_ble_eq_true rfl) (Nat.le_of_ble_eq_true rfl) (fun v σ1 ad1 H locs hp hext hV => ?_) (fun E q ce σ1 ad1 H locs hp hext hV hce hcv hcl => ?_)
  · obtain ⟨rfl, rfl, hp⟩ := hp
    cases hp
    refine W.eq (g2 := F0 m 8 ls [.int (bz (decide (¬ x < 0 ∧ ¬ os_g σ 1 1 0 ≤ x)))]) rfl ?_
    refine lv_if_ne (tgt := 22) hx hb d_RF_needPiece_8 (by decide) (fun c_1 => ?_) (fun c_1 => ?_)
    · skip
      refine os_vret hx hb hr hlocks hV (Nat.le_of_ble_eq_true rfl) (Nat.le_of_ble_eq_true rfl) d_RF_needPiece_22 ?_
      exact ⟨rfl, rfl, Or.inl ⟨(of_decide_eq_true (bz_1 c_1)), rfl⟩⟩
    · skip
      refine os_throwNW (text := "there is no such piece") hx hb hlt hown hE hV k_245 k_9 (by decide +kernel) (hl.1.trans hml.symm) d_RF_needPiece_11 d_RF_needPiece_14 d_RF_needPiece_15 d_RF_needPiece_18 d_RF_needPiece_21 hout hlocks (Nat.le_of_ble_eq_true rfl) (Nat.le_of_ble_eq_true rfl) (Nat.le_of_ble_eq_true rfl) (Nat.le_of_ble_eq_true rfl) (Nat.le_of_ble_eq_true rfl) (Nat.le_of_ble_eq_true rfl) ?_
      exact ⟨rfl, rfl, Or.inr ⟨(of_decide_eq_false (bz_0 (by simpa using c_1))), rfl⟩⟩
  · exact absurd hp.2.2 (fun h => by cases h)
