/-! THE WAYS OF THE LOST; the first alarm -/
/-- the neighbours of a set of pieces, among the first -/
def arF (σ : os_S) (x : Int32) : Nat → Int32
  | 0 => 0
  | j + 1 => if rf_holds x (nI j) = true then arF σ x j ||| os_g σ 2 j 0 else arF σ x j
/-- what is reached by so many links -/
def rch (σ : os_S) (z : Nat) (x : Int32) : Nat → Int32
  | 0 => x
  | n + 1 => rch σ z x n ||| arF σ (rch σ z x n) z
/-- the first number at which something holds -/
def fl (P : Nat → Bool) : Nat → Nat → Nat
  | 0, j => j
  | n + 1, j => if P j = true then j else fl P n (j + 1)
theorem fl_hit {P : Nat → Bool} {n j : Nat} (h : P j = true) : fl P n j = j := by
  cases n with
  | zero => rfl
  | succ n => rw [fl, if_pos h]
theorem fl_mis {P : Nat → Bool} {j : Nat} (h : ¬ P j = true) (hj : j < 20) : fl P (20 - (j + 1)) (j + 1) = fl P (20 - j) j := by
  rw [show 20 - j = (20 - (j + 1)) + 1 by omega, fl, if_neg h]
def flP (σ : os_S) (z : Nat) (x y : Int32) (k : Nat) : Bool := rf_holds (rch σ z ((1 : Int32) <<< (x &&& 31)) (min k 20)) y
/-- the place of a piece in a set -/
def zn (x : Int32) : Nat → Nat → Int32 → Int32
  | 0, _, _ => -1
  | n + 1, p, l => if rf_holds x (nI p) = true then (if l = 0 then nI p else zn x n (p + 1) (l + (-1))) else zn x n (p + 1) l
theorem zn_no {x l : Int32} {j : Nat} (h : ¬ rf_holds x (nI j) = true) (hj : j < 20) : zn x (20 - (j + 1)) (j + 1) l = zn x (20 - j) j l := by
  rw [show 20 - j = (20 - (j + 1)) + 1 by omega, zn, if_neg h]
theorem zn_yes {x l : Int32} {j : Nat} (h : rf_holds x (nI j) = true) (hl : ¬ l = 0) (hj : j < 20) : zn x (20 - (j + 1)) (j + 1) (l + (-1)) = zn x (20 - j) j l := by
  rw [show 20 - j = (20 - (j + 1)) + 1 by omega, zn, if_pos h, if_neg hl]
theorem zn_here {x l : Int32} {j : Nat} (h : rf_holds x (nI j) = true) (hl : l = 0) (hj : j < 20) : zn x (20 - j) j l = nI j := by
  rw [show 20 - j = (20 - (j + 1)) + 1 by omega, zn, if_pos h, if_pos hl]
set_option maxHeartbeats 4000000 in
set_option maxRecDepth 100000 in
theorem c_Track_around (l : Launch) (hlt : l.stackTraces = false) (D : va_G) (cA : Nat → ClassId) (bs : Nat) (σ : os_S) (ad : Nat → Nat → Nat) (x : Int32) (z : Nat) (hA : rfA σ) (hz : os_g σ 1 1 0 = nI z) (hz2 : z ≤ 20) : os_Met l y_Track_around prog_7_method_10_code 4 (some .int) { frames := 1, cells := 0, slots := 0, locals := 21 } D cA bs [.ref (ad 1 0), .int x] σ ad (pv σ ad (some (.int (arF σ x z)))) := by
  refine os_ofW (by decide) ?_
  intro p e s m below meth c hx hb hr hml hown hlocks hmn hout hE hV
  have hts := hE.hts (args := ([.ref (ad 1 0), .int x] : List Value).toArray)
  have hK := hE.2.1
  have hbs := hE.2.2.1
  have hown : s.vm.findClass "RobotFaults$Track" = some m.cls := hown
  have hl := lv_entry ([.ref (ad 1 0), .int x]) (n := 4) (Nat.le_of_ble_eq_true rfl)
  rw [lg_entry_eq]
  generalize (lg_sl ([.ref (ad 1 0), .int x]) ++ List.replicate (4 - (lg_sl ([.ref (ad 1 0), .int x])).length) Slot.unset).toArray = ls at hl ⊢
  have hl : lv_has ls 4 [(0, .ref (ad 1 0)), (1, .int x)] := hl
  refine lv_iconst (v := 0) hx hb d_Track_around_0 (by decide) ?_
  refine lv_istore_n (lv' := [(2, .int 0), (0, .ref (ad 1 0)), (1, .int x)]) hx hb d_Track_around_1 rfl hl (by decide) rfl (fun ls hl => ?_)
  refine lv_iconst (v := 0) hx hb d_Track_around_2 (by decide) ?_
  refine lv_istore_n (lv' := [(3, .int 0), (2, .int 0), (0, .ref (ad 1 0)), (1, .int x)]) hx hb d_Track_around_3 rfl hl (by decide) rfl (fun ls hl => ?_)
  have loop : ∀ (n j : Nat) (a : Int32) (ls : Array Slot) (H : Heap) (locs : List Loc), j ≤ z → z < j + n → a = arF σ x j → os_V D cA bs σ ad s σ ad H locs → lv_has ls 4 [(0, .ref (ad 1 0)), (1, .int x), (2, .int a), (3, .int (nI j))] → W p l e { frames := 1, cells := 0, slots := 0, locals := 21 } s m ([.ref (ad 1 0), .int x] : List Value).toArray below meth c H locs (0) (0) (os_End D cA bs below s σ ad { frames := 1, cells := 0, slots := 0, locals := 21 } (pv σ ad (some (.int (arF σ x z))))) (F0 m 4 ls []) := by
    intro n
    induction n with
    | zero => intro j a ls H locs h1 h2; exact absurd h2 (by omega)
    | succ n loop_ih =>
      intro j a ls H locs loop_j loop_n loop_i hV hl
      refine lv_iload_n hx hb d_Track_around_4 rfl (lv_at hl 3 rfl) ?_
      refine lv_aload_n hx hb d_Track_around_5 rfl (lv_at hl 0 rfl) ?_
      refine os_get (C := "RobotFaults$Track") (T := F_Track) (N := 2) (ci := 1) (K := 1) (j := 1) (i := 0) (v := .int (os_g σ 1 1 0)) hx hb hts i_Track hown hK hV rfl rfl (by decide) (hA.n 1 (by decide)) (hts _ k_33) rfl d_Track_around_6 ?_
      refine lv_icmp_ge (tgt := 35) hx hb d_Track_around_9 (by decide) (fun c_1 => ?_) (fun c_1 => ?_)
      · skip
        refine lv_iload_n hx hb d_Track_around_35 rfl (lv_at hl 2 rfl) ?_
        refine os_iret hx hb hr hlocks hV (Nat.le_of_ble_eq_true rfl) (Nat.le_of_ble_eq_true rfl) d_Track_around_36 ?_
        have hj := eq_of_le c_1 loop_j hz (by omega)
        subst hj
        exact ⟨rfl, rfl, by rw [loop_i]⟩
      · skip
        refine lv_iload_n hx hb d_Track_around_12 rfl (lv_at hl 1 rfl) ?_
        refine lv_iload_n hx hb d_Track_around_13 rfl (lv_at hl 3 rfl) ?_
        refine os_call (c_RF_holds l hlt D cA bs σ ad x (nI j)) hE hV k_373 k_1 (os_inSN (n := 2) (bytes := prog_1_method_30_code) (maxL := 2) (ret := (some .boolean)) hx hb hown (hts _ k_371) (hts _ k_372) (hts _ k_1) (hts _ k_373) (by decide +kernel) rfl rfl d_Track_around_14) (hl.1.trans hml.symm) (Nat.le_of_ble_eq_true rfl) (Nat.le_of_ble_eq_true rfl) (Nat.le_of_ble_eq_true rfl) (Nat.le_of_ble_eq_true rfl) (Nat.le_of_ble_eq_true rfl) (fun v σ1 ad1 H locs hp hext hV => ?_) (fun E q ce σ1 ad1 H locs hp hext hV hce hcv hcl => ?_)
        · obtain ⟨rfl, rfl, hp⟩ := hp
          cases hp
          refine W.eq (g2 := F0 m 17 ls [.int (bz (rf_holds x (nI j)))]) rfl ?_
          refine lv_if_eq (tgt := 29) hx hb d_Track_around_17 (by decide) (fun c_2 => ?_) (fun c_2 => ?_)
          · skip
            refine lv_iinc (v := nI (j + 1)) (lv' := [(3, .int (nI (j + 1))), (0, .ref (ad 1 0)), (1, .int x), (2, .int a)]) hx hb d_Track_around_29 hl (k := 3) rfl (nI_1 j) (by decide) rfl (fun ls hl => ?_)
            refine lv_goto (tgt := 4) hx hb d_Track_around_32 (by decide) ?_
            exact loop_ih (j + 1) a ls H locs (Nat.succ_le_of_lt (lt_of_nle c_1 loop_j hz (by omega))) (by omega) (by rw [arF, if_neg (fun h => bz_t c_2 h), loop_i]) hV (lv_sub hl [1, 2, 3, 0] rfl)
          · skip
            refine lv_iload_n hx hb d_Track_around_20 rfl (lv_at hl 2 rfl) ?_
            refine lv_aload_n hx hb d_Track_around_21 rfl (lv_at hl 0 rfl) ?_
            refine os_get (C := "RobotFaults$Track") (T := F_Track) (N := 2) (ci := 1) (K := 1) (j := 0) (i := 0) (v := .ref (ad 2 0)) hx hb hts i_Track hown hK hV rfl rfl (by decide) (hA.n 1 (by decide)) (hts _ k_32) (congrArg (fun z => va_rf (Option.map (ad 2) z)) hA.t) d_Track_around_22 ?_
            refine lv_iload_n hx hb d_Track_around_25 rfl (lv_at hl 3 rfl) ?_
            refine os_ialdN (K := 2) (i := 0) (t0 := 0) (n := j) hx hb hK hV rfl rfl rfl (hA.n 2 (by decide)) rfl (by rw [show os_l σ 2 0 = 20 from hA.l2]; exact (Nat.lt_of_lt_of_le (lt_of_nle c_1 loop_j hz (by omega)) hz2)) (by rw [show os_l σ 2 0 = 20 from hA.l2]; decide) d_Track_around_26 ?_
            refine lv_ior hx hb d_Track_around_27 ?_
            refine lv_istore_n (lv' := [(2, .int (a ||| (os_g σ 2 j 0))), (0, .ref (ad 1 0)), (1, .int x), (3, .int (nI j))]) hx hb d_Track_around_28 rfl hl (by decide) rfl (fun ls hl => ?_)
            refine lv_iinc (v := nI (j + 1)) (lv' := [(3, .int (nI (j + 1))), (2, .int (a ||| (os_g σ 2 j 0))), (0, .ref (ad 1 0)), (1, .int x)]) hx hb d_Track_around_29 hl (k := 3) rfl (nI_1 j) (by decide) rfl (fun ls hl => ?_)
            refine lv_goto (tgt := 4) hx hb d_Track_around_32 (by decide) ?_
            exact loop_ih (j + 1) (a ||| (os_g σ 2 j 0)) ls H locs (Nat.succ_le_of_lt (lt_of_nle c_1 loop_j hz (by omega))) (by omega) (by rw [arF, if_pos (bz_1 c_2), loop_i]) hV (lv_sub hl [2, 3, 1, 0] rfl)
        · exact absurd hp.2.2 (fun h => by cases h)
  exact loop (z + 1) 0 0 ls _ _ (by omega) (by omega) rfl hV (lv_sub hl [2, 3, 1, 0] rfl)
set_option maxHeartbeats 4000000 in
set_option maxRecDepth 100000 in
theorem c_Track_reach (l : Launch) (hlt : l.stackTraces = false) (D : va_G) (cA : Nat → ClassId) (bs : Nat) (σ : os_S) (ad : Nat → Nat → Nat) (x : Int32) (q z : Nat) (hA : rfA σ) (hz : os_g σ 1 1 0 = nI z) (hz2 : z ≤ 20) (hq : q < 2 ^ 31) : os_Met l y_Track_reach prog_7_method_8_code 5 (some .int) { frames := 2, cells := 0, slots := 0, locals := 44 } D cA bs [.ref (ad 1 0), .int x, .int (nI q)] σ ad (pv σ ad (some (.int (rch σ z ((1 : Int32) <<< (x &&& 31)) (min q 20))))) := by
  refine os_ofW (by decide) ?_
  intro p e s m below meth c hx hb hr hml hown hlocks hmn hout hE hV
  have hts := hE.hts (args := ([.ref (ad 1 0), .int x, .int (nI q)] : List Value).toArray)
  have hK := hE.2.1
  have hbs := hE.2.2.1
  have hown : s.vm.findClass "RobotFaults$Track" = some m.cls := hown
  have hl := lv_entry ([.ref (ad 1 0), .int x, .int (nI q)]) (n := 5) (Nat.le_of_ble_eq_true rfl)
  rw [lg_entry_eq]
  generalize (lg_sl ([.ref (ad 1 0), .int x, .int (nI q)]) ++ List.replicate (5 - (lg_sl ([.ref (ad 1 0), .int x, .int (nI q)])).length) Slot.unset).toArray = ls at hl ⊢
  have hl : lv_has ls 5 [(0, .ref (ad 1 0)), (1, .int x), (2, .int (nI q))] := hl
  refine lv_iconst (v := 1) hx hb d_Track_reach_0 (by decide) ?_
  refine lv_iload_n hx hb d_Track_reach_1 rfl (lv_at hl 1 rfl) ?_
  refine lv_ishl hx hb d_Track_reach_2 ?_
  refine lv_istore_n (lv' := [(3, .int (1 <<< (x &&& 31))), (0, .ref (ad 1 0)), (1, .int x), (2, .int (nI q))]) hx hb d_Track_reach_3 rfl hl (by decide) rfl (fun ls hl => ?_)
  refine lv_iconst (v := 0) hx hb d_Track_reach_4 (by decide) ?_
  refine lv_istore (lv' := [(4, .int 0), (3, .int (1 <<< (x &&& 31))), (0, .ref (ad 1 0)), (1, .int x), (2, .int (nI q))]) hx hb d_Track_reach_5 hl (by decide) rfl (fun ls hl => ?_)
  have loop : ∀ (n j : Nat) (a : Int32) (ls : Array Slot) (H : Heap) (locs : List Loc), j ≤ (min q 20) → (min q 20) < j + n → a = rch σ z ((1 : Int32) <<< (x &&& 31)) j → os_V D cA bs σ ad s σ ad H locs → lv_has ls 5 [(0, .ref (ad 1 0)), (1, .int x), (2, .int (nI q)), (3, .int a), (4, .int (nI j))] → W p l e { frames := 2, cells := 0, slots := 0, locals := 44 } s m ([.ref (ad 1 0), .int x, .int (nI q)] : List Value).toArray below meth c H locs (0) (0) (os_End D cA bs below s σ ad { frames := 2, cells := 0, slots := 0, locals := 44 } (pv σ ad (some (.int (rch σ z ((1 : Int32) <<< (x &&& 31)) (min q 20)))))) (F0 m 7 ls []) := by
    intro n
    induction n with
    | zero => intro j a ls H locs h1 h2; exact absurd h2 (by omega)
    | succ n loop_ih =>
      intro j a ls H locs loop_j loop_n loop_i hV hl
      refine lv_iload hx hb d_Track_reach_7 (lv_at hl 4 rfl) ?_
      refine lv_iload_n hx hb d_Track_reach_9 rfl (lv_at hl 2 rfl) ?_
      refine lv_icmp_ge (tgt := 34) hx hb d_Track_reach_10 (by decide) (fun c_1 => ?_) (fun c_1 => ?_)
      · skip
        refine lv_iload_n hx hb d_Track_reach_34 rfl (lv_at hl 3 rfl) ?_
        refine os_iret hx hb hr hlocks hV (Nat.le_of_ble_eq_true rfl) (Nat.le_of_ble_eq_true rfl) d_Track_reach_35 ?_
        have hj : j = min q 20 := by have h1 := eq_of_le c_1 (Nat.le_trans loop_j (Nat.min_le_left _ _)) rfl hq; omega
        rw [← hj, ← loop_i]
        exact ⟨rfl, rfl, rfl⟩
      · skip
        refine lv_iload hx hb d_Track_reach_13 (lv_at hl 4 rfl) ?_
        refine lv_bipush (v := 20) hx hb d_Track_reach_15 (by decide) ?_
        refine lv_icmp_ge (tgt := 34) hx hb d_Track_reach_17 (by decide) (fun c_2 => ?_) (fun c_2 => ?_)
        · skip
          refine lv_iload_n hx hb d_Track_reach_34 rfl (lv_at hl 3 rfl) ?_
          refine os_iret hx hb hr hlocks hV (Nat.le_of_ble_eq_true rfl) (Nat.le_of_ble_eq_true rfl) d_Track_reach_35 ?_
          have hj : j = min q 20 := by have h1 := eq_of_le c_2 (Nat.le_trans loop_j (Nat.min_le_right _ _)); omega
          rw [← hj, ← loop_i]
          exact ⟨rfl, rfl, rfl⟩
        · skip
          refine lv_iload_n hx hb d_Track_reach_20 rfl (lv_at hl 3 rfl) ?_
          refine lv_aload_n hx hb d_Track_reach_21 rfl (lv_at hl 0 rfl) ?_
          refine lv_iload_n hx hb d_Track_reach_22 rfl (lv_at hl 3 rfl) ?_
          refine os_call (c_Track_around l hlt D cA bs σ ad a z hA hz hz2) hE hV k_590 k_2 (os_inV (C := "RobotFaults$Track") (n := 1) (bytes := prog_7_method_10_code) (maxL := 4) (ret := (some .int)) hx hb hown (hts _ k_587) (hts _ k_589) (hts _ k_s15) (hts _ k_590) (by decide +kernel) rfl (os_recv hK hV rfl rfl (hA.n 1 (by decide))) rfl d_Track_reach_23) (hl.1.trans hml.symm) (Nat.le_of_ble_eq_true rfl) (Nat.le_of_ble_eq_true rfl) (Nat.le_of_ble_eq_true rfl) (Nat.le_of_ble_eq_true rfl) (Nat.le_of_ble_eq_true rfl) (fun v σ1 ad1 H locs hp hext hV => ?_) (fun E q ce σ1 ad1 H locs hp hext hV hce hcv hcl => ?_)
          · obtain ⟨rfl, rfl, hp⟩ := hp
            cases hp
            refine W.eq (g2 := F0 m 26 ls [.int (arF σ a z), .int a]) rfl ?_
            refine lv_ior hx hb d_Track_reach_26 ?_
            refine lv_istore_n (lv' := [(3, .int (a ||| (arF σ a z))), (0, .ref (ad 1 0)), (1, .int x), (2, .int (nI q)), (4, .int (nI j))]) hx hb d_Track_reach_27 rfl hl (by decide) rfl (fun ls hl => ?_)
            refine lv_iinc (v := nI (j + 1)) (lv' := [(4, .int (nI (j + 1))), (3, .int (a ||| (arF σ a z))), (0, .ref (ad 1 0)), (1, .int x), (2, .int (nI q))]) hx hb d_Track_reach_28 hl (k := 4) rfl (nI_1 j) (by decide) rfl (fun ls hl => ?_)
            refine lv_goto (tgt := 7) hx hb d_Track_reach_31 (by decide) ?_
            exact loop_ih (j + 1) (a ||| (arF σ a z)) ls H locs (Nat.succ_le_of_lt (Nat.lt_min.mpr ⟨lt_of_nle c_1 (Nat.le_trans loop_j (Nat.min_le_left _ _)) rfl hq, lt_of_nle c_2 (Nat.le_trans loop_j (Nat.min_le_right _ _))⟩)) (by omega) (by rw [rch, ← loop_i]) hV (lv_sub hl [2, 3, 4, 1, 0] rfl)
          · exact absurd hp.2.2 (fun h => by cases h)
  exact loop ((min q 20) + 1) 0 (1 <<< (x &&& 31)) ls _ _ (by omega) (by omega) rfl hV (lv_sub hl [2, 3, 4, 1, 0] rfl)
set_option maxHeartbeats 4000000 in
set_option maxRecDepth 100000 in
theorem c_Track_fewestLinks (l : Launch) (hlt : l.stackTraces = false) (D : va_G) (cA : Nat → ClassId) (bs : Nat) (σ : os_S) (ad : Nat → Nat → Nat) (x y : Int32) (z : Nat) (hA : rfA σ) (hz : os_g σ 1 1 0 = nI z) (hz2 : z ≤ 20) : os_Met l y_Track_fewestLinks prog_7_method_9_code 4 (some .int) { frames := 3, cells := 0, slots := 0, locals := 68 } D cA bs [.ref (ad 1 0), .int x, .int y] σ ad (pv σ ad (some (.int (nI (fl (flP σ z x y) 20 0))))) := by
  refine os_ofW (by decide) ?_
  intro p e s m below meth c hx hb hr hml hown hlocks hmn hout hE hV
  have hts := hE.hts (args := ([.ref (ad 1 0), .int x, .int y] : List Value).toArray)
  have hK := hE.2.1
  have hbs := hE.2.2.1
  have hown : s.vm.findClass "RobotFaults$Track" = some m.cls := hown
  have hl := lv_entry ([.ref (ad 1 0), .int x, .int y]) (n := 4) (Nat.le_of_ble_eq_true rfl)
  rw [lg_entry_eq]
  generalize (lg_sl ([.ref (ad 1 0), .int x, .int y]) ++ List.replicate (4 - (lg_sl ([.ref (ad 1 0), .int x, .int y])).length) Slot.unset).toArray = ls at hl ⊢
  have hl : lv_has ls 4 [(0, .ref (ad 1 0)), (1, .int x), (2, .int y)] := hl
  refine lv_iconst (v := 0) hx hb d_Track_fewestLinks_0 (by decide) ?_
  refine lv_istore_n (lv' := [(3, .int 0), (0, .ref (ad 1 0)), (1, .int x), (2, .int y)]) hx hb d_Track_fewestLinks_1 rfl hl (by decide) rfl (fun ls hl => ?_)
  have loop : ∀ (n j : Nat)  (ls : Array Slot) (H : Heap) (locs : List Loc), j ≤ 20 → 20 < j + n → fl (flP σ z x y) (20 - j) j = fl (flP σ z x y) 20 0 → os_V D cA bs σ ad s σ ad H locs → lv_has ls 4 [(0, .ref (ad 1 0)), (1, .int x), (2, .int y), (3, .int (nI j))] → W p l e { frames := 3, cells := 0, slots := 0, locals := 68 } s m ([.ref (ad 1 0), .int x, .int y] : List Value).toArray below meth c H locs (0) (0) (os_End D cA bs below s σ ad { frames := 3, cells := 0, slots := 0, locals := 68 } (pv σ ad (some (.int (nI (fl (flP σ z x y) 20 0)))))) (F0 m 2 ls []) := by
    intro n
    induction n with
    | zero => intro j  ls H locs h1 h2; exact absurd h2 (by omega)
    | succ n loop_ih =>
      intro j  ls H locs loop_j loop_n loop_i hV hl
      refine lv_iload_n hx hb d_Track_fewestLinks_2 rfl (lv_at hl 3 rfl) ?_
      refine lv_bipush (v := 20) hx hb d_Track_fewestLinks_3 (by decide) ?_
      refine lv_icmp_ge (tgt := 27) hx hb d_Track_fewestLinks_5 (by decide) (fun c_1 => ?_) (fun c_1 => ?_)
      · skip
        refine lv_iload_n hx hb d_Track_fewestLinks_27 rfl (lv_at hl 3 rfl) ?_
        refine os_iret hx hb hr hlocks hV (Nat.le_of_ble_eq_true rfl) (Nat.le_of_ble_eq_true rfl) d_Track_fewestLinks_28 ?_
        have hj := eq_of_le c_1 loop_j
        subst hj
        exact ⟨rfl, rfl, by rw [← loop_i]; rfl⟩
      · skip
        refine lv_aload_n hx hb d_Track_fewestLinks_8 rfl (lv_at hl 0 rfl) ?_
        refine lv_iload_n hx hb d_Track_fewestLinks_9 rfl (lv_at hl 1 rfl) ?_
        refine lv_iload_n hx hb d_Track_fewestLinks_10 rfl (lv_at hl 3 rfl) ?_
        refine os_call (c_Track_reach l hlt D cA bs σ ad x j z hA hz hz2 (by have := loop_j; omega)) hE hV k_586 k_2 (os_inV (C := "RobotFaults$Track") (n := 2) (bytes := prog_7_method_8_code) (maxL := 5) (ret := (some .int)) hx hb hown (hts _ k_603) (hts _ k_584) (hts _ k_585) (hts _ k_586) (by decide +kernel) rfl (os_recv hK hV rfl rfl (hA.n 1 (by decide))) rfl d_Track_fewestLinks_11) (hl.1.trans hml.symm) (Nat.le_of_ble_eq_true rfl) (Nat.le_of_ble_eq_true rfl) (Nat.le_of_ble_eq_true rfl) (Nat.le_of_ble_eq_true rfl) (Nat.le_of_ble_eq_true rfl) (fun v σ1 ad1 H locs hp hext hV => ?_) (fun E q ce σ1 ad1 H locs hp hext hV hce hcv hcl => ?_)
        · obtain ⟨rfl, rfl, hp⟩ := hp
          cases hp
          refine W.eq (g2 := F0 m 14 ls [.int (rch σ z ((1 : Int32) <<< (x &&& 31)) (min j 20))]) rfl ?_
          refine lv_iload_n hx hb d_Track_fewestLinks_14 rfl (lv_at hl 2 rfl) ?_
          refine os_call (c_RF_holds l hlt D cA bs σ ad (rch σ z ((1 : Int32) <<< (x &&& 31)) (min j 20)) y) hE hV k_373 k_1 (os_inSN (n := 2) (bytes := prog_1_method_30_code) (maxL := 2) (ret := (some .boolean)) hx hb hown (hts _ k_371) (hts _ k_372) (hts _ k_1) (hts _ k_373) (by decide +kernel) rfl rfl d_Track_fewestLinks_15) (hl.1.trans hml.symm) (Nat.le_of_ble_eq_true rfl) (Nat.le_of_ble_eq_true rfl) (Nat.le_of_ble_eq_true rfl) (Nat.le_of_ble_eq_true rfl) (Nat.le_of_ble_eq_true rfl) (fun v σ1 ad1 H locs hp hext hV => ?_) (fun E q ce σ1 ad1 H locs hp hext hV hce hcv hcl => ?_)
          · obtain ⟨rfl, rfl, hp⟩ := hp
            cases hp
            refine W.eq (g2 := F0 m 18 ls [.int (bz (rf_holds (rch σ z ((1 : Int32) <<< (x &&& 31)) (min j 20)) y))]) rfl ?_
            refine lv_if_ne (tgt := 27) hx hb d_Track_fewestLinks_18 (by decide) (fun c_2 => ?_) (fun c_2 => ?_)
            · skip
              refine lv_iload_n hx hb d_Track_fewestLinks_27 rfl (lv_at hl 3 rfl) ?_
              refine os_iret hx hb hr hlocks hV (Nat.le_of_ble_eq_true rfl) (Nat.le_of_ble_eq_true rfl) d_Track_fewestLinks_28 ?_
              exact ⟨rfl, rfl, by rw [← loop_i, fl_hit (P := flP σ z x y) (bz_1 c_2)]⟩
            · skip
              refine lv_iinc (v := nI (j + 1)) (lv' := [(3, .int (nI (j + 1))), (0, .ref (ad 1 0)), (1, .int x), (2, .int y)]) hx hb d_Track_fewestLinks_21 hl (k := 3) rfl (nI_1 j) (by decide) rfl (fun ls hl => ?_)
              refine lv_goto (tgt := 2) hx hb d_Track_fewestLinks_24 (by decide) ?_
              exact loop_ih (j + 1)  ls H locs (Nat.succ_le_of_lt (lt_of_nle c_1 loop_j)) (by omega) (by rw [fl_mis (P := flP σ z x y) (bz_t c_2) (lt_of_nle c_1 loop_j), loop_i]) hV (lv_sub hl [1, 2, 3, 0] rfl)
          · exact absurd hp.2.2 (fun h => by cases h)
        · exact absurd hp.2.2 (fun h => by cases h)
  exact loop (20 + 1) 0  ls _ _ (by omega) (by omega) rfl hV (lv_sub hl [1, 2, 3, 0] rfl)
def pol (σ : os_S) (z i q : Nat) : Int32 := rch σ z ((1 : Int32) <<< (os_g σ 9 1 i &&& 31)) (min q 20)
set_option maxHeartbeats 4000000 in
set_option maxRecDepth 100000 in
theorem c_RF_piecesOfLost (l : Launch) (hlt : l.stackTraces = false) (D : va_G) (cA : Nat → ClassId) (bs : Nat) (σ : os_S) (ad : Nat → Nat → Nat) (i q z : Nat) (hA : rfA σ) (hz : os_g σ 1 1 0 = nI z) (hz2 : z ≤ 20) (hi : i < os_n σ 9) (hq : q < 2 ^ 31) (hqe : (os_g σ 0 10 0 - os_g σ 9 5 i) / 10 = nI q) : os_Met l y_RF_piecesOfLost prog_1_method_39_code 2 (some .int) { frames := 3, cells := 0, slots := 0, locals := 68 } D cA bs [.ref (ad 0 0), .ref (ad 9 i)] σ ad (pv σ ad (some (.int (pol σ z i q)))) := by
  refine os_ofW (by decide) ?_
  intro p e s m below meth c hx hb hr hml hown hlocks hmn hout hE hV
  have hts := hE.hts (args := ([.ref (ad 0 0), .ref (ad 9 i)] : List Value).toArray)
  have hK := hE.2.1
  have hbs := hE.2.2.1
  have hown : s.vm.findClass "RobotFaults" = some m.cls := hown
  have hl := lv_entry ([.ref (ad 0 0), .ref (ad 9 i)]) (n := 2) (Nat.le_of_ble_eq_true rfl)
  rw [lg_entry_eq]
  generalize (lg_sl ([.ref (ad 0 0), .ref (ad 9 i)]) ++ List.replicate (2 - (lg_sl ([.ref (ad 0 0), .ref (ad 9 i)])).length) Slot.unset).toArray = ls at hl ⊢
  have hl : lv_has ls 2 [(0, .ref (ad 0 0)), (1, .ref (ad 9 i))] := hl
  refine lv_aload_n hx hb d_RF_piecesOfLost_0 rfl (lv_at hl 0 rfl) ?_
  refine os_get (C := "RobotFaults") (T := F_RF) (N := 11) (ci := 0) (K := 0) (j := 0) (i := 0) (v := .ref (ad 1 0)) hx hb hts i_RF hown hK hV rfl rfl (by decide) (hA.n 0 (by decide)) (hts _ k_68) (congrArg (fun z => va_rf (Option.map (ad 1) z)) (hA.r 0 (by decide))) d_RF_piecesOfLost_1 ?_
  refine lv_aload_n hx hb d_RF_piecesOfLost_4 rfl (lv_at hl 1 rfl) ?_
  refine os_getN (C := "RobotFaults$Robot") (T := F_Robot) (N := 6) (ci := 3) (K := 9) (j := 1) (i := i) (v := .int (os_g σ 9 1 i)) hx hb hts i_Robot hown hK hV rfl rfl (by decide) hi (hts _ k_298) rfl d_RF_piecesOfLost_5 ?_
  refine lv_aload_n hx hb d_RF_piecesOfLost_8 rfl (lv_at hl 0 rfl) ?_
  refine os_get (C := "RobotFaults") (T := F_RF) (N := 11) (ci := 0) (K := 0) (j := 10) (i := 0) (v := .int (os_g σ 0 10 0)) hx hb hts i_RF hown hK hV rfl rfl (by decide) (hA.n 0 (by decide)) (hts _ k_78) rfl d_RF_piecesOfLost_9 ?_
  refine lv_aload_n hx hb d_RF_piecesOfLost_12 rfl (lv_at hl 1 rfl) ?_
  refine os_getN (C := "RobotFaults$Robot") (T := F_Robot) (N := 6) (ci := 3) (K := 9) (j := 5) (i := i) (v := .int (os_g σ 9 5 i)) hx hb hts i_Robot hown hK hV rfl rfl (by decide) hi (hts _ k_307) rfl d_RF_piecesOfLost_13 ?_
  refine lv_isub hx hb d_RF_piecesOfLost_16 ?_
  refine lv_bipush (v := 10) hx hb d_RF_piecesOfLost_17 (by decide) ?_
  refine lv_idiv hx hb d_RF_piecesOfLost_19 (by decide) ?_
  rw [hqe]
  refine os_call (c_Track_reach l hlt D cA bs σ ad (os_g σ 9 1 i) q z hA hz hz2 hq) hE hV k_586 k_2 (os_inV (C := "RobotFaults$Track") (n := 2) (bytes := prog_7_method_8_code) (maxL := 5) (ret := (some .int)) hx hb hown (hts _ k_583) (hts _ k_584) (hts _ k_585) (hts _ k_586) (by decide +kernel) rfl (os_recv hK hV rfl rfl (hA.n 1 (by decide))) rfl d_RF_piecesOfLost_20) (hl.1.trans hml.symm) (Nat.le_of_ble_eq_true rfl) (Nat.le_of_ble_eq_true rfl) (Nat.le_of_ble_eq_true rfl) (Nat.le_of_ble_eq_true rfl) (Nat.le_of_ble_eq_true rfl) (fun v σ1 ad1 H locs hp hext hV => ?_) (fun E q ce σ1 ad1 H locs hp hext hV hce hcv hcl => ?_)
  · obtain ⟨rfl, rfl, hp⟩ := hp
    cases hp
    refine W.eq (g2 := F0 m 23 ls [.int (rch σ z ((1 : Int32) <<< ((os_g σ 9 1 i) &&& 31)) (min q 20))]) rfl ?_
    refine os_iret hx hb hr hlocks hV (Nat.le_of_ble_eq_true rfl) (Nat.le_of_ble_eq_true rfl) d_RF_piecesOfLost_23 ?_
    exact ⟨rfl, rfl, rfl⟩
  · exact absurd hp.2.2 (fun h => by cases h)
def q_zone (σ : os_S) (ad : Nat → Nat → Nat) (z : Nat) (x y : Int32) : os_O → os_S → (Nat → Nat → Nat) → Prop := fun r σ' ad' => ad = ad' ∧ σ = σ' ∧ ((noR σ x ∧ r = .inr "java/util/NoSuchElementException") ∨
  ∃ i, isR σ x i ∧ ((y < 0 ∧ r = .inr "java/lang/IllegalArgumentException") ∨ (¬ y < 0 ∧ ¬ os_g σ 9 2 i = 2 ∧ r = .inr "java/lang/IllegalStateException") ∨ (¬ y < 0 ∧ os_g σ 9 2 i = 2 ∧ ∃ q, q < 2 ^ 31 ∧ (os_g σ 0 10 0 - os_g σ 9 5 i) / 10 = nI q ∧ r = .inl (some (.int (zn (pol σ z i q) 20 0 y))))))
def q_found (σ : os_S) (ad : Nat → Nat → Nat) (z : Nat) (x y : Int32) : os_O → os_S → (Nat → Nat → Nat) → Prop := fun r σ' ad' => ad = ad' ∧ (((noR σ x ∨ ¬ isP σ y) ∧ σ = σ' ∧ r = .inr "java/util/NoSuchElementException") ∨
  ∃ i, isR σ x i ∧ isP σ y ∧ ((¬ os_g σ 9 2 i = 2 ∧ σ = σ' ∧ r = .inr "java/lang/IllegalStateException") ∨ (os_g σ 9 2 i = 2 ∧ ∃ q, q < 2 ^ 31 ∧ (os_g σ 0 10 0 - os_g σ 9 5 i) / 10 = nI q ∧ ((¬ rf_holds (pol σ z i q) y = true ∧ σ = σ' ∧ r = .inr "java/lang/IllegalStateException") ∨ (rf_holds (pol σ z i q) y = true ∧ os_sg (os_sg σ 9 2 i 1) 9 1 i y = σ' ∧ r = .inl (some (.int (nI (fl (flP σ z (os_g σ 9 1 i) y) 20 0)))))))))
set_option maxHeartbeats 4000000 in
set_option maxRecDepth 100000 in
theorem c_RF_zone (l : Launch) (hlt : l.stackTraces = false) (D : va_G) (cA : Nat → ClassId) (bs : Nat) (σ : os_S) (ad : Nat → Nat → Nat) (x y : Int32) (z : Nat) (hA : rfA σ) (hR : rfS σ 4 9 8 6) (hz : os_g σ 1 1 0 = nI z) (hz2 : z ≤ 20) (hLS : ∀ i, i < os_n σ 9 → ∃ q, q < 2 ^ 31 ∧ (os_g σ 0 10 0 - os_g σ 9 5 i) / 10 = nI q) : os_Met l y_RF_zone prog_1_method_12_code 7 (some .int) { frames := 7, cells := 3, slots := 18, locals := 118 } D cA bs [.ref (ad 0 0), .int x, .int y] σ ad (q_zone σ ad z x y) := by
  refine os_ofW (by decide) ?_
  intro p e s m below meth c hx hb hr hml hown hlocks hmn hout hE hV
  have hts := hE.hts (args := ([.ref (ad 0 0), .int x, .int y] : List Value).toArray)
  have hK := hE.2.1
  have hbs := hE.2.2.1
  have hown : s.vm.findClass "RobotFaults" = some m.cls := hown
  have hl := lv_entry ([.ref (ad 0 0), .int x, .int y]) (n := 7) (Nat.le_of_ble_eq_true rfl)
  rw [lg_entry_eq]
  generalize (lg_sl ([.ref (ad 0 0), .int x, .int y]) ++ List.replicate (7 - (lg_sl ([.ref (ad 0 0), .int x, .int y])).length) Slot.unset).toArray = ls at hl ⊢
  have hl : lv_has ls 7 [(0, .ref (ad 0 0)), (1, .int x), (2, .int y)] := hl
  refine lv_aload_n hx hb d_RF_zone_0 rfl (lv_at hl 0 rfl) ?_
  refine lv_iload_n hx hb d_RF_zone_1 rfl (lv_at hl 1 rfl) ?_
  refine os_call (c_RF_robotAt l hlt D cA bs σ ad x hA hR) hE hV k_349 k_1 (os_inV (C := "RobotFaults") (n := 1) (bytes := prog_1_method_24_code) (maxL := 3) (ret := (some (.object "RobotFaults$Robot"))) hx hb hown (hts _ k_346) (hts _ k_348) (hts _ k_s5) (hts _ k_349) (by decide +kernel) rfl (os_recv hK hV rfl rfl (hA.n 0 (by decide))) rfl d_RF_zone_2) (hl.1.trans hml.symm) (Nat.le_of_ble_eq_true rfl) (Nat.le_of_ble_eq_true rfl) (Nat.le_of_ble_eq_true rfl) (Nat.le_of_ble_eq_true rfl) (Nat.le_of_ble_eq_true rfl) (fun v σ1 ad1 H locs hp hext hV => ?_) (fun E q ce σ1 ad1 H locs hp hext hV hce hcv hcl => ?_)
  · obtain ⟨rfl, rfl, ⟨i_1, hi_2, hx_3, hp⟩ | ⟨hx_3, hp⟩⟩ := hp <;> cases hp
    refine W.eq (g2 := F0 m 5 ls [.ref (ad 9 i_1)]) rfl ?_
    refine lv_astore_n (lv' := [(3, .ref (ad 9 i_1)), (0, .ref (ad 0 0)), (1, .int x), (2, .int y)]) hx hb d_RF_zone_5 rfl hl (by decide) rfl (fun ls hl => ?_)
    refine lv_iload_n hx hb d_RF_zone_6 rfl (lv_at hl 3 rfl) ?_
    refine lv_if_ge (tgt := 20) hx hb d_RF_zone_7 (by decide) (fun c_4 => ?_) (fun c_4 => ?_)
    · skip
      refine lv_aload_n hx hb d_RF_zone_20 rfl (lv_at hl 0 rfl) ?_
      refine os_call (c_RF_needLost l hlt D cA bs σ ad i_1 hi_2) hE hV k_577 k_1 (os_inS (n := 1) (bytes := prog_1_method_29_code) (maxL := 1) (ret := none) hx hb hown (hts _ k_575) (hts _ k_576) (hts _ k_1) (hts _ k_577) (by decide +kernel) rfl rfl d_RF_zone_21) (hl.1.trans hml.symm) (Nat.le_of_ble_eq_true rfl) (Nat.le_of_ble_eq_true rfl) (Nat.le_of_ble_eq_true rfl) (Nat.le_of_ble_eq_true rfl) (Nat.le_of_ble_eq_true rfl) (fun v σ1 ad1 H locs hp hext hV => ?_) (fun E q ce σ1 ad1 H locs hp hext hV hce hcv hcl => ?_)
      · obtain ⟨rfl, rfl, ⟨g_5, hp⟩ | ⟨g_5, hp⟩⟩ := hp <;> cases hp
        refine W.eq (g2 := F0 m 24 ls []) rfl ?_
        refine lv_iload_n hx hb d_RF_zone_24 rfl (lv_at hl 3 rfl) ?_
        refine lv_istore (lv' := [(4, .int y), (3, .ref (ad 9 i_1)), (0, .ref (ad 0 0)), (1, .int x), (2, .int y)]) hx hb d_RF_zone_25 hl (by decide) rfl (fun ls hl => ?_)
        refine lv_aload_n hx hb d_RF_zone_27 rfl (lv_at hl 2 rfl) ?_
        refine lv_aload_n hx hb d_RF_zone_28 rfl (lv_at hl 1 rfl) ?_
        obtain ⟨q, hq, hqe⟩ := hLS i_1 hi_2
        refine os_call (c_RF_piecesOfLost l hlt D cA bs σ ad i_1 q z hA hz hz2 hi_2 hq hqe) hE hV k_582 k_1 (os_inV (C := "RobotFaults") (n := 1) (bytes := prog_1_method_39_code) (maxL := 2) (ret := (some .int)) hx hb hown (hts _ k_579) (hts _ k_581) (hts _ k_s14) (hts _ k_582) (by decide +kernel) rfl (os_recv hK hV rfl rfl (hA.n 0 (by decide))) rfl d_RF_zone_29) (hl.1.trans hml.symm) (Nat.le_of_ble_eq_true rfl) (Nat.le_of_ble_eq_true rfl) (Nat.le_of_ble_eq_true rfl) (Nat.le_of_ble_eq_true rfl) (Nat.le_of_ble_eq_true rfl) (fun v σ1 ad1 H locs hp hext hV => ?_) (fun E q ce σ1 ad1 H locs hp hext hV hce hcv hcl => ?_)
        · obtain ⟨rfl, rfl, hp⟩ := hp
          cases hp
          refine W.eq (g2 := F0 m 32 ls [.int (pol σ z i_1 q)]) rfl ?_
          refine lv_istore (lv' := [(5, .int (pol σ z i_1 q)), (4, .int y), (3, .ref (ad 9 i_1)), (0, .ref (ad 0 0)), (1, .int x), (2, .int y)]) hx hb d_RF_zone_32 hl (by decide) rfl (fun ls hl => ?_)
          refine lv_iconst (v := 0) hx hb d_RF_zone_34 (by decide) ?_
          refine lv_istore (lv' := [(6, .int 0), (5, .int (pol σ z i_1 q)), (4, .int y), (3, .ref (ad 9 i_1)), (0, .ref (ad 0 0)), (1, .int x), (2, .int y)]) hx hb d_RF_zone_35 hl (by decide) rfl (fun ls hl => ?_)
          have loop : ∀ (n j : Nat) (a : Int32) (ls : Array Slot) (H : Heap) (locs : List Loc), j ≤ 20 → 20 < j + n → zn (pol σ z i_1 q) (20 - j) j a = zn (pol σ z i_1 q) 20 0 y → os_V D cA bs σ ad s σ ad H locs → lv_has ls 7 [(0, .ref (ad 0 0)), (1, .int x), (2, .int y), (3, .ref (ad 9 i_1)), (4, .int a), (5, .int (pol σ z i_1 q)), (6, .int (nI j))] → W p l e { frames := 7, cells := 3, slots := 18, locals := 118 } s m ([.ref (ad 0 0), .int x, .int y] : List Value).toArray below meth c H locs ((0 + 1) + 1) ((0 + 6) + 6) (os_End D cA bs below s σ ad { frames := 7, cells := 3, slots := 18, locals := 118 } (q_zone σ ad z x y)) (F0 m 37 ls []) := by
            intro n
            induction n with
            | zero => intro j a ls H locs h1 h2; exact absurd h2 (by omega)
            | succ n loop_ih =>
              intro j a ls H locs loop_j loop_n loop_i hV hl
              refine lv_iload hx hb d_RF_zone_37 (lv_at hl 6 rfl) ?_
              refine lv_bipush (v := 20) hx hb d_RF_zone_39 (by decide) ?_
              refine lv_icmp_ge (tgt := 71) hx hb d_RF_zone_41 (by decide) (fun c_6 => ?_) (fun c_6 => ?_)
              · skip
                refine lv_iconst (v := (-1)) hx hb d_RF_zone_71 (by decide) ?_
                refine os_iret hx hb hr hlocks hV (Nat.le_of_ble_eq_true rfl) (Nat.le_of_ble_eq_true rfl) d_RF_zone_72 ?_
                have hj := eq_of_le c_6 loop_j
                subst hj
                exact ⟨rfl, rfl, Or.inr ⟨i_1, ⟨hi_2, hx_3⟩, Or.inr (Or.inr ⟨(by simpa using c_4), g_5, q, hq, hqe, by rw [← loop_i]; rfl⟩)⟩⟩
              · skip
                refine lv_iload hx hb d_RF_zone_44 (lv_at hl 5 rfl) ?_
                refine lv_iload hx hb d_RF_zone_46 (lv_at hl 6 rfl) ?_
                refine os_call (c_RF_holds l hlt D cA bs σ ad (pol σ z i_1 q) (nI j)) hE hV k_373 k_1 (os_inS (n := 2) (bytes := prog_1_method_30_code) (maxL := 2) (ret := (some .boolean)) hx hb hown (hts _ k_535) (hts _ k_372) (hts _ k_1) (hts _ k_373) (by decide +kernel) rfl rfl d_RF_zone_48) (hl.1.trans hml.symm) (Nat.le_of_ble_eq_true rfl) (Nat.le_of_ble_eq_true rfl) (Nat.le_of_ble_eq_true rfl) (Nat.le_of_ble_eq_true rfl) (Nat.le_of_ble_eq_true rfl) (fun v σ1 ad1 H locs hp hext hV => ?_) (fun E q ce σ1 ad1 H locs hp hext hV hce hcv hcl => ?_)
                · obtain ⟨rfl, rfl, hp⟩ := hp
                  cases hp
                  refine W.eq (g2 := F0 m 51 ls [.int (bz (rf_holds (pol σ z i_1 q) (nI j)))]) rfl ?_
                  refine lv_if_eq (tgt := 65) hx hb d_RF_zone_51 (by decide) (fun c_7 => ?_) (fun c_7 => ?_)
                  · skip
                    refine lv_iinc (v := nI (j + 1)) (lv' := [(6, .int (nI (j + 1))), (0, .ref (ad 0 0)), (1, .int x), (2, .int y), (3, .ref (ad 9 i_1)), (4, .int a), (5, .int (pol σ z i_1 q))]) hx hb d_RF_zone_65 hl (k := 6) rfl (nI_1 j) (by decide) rfl (fun ls hl => ?_)
                    refine lv_goto (tgt := 37) hx hb d_RF_zone_68 (by decide) ?_
                    exact loop_ih (j + 1) a ls H locs (Nat.succ_le_of_lt (lt_of_nle c_6 loop_j)) (by omega) (by rw [zn_no (bz_t c_7) (lt_of_nle c_6 loop_j), loop_i]) hV (lv_sub hl [1, 2, 3, 4, 5, 6, 0] rfl)
                  · skip
                    refine lv_iload hx hb d_RF_zone_54 (lv_at hl 4 rfl) ?_
                    refine lv_if_ne (tgt := 62) hx hb d_RF_zone_56 (by decide) (fun c_8 => ?_) (fun c_8 => ?_)
                    · skip
                      refine lv_iinc (v := a + (-1)) (lv' := [(4, .int (a + (-1))), (0, .ref (ad 0 0)), (1, .int x), (2, .int y), (3, .ref (ad 9 i_1)), (5, .int (pol σ z i_1 q)), (6, .int (nI j))]) hx hb d_RF_zone_62 hl (k := 4) rfl rfl (by decide) rfl (fun ls hl => ?_)
                      refine lv_iinc (v := nI (j + 1)) (lv' := [(6, .int (nI (j + 1))), (4, .int (a + (-1))), (0, .ref (ad 0 0)), (1, .int x), (2, .int y), (3, .ref (ad 9 i_1)), (5, .int (pol σ z i_1 q))]) hx hb d_RF_zone_65 hl (k := 6) rfl (nI_1 j) (by decide) rfl (fun ls hl => ?_)
                      refine lv_goto (tgt := 37) hx hb d_RF_zone_68 (by decide) ?_
                      exact loop_ih (j + 1) (a + (-1)) ls H locs (Nat.succ_le_of_lt (lt_of_nle c_6 loop_j)) (by omega) (by rw [zn_yes (bz_1 c_7) c_8 (lt_of_nle c_6 loop_j), loop_i]) hV (lv_sub hl [2, 3, 4, 5, 1, 6, 0] rfl)
                    · skip
                      refine lv_iload hx hb d_RF_zone_59 (lv_at hl 6 rfl) ?_
                      refine os_iret hx hb hr hlocks hV (Nat.le_of_ble_eq_true rfl) (Nat.le_of_ble_eq_true rfl) d_RF_zone_61 ?_
                      exact ⟨rfl, rfl, Or.inr ⟨i_1, ⟨hi_2, hx_3⟩, Or.inr (Or.inr ⟨(by simpa using c_4), g_5, q, hq, hqe, by rw [← loop_i, zn_here (bz_1 c_7) (by simpa using c_8) (lt_of_nle c_6 loop_j)]⟩)⟩⟩
                · exact absurd hp.2.2 (fun h => by cases h)
          exact loop (20 + 1) 0 y ls _ _ (by omega) (by omega) rfl hV (lv_sub hl [4, 5, 6, 3, 2, 1, 0] rfl)
        · exact absurd hp.2.2 (fun h => by cases h)
      · obtain ⟨rfl, rfl, ⟨g_5, hp⟩ | ⟨g_5, hp⟩⟩ := hp <;> cases hp
        refine os_out hout hlocks hV hce hcv hcl (Nat.le_of_ble_eq_true rfl) (Nat.le_of_ble_eq_true rfl) ?_
        exact ⟨rfl, rfl, Or.inr ⟨i_1, ⟨hi_2, hx_3⟩, Or.inr (Or.inl ⟨(by simpa using c_4), g_5, rfl⟩)⟩⟩
    · skip
      refine os_throw (own := "RobotFaults") (cls := "java/lang/IllegalArgumentException") (text := "places are counted from 0") (names := ["java/lang/RuntimeException", "java/lang/Exception"]) hx hb hlt hown (by decide) (by decide) hE hV k_261 k_10 (by decide +kernel) th_IllegalArgumentException (hl.1.trans hml.symm) d_RF_zone_10 d_RF_zone_13 d_RF_zone_14 d_RF_zone_16 d_RF_zone_19 hout hlocks (Nat.le_of_ble_eq_true rfl) (Nat.le_of_ble_eq_true rfl) (Nat.le_of_ble_eq_true rfl) (Nat.le_of_ble_eq_true rfl) (Nat.le_of_ble_eq_true rfl) (Nat.le_of_ble_eq_true rfl) ?_
      exact ⟨rfl, rfl, Or.inr ⟨i_1, ⟨hi_2, hx_3⟩, Or.inl ⟨(by simpa using c_4), rfl⟩⟩⟩
  · obtain ⟨rfl, rfl, ⟨i_1, hi_2, hx_3, hp⟩ | ⟨hx_3, hp⟩⟩ := hp <;> cases hp
    refine os_out hout hlocks hV hce hcv hcl (Nat.le_of_ble_eq_true rfl) (Nat.le_of_ble_eq_true rfl) ?_
    exact ⟨rfl, rfl, Or.inl ⟨hx_3, rfl⟩⟩
set_option maxHeartbeats 4000000 in
set_option maxRecDepth 100000 in
theorem c_RF_found (l : Launch) (hlt : l.stackTraces = false) (D : va_G) (cA : Nat → ClassId) (bs : Nat) (σ : os_S) (ad : Nat → Nat → Nat) (x y : Int32) (z : Nat) (hA : rfA σ) (hR : rfS σ 4 9 8 6) (hz : os_g σ 1 1 0 = nI z) (hz2 : z ≤ 20) (hLS : ∀ i, i < os_n σ 9 → ∃ q, q < 2 ^ 31 ∧ (os_g σ 0 10 0 - os_g σ 9 5 i) / 10 = nI q) : os_Met l y_RF_found prog_1_method_13_code 5 (some .int) { frames := 7, cells := 4, slots := 24, locals := 118 } D cA bs [.ref (ad 0 0), .int x, .int y] σ ad (q_found σ ad z x y) := by
  refine os_ofW (by decide) ?_
  intro p e s m below meth c hx hb hr hml hown hlocks hmn hout hE hV
  have hts := hE.hts (args := ([.ref (ad 0 0), .int x, .int y] : List Value).toArray)
  have hK := hE.2.1
  have hbs := hE.2.2.1
  have hown : s.vm.findClass "RobotFaults" = some m.cls := hown
  have hl := lv_entry ([.ref (ad 0 0), .int x, .int y]) (n := 5) (Nat.le_of_ble_eq_true rfl)
  rw [lg_entry_eq]
  generalize (lg_sl ([.ref (ad 0 0), .int x, .int y]) ++ List.replicate (5 - (lg_sl ([.ref (ad 0 0), .int x, .int y])).length) Slot.unset).toArray = ls at hl ⊢
  have hl : lv_has ls 5 [(0, .ref (ad 0 0)), (1, .int x), (2, .int y)] := hl
  refine lv_aload_n hx hb d_RF_found_0 rfl (lv_at hl 0 rfl) ?_
  refine lv_iload_n hx hb d_RF_found_1 rfl (lv_at hl 1 rfl) ?_
  refine os_call (c_RF_robotAt l hlt D cA bs σ ad x hA hR) hE hV k_349 k_1 (os_inV (C := "RobotFaults") (n := 1) (bytes := prog_1_method_24_code) (maxL := 3) (ret := (some (.object "RobotFaults$Robot"))) hx hb hown (hts _ k_346) (hts _ k_348) (hts _ k_s5) (hts _ k_349) (by decide +kernel) rfl (os_recv hK hV rfl rfl (hA.n 0 (by decide))) rfl d_RF_found_2) (hl.1.trans hml.symm) (Nat.le_of_ble_eq_true rfl) (Nat.le_of_ble_eq_true rfl) (Nat.le_of_ble_eq_true rfl) (Nat.le_of_ble_eq_true rfl) (Nat.le_of_ble_eq_true rfl) (fun v σ1 ad1 H locs hp hext hV => ?_) (fun E q ce σ1 ad1 H locs hp hext hV hce hcv hcl => ?_)
  · obtain ⟨rfl, rfl, ⟨i_1, hi_2, hx_3, hp⟩ | ⟨hx_3, hp⟩⟩ := hp <;> cases hp
    refine W.eq (g2 := F0 m 5 ls [.ref (ad 9 i_1)]) rfl ?_
    refine lv_astore_n (lv' := [(3, .ref (ad 9 i_1)), (0, .ref (ad 0 0)), (1, .int x), (2, .int y)]) hx hb d_RF_found_5 rfl hl (by decide) rfl (fun ls hl => ?_)
    refine lv_aload_n hx hb d_RF_found_6 rfl (lv_at hl 1 rfl) ?_
    refine lv_iload_n hx hb d_RF_found_7 rfl (lv_at hl 3 rfl) ?_
    refine os_call (c_RF_needPiece l hlt D cA bs σ ad y hA) hE hV k_240 k_1 (os_inV (C := "RobotFaults") (n := 1) (bytes := prog_1_method_23_code) (maxL := 2) (ret := none) hx hb hown (hts _ k_237) (hts _ k_239) (hts _ k_s4) (hts _ k_240) (by decide +kernel) rfl (os_recv hK hV rfl rfl (hA.n 0 (by decide))) rfl d_RF_found_8) (hl.1.trans hml.symm) (Nat.le_of_ble_eq_true rfl) (Nat.le_of_ble_eq_true rfl) (Nat.le_of_ble_eq_true rfl) (Nat.le_of_ble_eq_true rfl) (Nat.le_of_ble_eq_true rfl) (fun v σ1 ad1 H locs hp hext hV => ?_) (fun E q ce σ1 ad1 H locs hp hext hV hce hcv hcl => ?_)
    · obtain ⟨rfl, rfl, ⟨g_4, hp⟩ | ⟨g_4, hp⟩⟩ := hp <;> cases hp
      refine W.eq (g2 := F0 m 11 ls []) rfl ?_
      refine lv_aload_n hx hb d_RF_found_11 rfl (lv_at hl 0 rfl) ?_
      refine os_call (c_RF_needLost l hlt D cA bs σ ad i_1 hi_2) hE hV k_577 k_1 (os_inS (n := 1) (bytes := prog_1_method_29_code) (maxL := 1) (ret := none) hx hb hown (hts _ k_575) (hts _ k_576) (hts _ k_1) (hts _ k_577) (by decide +kernel) rfl rfl d_RF_found_12) (hl.1.trans hml.symm) (Nat.le_of_ble_eq_true rfl) (Nat.le_of_ble_eq_true rfl) (Nat.le_of_ble_eq_true rfl) (Nat.le_of_ble_eq_true rfl) (Nat.le_of_ble_eq_true rfl) (fun v σ1 ad1 H locs hp hext hV => ?_) (fun E q ce σ1 ad1 H locs hp hext hV hce hcv hcl => ?_)
      · obtain ⟨rfl, rfl, ⟨g_5, hp⟩ | ⟨g_5, hp⟩⟩ := hp <;> cases hp
        refine W.eq (g2 := F0 m 15 ls []) rfl ?_
        refine lv_aload_n hx hb d_RF_found_15 rfl (lv_at hl 1 rfl) ?_
        refine lv_aload_n hx hb d_RF_found_16 rfl (lv_at hl 0 rfl) ?_
        obtain ⟨q, hq, hqe⟩ := hLS i_1 hi_2
        refine os_call (c_RF_piecesOfLost l hlt D cA bs σ ad i_1 q z hA hz hz2 hi_2 hq hqe) hE hV k_582 k_1 (os_inV (C := "RobotFaults") (n := 1) (bytes := prog_1_method_39_code) (maxL := 2) (ret := (some .int)) hx hb hown (hts _ k_579) (hts _ k_581) (hts _ k_s14) (hts _ k_582) (by decide +kernel) rfl (os_recv hK hV rfl rfl (hA.n 0 (by decide))) rfl d_RF_found_17) (hl.1.trans hml.symm) (Nat.le_of_ble_eq_true rfl) (Nat.le_of_ble_eq_true rfl) (Nat.le_of_ble_eq_true rfl) (Nat.le_of_ble_eq_true rfl) (Nat.le_of_ble_eq_true rfl) (fun v σ1 ad1 H locs hp hext hV => ?_) (fun E q ce σ1 ad1 H locs hp hext hV hce hcv hcl => ?_)
        · obtain ⟨rfl, rfl, hp⟩ := hp
          cases hp
          refine W.eq (g2 := F0 m 20 ls [.int (pol σ z i_1 q)]) rfl ?_
          refine lv_iload_n hx hb d_RF_found_20 rfl (lv_at hl 3 rfl) ?_
          refine os_call (c_RF_holds l hlt D cA bs σ ad (pol σ z i_1 q) y) hE hV k_373 k_1 (os_inS (n := 2) (bytes := prog_1_method_30_code) (maxL := 2) (ret := (some .boolean)) hx hb hown (hts _ k_535) (hts _ k_372) (hts _ k_1) (hts _ k_373) (by decide +kernel) rfl rfl d_RF_found_21) (hl.1.trans hml.symm) (Nat.le_of_ble_eq_true rfl) (Nat.le_of_ble_eq_true rfl) (Nat.le_of_ble_eq_true rfl) (Nat.le_of_ble_eq_true rfl) (Nat.le_of_ble_eq_true rfl) (fun v σ1 ad1 H locs hp hext hV => ?_) (fun E q ce σ1 ad1 H locs hp hext hV hce hcv hcl => ?_)
          · obtain ⟨rfl, rfl, hp⟩ := hp
            cases hp
            refine W.eq (g2 := F0 m 24 ls [.int (bz (rf_holds (pol σ z i_1 q) y))]) rfl ?_
            refine lv_if_ne (tgt := 37) hx hb d_RF_found_24 (by decide) (fun c_6 => ?_) (fun c_6 => ?_)
            · skip
              refine lv_aload_n hx hb d_RF_found_37 rfl (lv_at hl 1 rfl) ?_
              refine os_get (C := "RobotFaults") (T := F_RF) (N := 11) (ci := 0) (K := 0) (j := 0) (i := 0) (v := .ref (ad 1 0)) hx hb hts i_RF hown hK hV rfl rfl (by decide) (hA.n 0 (by decide)) (hts _ k_68) (congrArg (fun z => va_rf (Option.map (ad 1) z)) (hA.r 0 (by decide))) d_RF_found_38 ?_
              refine lv_aload_n hx hb d_RF_found_41 rfl (lv_at hl 0 rfl) ?_
              refine os_getN (C := "RobotFaults$Robot") (T := F_Robot) (N := 6) (ci := 3) (K := 9) (j := 1) (i := i_1) (v := .int (os_g σ 9 1 i_1)) hx hb hts i_Robot hown hK hV rfl rfl (by decide) hi_2 (hts _ k_298) rfl d_RF_found_42 ?_
              refine lv_iload_n hx hb d_RF_found_45 rfl (lv_at hl 3 rfl) ?_
              refine os_call (c_Track_fewestLinks l hlt D cA bs σ ad (os_g σ 9 1 i_1) y z hA hz hz2) hE hV k_602 k_2 (os_inV (C := "RobotFaults$Track") (n := 2) (bytes := prog_7_method_9_code) (maxL := 4) (ret := (some .int)) hx hb hown (hts _ k_599) (hts _ k_600) (hts _ k_601) (hts _ k_602) (by decide +kernel) rfl (os_recv hK hV rfl rfl (hA.n 1 (by decide))) rfl d_RF_found_46) (hl.1.trans hml.symm) (Nat.le_of_ble_eq_true rfl) (Nat.le_of_ble_eq_true rfl) (Nat.le_of_ble_eq_true rfl) (Nat.le_of_ble_eq_true rfl) (Nat.le_of_ble_eq_true rfl) (fun v σ1 ad1 H locs hp hext hV => ?_) (fun E q ce σ1 ad1 H locs hp hext hV hce hcv hcl => ?_)
              · obtain ⟨rfl, rfl, hp⟩ := hp
                cases hp
                refine W.eq (g2 := F0 m 49 ls [.int (nI (fl (flP σ z (os_g σ 9 1 i_1) y) 20 0))]) rfl ?_
                refine lv_istore (lv' := [(4, .int (nI (fl (flP σ z (os_g σ 9 1 i_1) y) 20 0))), (3, .ref (ad 9 i_1)), (0, .ref (ad 0 0)), (1, .int x), (2, .int y)]) hx hb d_RF_found_49 hl (by decide) rfl (fun ls hl => ?_)
                refine lv_aload_n hx hb d_RF_found_51 rfl (lv_at hl 1 rfl) ?_
                refine lv_iconst (v := 1) hx hb d_RF_found_52 (by decide) ?_
                refine os_putIN (C := "RobotFaults$Robot") (T := F_Robot) (N := 6) (ci := 3) (K := 9) (j := 2) (i := i_1) (v := 1) (ty := .int) hx hb hts i_Robot t_Robot t_Robot_ok n_Robot hown hK hV rfl rfl (by decide) hi_2 (hts _ k_300) rfl rfl rfl (by decide +kernel) rfl rfl d_RF_found_53 (fun H locs hV => ?_)
                refine lv_aload_n hx hb d_RF_found_56 rfl (lv_at hl 1 rfl) ?_
                refine lv_iload_n hx hb d_RF_found_57 rfl (lv_at hl 4 rfl) ?_
                refine os_putIN (C := "RobotFaults$Robot") (T := F_Robot) (N := 6) (ci := 3) (K := 9) (j := 1) (i := i_1) (v := y) (ty := .int) hx hb hts i_Robot t_Robot t_Robot_ok n_Robot hown hK hV rfl rfl (by decide) hi_2 (hts _ k_298) rfl rfl rfl (by decide +kernel) rfl rfl d_RF_found_58 (fun H locs hV => ?_)
                refine lv_iload hx hb d_RF_found_61 (lv_at hl 0 rfl) ?_
                refine os_iret hx hb hr hlocks hV (Nat.le_of_ble_eq_true rfl) (Nat.le_of_ble_eq_true rfl) d_RF_found_63 ?_
                exact ⟨rfl, Or.inr ⟨i_1, ⟨hi_2, hx_3⟩, g_4, Or.inr ⟨g_5, q, hq, hqe, Or.inr ⟨bz_1 c_6, rfl, rfl⟩⟩⟩⟩
              · exact absurd hp.2.2 (fun h => by cases h)
            · skip
              refine os_throw (own := "RobotFaults") (cls := "java/lang/IllegalStateException") (text := "the robot may not be on this piece") (names := ["java/lang/RuntimeException", "java/lang/Exception"]) hx hb hlt hown (by decide) (by decide) hE hV k_351 k_12 (by decide +kernel) th_IllegalStateException (hl.1.trans hml.symm) d_RF_found_27 d_RF_found_30 d_RF_found_31 d_RF_found_33 d_RF_found_36 hout hlocks (Nat.le_of_ble_eq_true rfl) (Nat.le_of_ble_eq_true rfl) (Nat.le_of_ble_eq_true rfl) (Nat.le_of_ble_eq_true rfl) (Nat.le_of_ble_eq_true rfl) (Nat.le_of_ble_eq_true rfl) ?_
              exact ⟨rfl, Or.inr ⟨i_1, ⟨hi_2, hx_3⟩, g_4, Or.inr ⟨g_5, q, hq, hqe, Or.inl ⟨bz_t (by simpa using c_6), rfl, rfl⟩⟩⟩⟩
          · exact absurd hp.2.2 (fun h => by cases h)
        · exact absurd hp.2.2 (fun h => by cases h)
      · obtain ⟨rfl, rfl, ⟨g_5, hp⟩ | ⟨g_5, hp⟩⟩ := hp <;> cases hp
        refine os_out hout hlocks hV hce hcv hcl (Nat.le_of_ble_eq_true rfl) (Nat.le_of_ble_eq_true rfl) ?_
        exact ⟨rfl, Or.inr ⟨i_1, ⟨hi_2, hx_3⟩, g_4, Or.inl ⟨g_5, rfl, rfl⟩⟩⟩
    · obtain ⟨rfl, rfl, ⟨g_4, hp⟩ | ⟨g_4, hp⟩⟩ := hp <;> cases hp
      refine os_out hout hlocks hV hce hcv hcl (Nat.le_of_ble_eq_true rfl) (Nat.le_of_ble_eq_true rfl) ?_
      exact ⟨rfl, Or.inl ⟨Or.inr g_4, rfl, rfl⟩⟩
  · obtain ⟨rfl, rfl, ⟨i_1, hi_2, hx_3, hp⟩ | ⟨hx_3, hp⟩⟩ := hp <;> cases hp
    refine os_out hout hlocks hV hce hcv hcl (Nat.le_of_ble_eq_true rfl) (Nat.le_of_ble_eq_true rfl) ?_
    exact ⟨rfl, Or.inl ⟨Or.inl hx_3, rfl, rfl⟩⟩
/-- the alarm that comes first, among the first -/
def cb (σ : os_S) (i k : Nat) : Bool := if os_g σ 11 4 i = os_g σ 11 4 k then decide (os_g σ 11 3 i < os_g σ 11 3 k) else decide (os_g σ 11 4 k < os_g σ 11 4 i)
def fiF (σ : os_S) : Nat → Option Nat
  | 0 => none
  | j + 1 => if j < os_n σ 11 ∧ os_g σ 11 6 j = -1 then (match fiF σ j with
    | none => some j
    | some b => if cb σ j b = true then some j else some b) else fiF σ j
def obI (o : Option Nat) : Int32 := match o with
  | none => -1
  | some b => nI b
theorem fiF_is {σ : os_S} {t : Nat} : ∀ {j : Nat}, fiF σ j = some t → t < j ∧ t < os_n σ 11
  | 0, h => by cases h
  | j + 1, h => by
    rw [fiF] at h
    split at h
    · rename_i hc
      split at h
      · cases h; exact ⟨by omega, hc.1⟩
      · rename_i b hb
        split at h
        · cases h; exact ⟨by omega, hc.1⟩
        · cases h; have := fiF_is hb; exact ⟨by omega, this.2⟩
    · have := fiF_is h; exact ⟨by omega, this.2⟩
set_option maxHeartbeats 4000000 in
set_option maxRecDepth 100000 in
theorem c_RF_first (l : Launch) (hlt : l.stackTraces = false) (D : va_G) (cA : Nat → ClassId) (bs : Nat) (σ : os_S) (ad : Nat → Nat → Nat) (hA : rfA σ) (hL : rfL σ) : os_Met l y_RF_first prog_1_method_21_code 5 (some .int) { frames := 1, cells := 0, slots := 0, locals := 21 } D cA bs [.ref (ad 0 0)] σ ad (pv σ ad (some (.int (obI (fiF σ 40))))) := by
  refine os_ofW (by decide) ?_
  intro p e s m below meth c hx hb hr hml hown hlocks hmn hout hE hV
  have hts := hE.hts (args := ([.ref (ad 0 0)] : List Value).toArray)
  have hK := hE.2.1
  have hbs := hE.2.2.1
  have hown : s.vm.findClass "RobotFaults" = some m.cls := hown
  have hl := lv_entry ([.ref (ad 0 0)]) (n := 5) (Nat.le_of_ble_eq_true rfl)
  rw [lg_entry_eq]
  generalize (lg_sl ([.ref (ad 0 0)]) ++ List.replicate (5 - (lg_sl ([.ref (ad 0 0)])).length) Slot.unset).toArray = ls at hl ⊢
  have hl : lv_has ls 5 [(0, .ref (ad 0 0))] := hl
  refine lv_iconst (v := (-1)) hx hb d_RF_first_0 (by decide) ?_
  refine lv_istore_n (lv' := [(1, .int (-1)), (0, .ref (ad 0 0))]) hx hb d_RF_first_1 rfl hl (by decide) rfl (fun ls hl => ?_)
  refine lv_iconst (v := 0) hx hb d_RF_first_2 (by decide) ?_
  refine lv_istore_n (lv' := [(2, .int 0), (1, .int (-1)), (0, .ref (ad 0 0))]) hx hb d_RF_first_3 rfl hl (by decide) rfl (fun ls hl => ?_)
  have loop : ∀ (n j : Nat) (a : Int32) (ls : Array Slot) (H : Heap) (locs : List Loc), j ≤ 40 → 40 < j + n → a = obI (fiF σ j) → os_V D cA bs σ ad s σ ad H locs → lv_has ls 5 [(0, .ref (ad 0 0)), (1, .int a), (2, .int (nI j))] → W p l e { frames := 1, cells := 0, slots := 0, locals := 21 } s m ([.ref (ad 0 0)] : List Value).toArray below meth c H locs (0) (0) (os_End D cA bs below s σ ad { frames := 1, cells := 0, slots := 0, locals := 21 } (pv σ ad (some (.int (obI (fiF σ 40)))))) (F0 m 4 ls []) := by
    intro n
    induction n with
    | zero => intro j a ls H locs h1 h2; exact absurd h2 (by omega)
    | succ n loop_ih =>
      intro j a ls H locs loop_j loop_n loop_i hV hl
      refine lv_iload_n hx hb d_RF_first_4 rfl (lv_at hl 2 rfl) ?_
      refine lv_aload_n hx hb d_RF_first_5 rfl (lv_at hl 0 rfl) ?_
      refine os_get (C := "RobotFaults") (T := F_RF) (N := 11) (ci := 0) (K := 0) (j := 4) (i := 0) (v := .ref (ad 6 0)) hx hb hts i_RF hown hK hV rfl rfl (by decide) (hA.n 0 (by decide)) (hts _ k_72) (congrArg (fun z => va_rf (Option.map (ad 6) z)) (hA.r 4 (by decide))) d_RF_first_6 ?_
      refine os_alen (K := 6) (i := 0) (t0 := 6) (v := 40) hx hb hK hV rfl rfl (hA.n 6 (by decide)) (congrArg Int32.ofNat hA.l6) d_RF_first_9 ?_
      refine lv_icmp_ge (tgt := 69) hx hb d_RF_first_10 (by decide) (fun c_1 => ?_) (fun c_1 => ?_)
      · skip
        refine lv_iload_n hx hb d_RF_first_69 rfl (lv_at hl 1 rfl) ?_
        refine os_iret hx hb hr hlocks hV (Nat.le_of_ble_eq_true rfl) (Nat.le_of_ble_eq_true rfl) d_RF_first_70 ?_
        have hj := eq_of_le c_1 loop_j
        subst hj
        exact ⟨rfl, rfl, by rw [loop_i]⟩
      · skip
        refine lv_aload_n hx hb d_RF_first_13 rfl (lv_at hl 0 rfl) ?_
        refine os_get (C := "RobotFaults") (T := F_RF) (N := 11) (ci := 0) (K := 0) (j := 4) (i := 0) (v := .ref (ad 6 0)) hx hb hts i_RF hown hK hV rfl rfl (by decide) (hA.n 0 (by decide)) (hts _ k_72) (congrArg (fun z => va_rf (Option.map (ad 6) z)) (hA.r 4 (by decide))) d_RF_first_14 ?_
        refine lv_iload_n hx hb d_RF_first_17 rfl (lv_at hl 2 rfl) ?_
        refine os_aaldN (K := 6) (i := 0) (t0 := 6) (n := j) hx hb hK hV rfl rfl (hA.n 6 (by decide)) rfl (by rw [show os_l σ 6 0 = 40 from hA.l6]; exact (lt_of_nle c_1 loop_j)) (by rw [show os_l σ 6 0 = 40 from hA.l6]; decide) d_RF_first_18 ?_
        by_cases u_2 : j < os_n σ 11
        · skip
          refine W.eq (g2 := F0 m 19 ls [.ref (ad 11 j)]) (by rw [hL.1.at (lt_of_nle c_1 loop_j) u_2]; rfl) ?_
          refine lv_astore_n (lv' := [(3, .ref (ad 11 j)), (0, .ref (ad 0 0)), (1, .int a), (2, .int (nI j))]) hx hb d_RF_first_19 rfl hl (by decide) rfl (fun ls hl => ?_)
          refine lv_aload_n hx hb d_RF_first_20 rfl (lv_at hl 0 rfl) ?_
          refine lv_ifnull hx hb d_RF_first_21 ?_
          refine lv_aload_n hx hb d_RF_first_24 rfl (lv_at hl 0 rfl) ?_
          refine os_call (c_Alarm_isAcknowledged l hlt D cA bs σ ad j u_2) hE hV k_109 k_14 (os_inV (C := "RobotFaults$Alarm") (n := 0) (bytes := prog_2_method_2_code) (maxL := 1) (ret := (some .boolean)) hx hb hown (hts _ k_106) (hts _ k_107) (hts _ k_108) (hts _ k_109) (by decide +kernel) rfl (os_recv hK hV rfl rfl u_2) rfl d_RF_first_25) (hl.1.trans hml.symm) (Nat.le_of_ble_eq_true rfl) (Nat.le_of_ble_eq_true rfl) (Nat.le_of_ble_eq_true rfl) (Nat.le_of_ble_eq_true rfl) (Nat.le_of_ble_eq_true rfl) (fun v σ1 ad1 H locs hp hext hV => ?_) (fun E q ce σ1 ad1 H locs hp hext hV hce hcv hcl => ?_)
          · obtain ⟨rfl, rfl, hp⟩ := hp
            cases hp
            refine W.eq (g2 := F0 m 28 ls [.int (bz (decide (¬ os_g σ 11 6 j = -1)))]) rfl ?_
            refine lv_if_ne (tgt := 63) hx hb d_RF_first_28 (by decide) (fun c_3 => ?_) (fun c_3 => ?_)
            · skip
              refine lv_iinc (v := nI (j + 1)) (lv' := [(2, .int (nI (j + 1))), (3, .ref (ad 11 j)), (0, .ref (ad 0 0)), (1, .int a)]) hx hb d_RF_first_63 hl (k := 3) rfl (nI_1 j) (by decide) rfl (fun ls hl => ?_)
              refine lv_goto (tgt := 4) hx hb d_RF_first_66 (by decide) ?_
              exact loop_ih (j + 1) a ls H locs (Nat.succ_le_of_lt (lt_of_nle c_1 loop_j)) (by omega) (by rw [fiF, if_neg (fun h => (of_decide_eq_true (bz_1 c_3)) h.2), loop_i]) hV (lv_sub hl [2, 3, 0] rfl)
            · skip
              cases qf : fiF σ j with
              | none =>
                have ea : a = -1 := by rw [loop_i, qf]; rfl
                subst ea
                refine lv_iload_n hx hb d_RF_first_31 rfl (lv_at hl 2 rfl) ?_
                refine lv_if_ge (tgt := 39) hx hb d_RF_first_32 (by decide) (fun c_4 => ?_) (fun c_4 => ?_)
                · exact absurd c_4 (by decide)
                · skip
                  refine lv_null hx hb d_RF_first_35 ?_
                  refine lv_goto (tgt := 45) hx hb d_RF_first_36 (by decide) ?_
                  refine lv_astoreN (lv' := [(4, .null), (3, .ref (ad 11 j)), (0, .ref (ad 0 0)), (1, .int (-1)), (2, .int (nI j))]) hx hb d_RF_first_45 hl (by decide) rfl (fun ls hl => ?_)
                  refine lv_aloadN hx hb d_RF_first_47 (lv_at hl 0 rfl) ?_
                  refine lv_ifnullN (tgt := 61) hx hb d_RF_first_49 (by decide) ?_
                  refine lv_iload_n hx hb d_RF_first_61 rfl (lv_at hl 4 rfl) ?_
                  refine lv_istore_n (lv' := [(1, .int (nI j)), (4, .null), (3, .ref (ad 11 j)), (0, .ref (ad 0 0)), (2, .int (nI j))]) hx hb d_RF_first_62 rfl hl (by decide) rfl (fun ls hl => ?_)
                  refine lv_iinc (v := nI (j + 1)) (lv' := [(2, .int (nI (j + 1))), (1, .int (nI j)), (4, .null), (3, .ref (ad 11 j)), (0, .ref (ad 0 0))]) hx hb d_RF_first_63 hl (k := 4) rfl (nI_1 j) (by decide) rfl (fun ls hl => ?_)
                  refine lv_goto (tgt := 4) hx hb d_RF_first_66 (by decide) ?_
                  exact loop_ih (j + 1) (nI j) ls H locs (Nat.succ_le_of_lt (lt_of_nle c_1 loop_j)) (by omega) (by rw [fiF, if_pos ⟨u_2, Decidable.not_not.mp (of_decide_eq_false (bz_0 c_3))⟩, qf]; rfl) hV (lv_sub hl [4, 1, 0] rfl)
              | some t9 =>
                have ea : a = nI t9 := by rw [loop_i, qf]; rfl
                subst ea
                have ht9 := fiF_is qf
                refine lv_iload_n hx hb d_RF_first_31 rfl (lv_at hl 2 rfl) ?_
                refine lv_if_ge (tgt := 39) hx hb d_RF_first_32 (by decide) (fun c_5 => ?_) (fun c_5 => ?_)
                · skip
                  refine lv_aload_n hx hb d_RF_first_39 rfl (lv_at hl 1 rfl) ?_
                  refine os_get (C := "RobotFaults") (T := F_RF) (N := 11) (ci := 0) (K := 0) (j := 4) (i := 0) (v := .ref (ad 6 0)) hx hb hts i_RF hown hK hV rfl rfl (by decide) (hA.n 0 (by decide)) (hts _ k_72) (congrArg (fun z => va_rf (Option.map (ad 6) z)) (hA.r 4 (by decide))) d_RF_first_40 ?_
                  refine lv_iload_n hx hb d_RF_first_43 rfl (lv_at hl 2 rfl) ?_
                  refine os_aaldN (K := 6) (i := 0) (t0 := 6) (n := t9) hx hb hK hV rfl rfl (hA.n 6 (by decide)) rfl (by rw [show os_l σ 6 0 = 40 from hA.l6]; exact (by have := hL.1.1; omega)) (by rw [show os_l σ 6 0 = 40 from hA.l6]; decide) d_RF_first_44 ?_
                  refine W.eq (g2 := F0 m 45 ls [.ref (ad 11 t9)]) (by rw [hL.1.at (by have := hL.1.1; omega) ht9.2]; rfl) ?_
                  refine lv_astore (lv' := [(4, .ref (ad 11 t9)), (3, .ref (ad 11 j)), (0, .ref (ad 0 0)), (1, .int (nI t9)), (2, .int (nI j))]) hx hb d_RF_first_45 hl (by decide) rfl (fun ls hl => ?_)
                  refine lv_aload hx hb d_RF_first_47 (lv_at hl 0 rfl) ?_
                  refine lv_ifnull hx hb d_RF_first_49 ?_
                  refine lv_aload_n hx hb d_RF_first_52 rfl (lv_at hl 1 rfl) ?_
                  refine lv_aload hx hb d_RF_first_53 (lv_at hl 0 rfl) ?_
                  refine os_call (c_Alarm_comesBefore l hlt D cA bs σ ad j t9 u_2 ht9.2) hE hV k_113 k_14 (os_inV (C := "RobotFaults$Alarm") (n := 1) (bytes := prog_2_method_7_code) (maxL := 2) (ret := (some .boolean)) hx hb hown (hts _ k_110) (hts _ k_111) (hts _ k_112) (hts _ k_113) (by decide +kernel) rfl (os_recv hK hV rfl rfl u_2) rfl d_RF_first_55) (hl.1.trans hml.symm) (Nat.le_of_ble_eq_true rfl) (Nat.le_of_ble_eq_true rfl) (Nat.le_of_ble_eq_true rfl) (Nat.le_of_ble_eq_true rfl) (Nat.le_of_ble_eq_true rfl) (fun v σ1 ad1 H locs hp hext hV => ?_) (fun E q ce σ1 ad1 H locs hp hext hV hce hcv hcl => ?_)
                  · obtain ⟨rfl, rfl, hp⟩ := hp
                    cases hp
                    refine W.eq (g2 := F0 m 58 ls [.int (bz (if os_g σ 11 4 j = os_g σ 11 4 t9 then decide (os_g σ 11 3 j < os_g σ 11 3 t9) else decide (os_g σ 11 4 t9 < os_g σ 11 4 j)))]) rfl ?_
                    refine lv_if_eq (tgt := 63) hx hb d_RF_first_58 (by decide) (fun c_6 => ?_) (fun c_6 => ?_)
                    · skip
                      refine lv_iinc (v := nI (j + 1)) (lv' := [(2, .int (nI (j + 1))), (4, .ref (ad 11 t9)), (3, .ref (ad 11 j)), (0, .ref (ad 0 0)), (1, .int (nI t9))]) hx hb d_RF_first_63 hl (k := 4) rfl (nI_1 j) (by decide) rfl (fun ls hl => ?_)
                      refine lv_goto (tgt := 4) hx hb d_RF_first_66 (by decide) ?_
                      exact loop_ih (j + 1) (nI t9) ls H locs (Nat.succ_le_of_lt (lt_of_nle c_1 loop_j)) (by omega) (by rw [fiF, if_pos ⟨u_2, Decidable.not_not.mp (of_decide_eq_false (bz_0 c_3))⟩, qf]; simp only []; rw [if_neg (show ¬ cb σ j t9 = true from bz_t c_6)]; rfl) hV (lv_sub hl [3, 4, 0] rfl)
                    · skip
                      refine lv_iload_n hx hb d_RF_first_61 rfl (lv_at hl 4 rfl) ?_
                      refine lv_istore_n (lv' := [(1, .int (nI j)), (4, .ref (ad 11 t9)), (3, .ref (ad 11 j)), (0, .ref (ad 0 0)), (2, .int (nI j))]) hx hb d_RF_first_62 rfl hl (by decide) rfl (fun ls hl => ?_)
                      refine lv_iinc (v := nI (j + 1)) (lv' := [(2, .int (nI (j + 1))), (1, .int (nI j)), (4, .ref (ad 11 t9)), (3, .ref (ad 11 j)), (0, .ref (ad 0 0))]) hx hb d_RF_first_63 hl (k := 4) rfl (nI_1 j) (by decide) rfl (fun ls hl => ?_)
                      refine lv_goto (tgt := 4) hx hb d_RF_first_66 (by decide) ?_
                      exact loop_ih (j + 1) (nI j) ls H locs (Nat.succ_le_of_lt (lt_of_nle c_1 loop_j)) (by omega) (by rw [fiF, if_pos ⟨u_2, Decidable.not_not.mp (of_decide_eq_false (bz_0 c_3))⟩, qf]; simp only []; rw [if_pos (show cb σ j t9 = true from bz_1 c_6)]; rfl) hV (lv_sub hl [4, 1, 0] rfl)
                  · exact absurd hp.2.2 (fun h => by cases h)
                · exact absurd (show (0 : Int32) ≤ nI t9 from Int32.not_lt.mp (nI_pos (by have := hL.1.1; omega))) c_5
          · exact absurd hp.2.2 (fun h => by cases h)
        · skip
          refine W.eq (g2 := F0 m 19 ls [.null]) (by rw [hL.1.an (lt_of_nle c_1 loop_j) u_2]; rfl) ?_
          refine lv_astore_nN (lv' := [(3, .null), (0, .ref (ad 0 0)), (1, .int a), (2, .int (nI j))]) hx hb d_RF_first_19 rfl hl (by decide) rfl (fun ls hl => ?_)
          refine lv_aload_nN hx hb d_RF_first_20 rfl (lv_at hl 0 rfl) ?_
          refine lv_ifnullN (tgt := 63) hx hb d_RF_first_21 (by decide) ?_
          refine lv_iinc (v := nI (j + 1)) (lv' := [(2, .int (nI (j + 1))), (3, .null), (0, .ref (ad 0 0)), (1, .int a)]) hx hb d_RF_first_63 hl (k := 3) rfl (nI_1 j) (by decide) rfl (fun ls hl => ?_)
          refine lv_goto (tgt := 4) hx hb d_RF_first_66 (by decide) ?_
          exact loop_ih (j + 1) a ls H locs (Nat.succ_le_of_lt (lt_of_nle c_1 loop_j)) (by omega) (by rw [fiF, if_neg (fun h => u_2 h.1), loop_i]) hV (lv_sub hl [2, 3, 0] rfl)
  exact loop (40 + 1) 0 (-1) ls _ _ (by omega) (by omega) rfl hV (lv_sub hl [2, 1, 0] rfl)
