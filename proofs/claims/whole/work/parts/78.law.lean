/-! THE LAW -/
def R_law : String := "RobotFaultsLaw"
def lw_P (b : Addr) (xs : List Int32) (args : Array Value) (s : State) : Prop := args = #[.ref b] ∧ s.IntsAt b xs ∧ xs.length ≤ 2560 ∧ (Jvm.Cond.and given_1 narrow_1).before args s = true
def lw_Q (_ : Array Value) (s : State) (o : Outcome) (t : State) : Prop := o = .returned (some (.int 1)) ∧ Framed s o t [] 601024 7293034
def lw_Z (below : List Frame) (a : Array Value) (s : State) : State → Prop := fun t => ∃ o, t.status = .running ∧ Ended t below o ∧ lw_Q a s o t
/-- the law's own end, with 1 on the stack, nothing written that was there before, its room as the claim has it -/
theorem lw_ret {p : Program} {l : Launch} {e : Env} {s : State} {m : MethodId} {below : List Frame} {meth : Method} {c : Code} {b : Nat} (hx : p.tables.exec = Jvm.exec) (hb : c.code = code) (hr : meth.sig.returnType = ret) (hlocks : meth.locks = false) {pc : Nat} {H : Heap} {ls : Array Slot} (hdg : decode code pc = .ok (.ireturn, 1)) : W p l e room_1 s m #[Value.ref b] below meth c H [] 601024 7293034 (lw_Z below #[Value.ref b] s) (F0 m pc ls [.int 1]) := by
  intro T hT X
  obtain ⟨fs, hret, hrun, hended, hW, hframe⟩ := X.leave (v := some (.int 1)) (hlocks := hlocks) (fun h => by rw [hr] at h; cases h)
  have hmeth' : T.vm.method? m = some meth := X.method'
  refine ⟨T.setFrames fs, ?_, .returned (some (.int 1)), hrun, hended, rfl, ⟨_, rfl⟩, hW, hframe⟩
  jvm_step X.here [X.here.top, hx, hb, hdg, hmeth', hr, ret, narrow_b1]
  (try refine ⟨rfl, ?_⟩); (try refine ⟨rfl, ?_⟩)
  first | (intro acts; rw [hret _ acts rfl rfl rfl]) | rw [hret _ _ rfl rfl rfl]
  exact Steps.refl _
/-- what holds at the law's entry: the machine, the code, the tables' words (any of lw_tbl by 'hts w (by decide +kernel)'), the script of L ints xs at the cell b, what the Statement gives of the start (any of its parts by flat_of_before) -/
def lw_At (p : Program) (s : State) (m : MethodId) (meth : Method) (c : Code) (b L : Nat) (xs : Nat → Int32) : Prop :=
  p.tables.exec = Jvm.exec ∧ c.code = code ∧ meth.sig.returnType = ret ∧ c.maxLocals = 7 ∧ s.vm.findClass R_law = some m.cls ∧ (∀ w ∈ lw_tbl, w.before #[Value.ref b] s = true) ∧ va_X b L xs s s.heap ∧ b < s.heap.size ∧ meth.locks = false ∧ (Jvm.Cond.and given_1 narrow_1).before #[Value.ref b] s = true
/-- what holds between two calls -/
def lwI (τ : os_S) : Prop := (∃ z t nP, Rel z t nP τ τ) ∧ 0 < os_n τ 45 ∧ os_l τ 45 0 = 1
theorem os_slA {ad0 : Nat → Nat → Nat} {sz b : Nat} (h : b < sz) : ¬ os_A os_0 ad0 sz b := by
  rintro (⟨K, i, hi, -⟩ | h2)
  · exact absurd hi (Nat.not_lt_zero _)
  · omega
section OSL
variable {p : Program} {l : Launch} {e : Env} {R : Room} {s : State} {m : MethodId} {args : Array Value} {below : List Frame} {meth : Method} {c : Code} {H : Heap} {locs : List Loc} {cells slots : Nat} {Q : State → Prop}
variable {cc : ByteArray} {pc : Nat} {ls : Array Slot} {rest : List Value} {D : va_G} {cA : Nat → ClassId} {bs : Nat} {σ : os_S} {ad ad0 : Nat → Nat → Nat}
theorem os_sld {b L n : Nat} {xs : Nat → Int32} {ix : Int32} (hx : p.tables.exec = Jvm.exec) (hb : c.code = cc) (hX : va_X b L xs s s.heap) (hbl : b < s.heap.size) (hV : os_V D cA bs os_0 ad0 s σ ad H locs) (hL : L ≤ 2560) (hix : ix = nI n) (hn : n < L) (hdg : decode cc pc = .ok (.iaload, 1))
    (kk : W p l e R s m args below meth c H locs cells slots Q (F0 m (pc + 1) ls (.int (xs n) :: rest))) : W p l e R s m args below meth c H locs cells slots Q (F0 m pc ls (.int ix :: .ref b :: rest)) := by
  subst hix
  refine va_sld hx hb hX hbl (os_slA hbl) hV.2.2 (vp_in_nI hn (by omega)) hdg ?_
  rw [nI_clamp (by omega)]
  exact kk
theorem os_slen {b L : Nat} {xs : Nat → Int32} (hx : p.tables.exec = Jvm.exec) (hb : c.code = cc) (hX : va_X b L xs s s.heap) (hbl : b < s.heap.size) (hV : os_V D cA bs os_0 ad0 s σ ad H locs) (hdg : decode cc pc = .ok (.arraylength, 1))
    (kk : W p l e R s m args below meth c H locs cells slots Q (F0 m (pc + 1) ls (.int (nI L) :: rest))) : W p l e R s m args below meth c H locs cells slots Q (F0 m pc ls (.ref b :: rest)) :=
  va_slen hx hb hX hbl (os_slA hbl) hV.2.2 hdg kk
end OSL
theorem sub5 {L i : Nat} (hL : L ≤ 2560) (hi : i ≤ L) (h : ¬ nI L - 5 < nI i) : i + 5 ≤ L := by
  rw [Int32.lt_iff_toInt_lt, Int32.toInt_sub, nI_toInt (by omega), nI_toInt (by omega), show (5 : Int32).toInt = 5 from by decide] at h
  have e : ((L : Int) - 5).bmod (2 ^ 32) = (L : Int) - 5 := Int.bmod_eq_of_le (by omega) (by omega)
  rw [e] at h
  omega
theorem count_v {σ σ1 : os_S} {ad ad1 : Nat → Nat → Nat} {y : Int32} {r : os_O} (hq : q_count σ ad y r σ1 ad1) : ad = ad1 ∧ σ = σ1 ∧ ∃ v, r = .inl (some (.int v)) := by
  obtain ⟨ha, hs, h⟩ := hq
  refine ⟨ha, hs, ?_⟩
  rcases h with ⟨-, h⟩ | ⟨-, h⟩ | ⟨-, h⟩ | ⟨-, h⟩ | ⟨-, h⟩ | ⟨-, h⟩ | ⟨-, h⟩ | ⟨-, h⟩ | ⟨-, h⟩ | ⟨-, h⟩
  all_goals exact ⟨_, h⟩
theorem count_eq {z t nP : Nat} {σ τ σ1 : os_S} {ad ad1 : Nat → Nat → Nat} {y k : Int32} (h : Rel z t nP σ τ) (hq : q_count σ ad y (.inl (some (.int k))) σ1 ad1) : k = mCt τ y := by
  obtain ⟨-, v, h1, h2⟩ := ok_count (ad2 := ad) (ad3 := ad) h hq ⟨rfl, rfl, rfl⟩
  cases h1
  cases h2
  rfl
theorem t2_test {τ τ1 : os_S} {ad ad1 : Nat → Nat → Nat} {x v : Int32} {g : Bool} (hm : m_test τ ad x g (.inl (some (.int v))) τ1 ad1) : v = 0 ∨ v = 1 := by
  obtain ⟨-, hm⟩ := hm
  rcases hm with ⟨-, -, -, h⟩ | ⟨-, -, -, -, h⟩ | ⟨-, -, -, -, -, -, h⟩ | ⟨-, -, -, -, -, -, h⟩ | ⟨-, -, -, -, -, h⟩ | ⟨-, -, h⟩
  all_goals cases h
  all_goals first
    | exact Or.inl rfl
    | (cases g; exact Or.inl rfl; exact Or.inr rfl)
/-- what follows a call of the script -/
def lwK (p : Program) (l : Launch) (e : Env) (s : State) (m : MethodId) (b : Nat) (below : List Frame) (meth : Method) (c : Code) (KC KS i9 : Nat) (D : va_G) (cA : Nat → ClassId) (bs : Nat) (ad0 : Nat → Nat → Nat) (Q : State → Prop) : Prop :=
  ∀ (σ2 : os_S) (ad2 : Nat → Nat → Nat) (ls : Array Slot) (H : Heap) (locs : List Loc), lwI σ2 → os_V D cA bs os_0 ad0 s σ2 ad2 H locs → lv_has ls 7 [(0, .ref b), (1, .ref (ad2 0 0)), (2, .ref (ad2 13 0)), (3, .ref (ad2 45 0)), (4, .int (nI i9))] → W p l e room_1 s m #[Value.ref b] below meth c H locs (KC + 21) (KS + 196) Q (F0 m 1361 ls [])
set_option maxHeartbeats 4000000 in
set_option maxRecDepth 100000 in
theorem lc_piece (l : Launch) (hlt : l.stackTraces = false) {p : Program} {e : Env} {s : State} {m : MethodId} {below : List Frame} {meth : Method} {c : Code} {b L i9 KC KS bs : Nat} {xs : Nat → Int32} {D : va_G} {cA : Nat → ClassId} {ad0 : Nat → Nat → Nat} {Q : State → Prop} (hx : p.tables.exec = Jvm.exec) (hb : c.code = code) (hml : c.maxLocals = 7) (hown : s.vm.findClass "RobotFaultsLaw" = some m.cls) (hE : os_EV D cA bs s) (hN : os_NC s) (hX : va_X b L xs s s.heap) (hbl : b < s.heap.size) (hL : L ≤ 2560) (hi5 : i9 + 5 ≤ L) (hkc : KC + 21 ≤ 601024) (hks : KS + 196 ≤ 7293034) (kk : lwK p l e s m b below meth c KC KS i9 D cA bs ad0 Q) {τ : os_S} {α : Nat → Nat → Nat} {ls : Array Slot} {H : Heap} {locs : List Loc} (hI9 : lwI τ) (hV : os_V D cA bs os_0 ad0 s τ α H locs) (hl : lv_has ls 7 [(0, .ref b), (1, .ref (α 0 0)), (2, .ref (α 13 0)), (3, .ref (α 45 0)), (4, .int (nI i9))]) : W p l e room_1 s m #[Value.ref b] below meth c H locs KC KS Q (F0 m 136 ls []) := by
  have hts := hE.hts (args := #[Value.ref b])
  have hK := hE.2.1
  have hbs := hE.2.2.1
  obtain ⟨⟨z, t, nP, hRel⟩, h45⟩ := hI9
  have hr0 : 0 < os_n τ 0 := hRel.1.n 0 (by decide)
  have hr13 : 0 < os_n τ 13 := hRel.2.1.1.n 13 (by decide) (by decide)
  have hr45 : 0 < os_n τ 45 := h45.1
  refine lv_aload_n hx hb d_Law_law_136 rfl (lv_at hl 1 rfl) ?_
  refine lv_aload_n hx hb d_Law_law_137 rfl (lv_at hl 3 rfl) ?_
  refine os_callH (c_Law_piece l hlt D cA bs τ α  z t nP τ hRel h45) hE hN hV k_145 k_0 (os_inSW (n := 2) (bytes := method_3_code) (maxL := 3) (ret := (some .int)) hx hb hown (hts _ k_143) (hts _ k_144) (hts _ k_0) (hts _ k_145) (by decide +kernel) rfl rfl d_Law_law_138) (hl.1.trans hml.symm) (Nat.le_of_ble_eq_true rfl) (Nat.le_of_ble_eq_true rfl) (Nat.le_of_ble_eq_true rfl) (by show KC + 1 ≤ 601024; omega) (by show KS + 6 ≤ 7293034; omega) (fun v σ1 ad1 H locs hp hext hV => ?_) (fun E q ce σ1 ad1 H locs hp hext hV hce hcv hcl => ?_)
  · obtain ⟨k9, rfl⟩ := hI.v hp
    have hm9 := hI.m hp (fun _ _ h => (r_piece h).1)
    obtain ⟨σ_1, rfl⟩ : ∃ z, z = σ1 := ⟨_, rfl⟩
    obtain ⟨ad_2, rfl⟩ : ∃ z, z = ad1 := ⟨_, rfl⟩
    have he_3 := hext
    have hl : lv_has ls 7 [(0, .ref b), (1, .ref (ad_2 0 0)), (2, .ref (ad_2 13 0)), (3, .ref (ad_2 45 0)), (4, .int (nI i9))] := by rw [he_3.2.1 0 0 hr0, he_3.2.1 13 0 hr13, he_3.2.1 45 0 hr45]; exact hl
    refine W.eq (g2 := F0 m 141 ls [.int k9]) rfl ?_
    have hr_4 : 0 < os_n σ_1 0 := Nat.lt_of_lt_of_le hr0 (he_3.1 0)
    have hr_5 : 0 < os_n σ_1 13 := Nat.lt_of_lt_of_le hr13 (he_3.1 13)
    have hr_6 : 0 < os_n σ_1 45 := Nat.lt_of_lt_of_le hr45 (he_3.1 45)
    have hR2 : Rel z t nP τ σ_1 := hRel.to rfl hm9.1
    have h45b : 0 < os_n σ_1 45 ∧ os_l σ_1 45 0 = 1 := ⟨by rw [hm9.2.1]; exact h45.1, by rw [hm9.2.2]; exact h45.2⟩
    have hpH := hp
    refine lv_istore (lv' := [(5, .int k9), (0, .ref b), (1, .ref (ad_2 0 0)), (2, .ref (ad_2 13 0)), (3, .ref (ad_2 45 0)), (4, .int (nI i9))]) hx hb d_Law_law_141 hl (by decide) rfl (fun ls hl => ?_)
    refine lv_aload_n hx hb d_Law_law_143 rfl (lv_at hl 3 rfl) ?_
    refine os_call (c_Model_piece l hlt D cA bs σ_1 ad_2  hR2.2.1) hE hV k_848 k_4 (os_inV (C := "RobotFaultsModel") (n := 0) (bytes := prog_9_method_9_code) (maxL := 1) (ret := (some .int)) hx hb hown (hts _ k_845) (hts _ k_846) (hts _ k_847) (hts _ k_848) (by decide +kernel) rfl (os_recv hK hV rfl rfl hr_5) rfl d_Law_law_144) (hl.1.trans hml.symm) (Nat.le_of_ble_eq_true rfl) (Nat.le_of_ble_eq_true rfl) (Nat.le_of_ble_eq_true rfl) (by show KC + 1 + 0 ≤ 601024; omega) (by show KS + 6 + 0 ≤ 7293034; omega) (fun v σ1 ad1 H locs hp hext hV => ?_) (fun E q ce σ1 ad1 H locs hp hext hV hce hcv hcl => ?_)
    · obtain ⟨rfl, hFC, b9, hb9⟩ := e_piece hp
      cases hb9
      obtain ⟨σ_7, rfl⟩ : ∃ z, z = σ1 := ⟨_, rfl⟩
      have he_8 := hext
      have hr_9 : 0 < os_n σ_7 0 := Nat.lt_of_lt_of_le hr_4 (he_8.1 0)
      have hr_10 : 0 < os_n σ_7 13 := Nat.lt_of_lt_of_le hr_5 (he_8.1 13)
      have hr_11 : 0 < os_n σ_7 45 := Nat.lt_of_lt_of_le hr_6 (he_8.1 45)
      have hg := glI hpH (by decide) hFC (fun r0 σc hq => by obtain ⟨⟨z9, h1⟩, h2⟩ := ok_piece hR2 hq hp; exact ⟨⟨_, _, _, h1⟩, h2⟩)
      obtain ⟨⟨z2, t2, nP2, hR3⟩, hcode, hout⟩ := hg
      have h45c : 0 < os_n σ_7 45 ∧ os_l σ_7 45 0 = 1 := ⟨by rw [hFC.n45.1]; exact h45b.1, by rw [hFC.n45.2]; exact h45b.2⟩
      refine W.eq (g2 := F0 m 147 ls [.int b9]) rfl ?_
      refine lv_istore (lv' := [(6, .int b9), (5, .int k9), (0, .ref b), (1, .ref (ad_2 0 0)), (2, .ref (ad_2 13 0)), (3, .ref (ad_2 45 0)), (4, .int (nI i9))]) hx hb d_Law_law_147 hl (by decide) rfl (fun ls hl => ?_)
      refine lv_aload_n hx hb d_Law_law_149 rfl (lv_at hl 4 rfl) ?_
      refine os_call (c_Model_thrown l hlt D cA bs σ_7 ad_2 hR3.2.1) hE hV k_844 k_4 (os_inV (C := "RobotFaultsModel") (n := 0) (bytes := prog_9_method_2_code) (maxL := 1) (ret := (some .int)) hx hb hown (hts _ k_841) (hts _ k_842) (hts _ k_843) (hts _ k_844) (by decide +kernel) rfl (os_recv hK hV rfl rfl hr_10) rfl d_Law_law_150) (hl.1.trans hml.symm) (Nat.le_of_ble_eq_true rfl) (Nat.le_of_ble_eq_true rfl) (Nat.le_of_ble_eq_true rfl) (by show KC + 1 + 0 ≤ 601024; omega) (by show KS + 6 + 0 ≤ 7293034; omega) (fun v σ1 ad1 H locs hp hext hV => ?_) (fun E q ce σ1 ad1 H locs hp hext hV hce hcv hcl => ?_)
      · obtain ⟨rfl, rfl, hp⟩ := hp
        cases hp
        refine W.eq (g2 := F0 m 153 ls [.int (os_g σ_7 13 0 0)]) rfl ?_
        refine lv_iload hx hb d_Law_law_153 (lv_at hl 1 rfl) ?_
        refine lv_icmp_eq (tgt := 160) hx hb d_Law_law_155 (by decide) (fun c_12 => ?_) (fun c_12 => ?_)
        · skip
          refine lv_iload hx hb d_Law_law_160 (lv_at hl 1 rfl) ?_
          refine lv_if_ne (tgt := 177) hx hb d_Law_law_162 (by decide) (fun c_13 => ?_) (fun c_13 => ?_)
          · skip
            refine lv_goto (tgt := 1361) hx hb d_Law_law_177 (by decide) ?_
            refine W.widen (k := KC + 21) (n := KS + 196) (by show KC + 1 ≤ KC + 21; omega) (by show KS + 6 ≤ KS + 196; omega) ?_
            exact kk _ _ ls H locs ⟨⟨z2, t2, nP2, hR3⟩, h45c⟩ hV (lv_sub hl [2, 3, 4, 5, 6] rfl)
          · skip
            refine lv_aload_n hx hb d_Law_law_165 rfl (lv_at hl 5 rfl) ?_
            refine lv_iconst (v := 0) hx hb d_Law_law_166 (by decide) ?_
            refine os_laldN (K := 45) (i := 0) (t0 := 2) (n := 0) hx hb hK hV rfl rfl rfl hr_11 rfl (by rw [show os_l σ_7 45 0 = 1 from h45c.2]; decide) (by rw [show os_l σ_7 45 0 = 1 from h45c.2]; decide) d_Law_law_167 ?_
            refine lv_iload hx hb d_Law_law_168 (lv_at hl 0 rfl) ?_
            refine lv_i2l (v := Int32.toInt64 b9) hx hb d_Law_law_170 rfl ?_
            refine W.eq (g2 := F0 m 171 ls [.long (Int32.toInt64 b9), .long (Int32.toInt64 b9)]) (by rw [hout c_13]) ?_
            refine W.lcmpE hx hb d_Law_law_171 ?_
            refine lv_if_eq (tgt := 177) hx hb d_Law_law_172 (by decide) (fun c_14 => ?_) (fun c_14 => ?_)
            · skip
              refine lv_goto (tgt := 1361) hx hb d_Law_law_177 (by decide) ?_
              refine W.widen (k := KC + 21) (n := KS + 196) (by show KC + 1 ≤ KC + 21; omega) (by show KS + 6 ≤ KS + 196; omega) ?_
              exact kk _ _ ls H locs ⟨⟨z2, t2, nP2, hR3⟩, h45c⟩ hV (lv_sub hl [2, 3, 4, 5, 6] rfl)
            · exact absurd (by decide) c_14
        · exact absurd hcode c_12
      · exact absurd hp.2.2 (fun h => by cases h)
    · obtain ⟨_, _, _, h⟩ := e_piece hp; cases h
  · exact (hI.x hp).elim
set_option maxHeartbeats 4000000 in
set_option maxRecDepth 100000 in
theorem lc_link (l : Launch) (hlt : l.stackTraces = false) {p : Program} {e : Env} {s : State} {m : MethodId} {below : List Frame} {meth : Method} {c : Code} {b L i9 KC KS bs : Nat} {xs : Nat → Int32} {D : va_G} {cA : Nat → ClassId} {ad0 : Nat → Nat → Nat} {Q : State → Prop} (hx : p.tables.exec = Jvm.exec) (hb : c.code = code) (hml : c.maxLocals = 7) (hown : s.vm.findClass "RobotFaultsLaw" = some m.cls) (hE : os_EV D cA bs s) (hN : os_NC s) (hX : va_X b L xs s s.heap) (hbl : b < s.heap.size) (hL : L ≤ 2560) (hi5 : i9 + 5 ≤ L) (hkc : KC + 21 ≤ 601024) (hks : KS + 196 ≤ 7293034) (kk : lwK p l e s m b below meth c KC KS i9 D cA bs ad0 Q) {τ : os_S} {α : Nat → Nat → Nat} {ls : Array Slot} {H : Heap} {locs : List Loc} (hI9 : lwI τ) (hV : os_V D cA bs os_0 ad0 s τ α H locs) (hl : lv_has ls 7 [(0, .ref b), (1, .ref (α 0 0)), (2, .ref (α 13 0)), (3, .ref (α 45 0)), (4, .int (nI i9))]) : W p l e room_1 s m #[Value.ref b] below meth c H locs KC KS Q (F0 m 180 ls []) := by
  have hts := hE.hts (args := #[Value.ref b])
  have hK := hE.2.1
  have hbs := hE.2.2.1
  obtain ⟨⟨z, t, nP, hRel⟩, h45⟩ := hI9
  have hr0 : 0 < os_n τ 0 := hRel.1.n 0 (by decide)
  have hr13 : 0 < os_n τ 13 := hRel.2.1.1.n 13 (by decide) (by decide)
  have hr45 : 0 < os_n τ 45 := h45.1
  refine lv_aload_n hx hb d_Law_law_180 rfl (lv_at hl 1 rfl) ?_
  refine lv_aload_n hx hb d_Law_law_181 rfl (lv_at hl 0 rfl) ?_
  refine lv_iload hx hb d_Law_law_182 (lv_at hl 4 rfl) ?_
  refine lv_iconst (v := 1) hx hb d_Law_law_184 (by decide) ?_
  refine lv_iadd hx hb d_Law_law_185 ?_
  refine os_sld (n := (i9 + 1)) hx hb hX hbl hV hL (show nI i9 + 1 = nI (i9 + 1) from nI_add i9 1) (by omega) d_Law_law_186 ?_
  refine lv_aload_n hx hb d_Law_law_187 rfl (lv_at hl 0 rfl) ?_
  refine lv_iload hx hb d_Law_law_188 (lv_at hl 4 rfl) ?_
  refine lv_iconst (v := 2) hx hb d_Law_law_190 (by decide) ?_
  refine lv_iadd hx hb d_Law_law_191 ?_
  refine os_sld (n := (i9 + 2)) hx hb hX hbl hV hL (show nI i9 + 2 = nI (i9 + 2) from nI_add i9 2) (by omega) d_Law_law_192 ?_
  refine os_callH (c_Law_link l hlt D cA bs τ α (xs (i9 + 1)) (xs (i9 + 2)) z t nP τ hRel h45) hE hN hV k_230 k_0 (os_inSW (n := 3) (bytes := method_4_code) (maxL := 4) (ret := (some .int)) hx hb hown (hts _ k_228) (hts _ k_229) (hts _ k_0) (hts _ k_230) (by decide +kernel) rfl rfl d_Law_law_193) (hl.1.trans hml.symm) (Nat.le_of_ble_eq_true rfl) (Nat.le_of_ble_eq_true rfl) (Nat.le_of_ble_eq_true rfl) (by show KC + 3 ≤ 601024; omega) (by show KS + 18 ≤ 7293034; omega) (fun v σ1 ad1 H locs hp hext hV => ?_) (fun E q ce σ1 ad1 H locs hp hext hV hce hcv hcl => ?_)
  · obtain ⟨k9, rfl⟩ := hV0.v hp
    have hm9 := hV0.m hp (fun _ _ h => (r_link h).1)
    obtain ⟨σ_1, rfl⟩ : ∃ z, z = σ1 := ⟨_, rfl⟩
    obtain ⟨ad_2, rfl⟩ : ∃ z, z = ad1 := ⟨_, rfl⟩
    have he_3 := hext
    have hl : lv_has ls 7 [(0, .ref b), (1, .ref (ad_2 0 0)), (2, .ref (ad_2 13 0)), (3, .ref (ad_2 45 0)), (4, .int (nI i9))] := by rw [he_3.2.1 0 0 hr0, he_3.2.1 13 0 hr13, he_3.2.1 45 0 hr45]; exact hl
    refine W.eq (g2 := F0 m 196 ls [.int k9]) rfl ?_
    have hr_4 : 0 < os_n σ_1 0 := Nat.lt_of_lt_of_le hr0 (he_3.1 0)
    have hr_5 : 0 < os_n σ_1 13 := Nat.lt_of_lt_of_le hr13 (he_3.1 13)
    have hr_6 : 0 < os_n σ_1 45 := Nat.lt_of_lt_of_le hr45 (he_3.1 45)
    have hR2 : Rel z t nP τ σ_1 := hRel.to rfl hm9.1
    have h45b : 0 < os_n σ_1 45 ∧ os_l σ_1 45 0 = 1 := ⟨by rw [hm9.2.1]; exact h45.1, by rw [hm9.2.2]; exact h45.2⟩
    have hpH := hp
    refine lv_istore (lv' := [(5, .int k9), (0, .ref b), (1, .ref (ad_2 0 0)), (2, .ref (ad_2 13 0)), (3, .ref (ad_2 45 0)), (4, .int (nI i9))]) hx hb d_Law_law_196 hl (by decide) rfl (fun ls hl => ?_)
    refine lv_aload_n hx hb d_Law_law_198 rfl (lv_at hl 3 rfl) ?_
    refine lv_aload_n hx hb d_Law_law_199 rfl (lv_at hl 1 rfl) ?_
    refine lv_iload hx hb d_Law_law_200 (lv_at hl 5 rfl) ?_
    refine lv_iconst (v := 1) hx hb d_Law_law_202 (by decide) ?_
    refine lv_iadd hx hb d_Law_law_203 ?_
    refine os_sld (n := (i9 + 1)) hx hb hX hbl hV hL (show nI i9 + 1 = nI (i9 + 1) from nI_add i9 1) (by omega) d_Law_law_204 ?_
    refine lv_aload_n hx hb d_Law_law_205 rfl (lv_at hl 1 rfl) ?_
    refine lv_iload hx hb d_Law_law_206 (lv_at hl 5 rfl) ?_
    refine lv_iconst (v := 2) hx hb d_Law_law_208 (by decide) ?_
    refine lv_iadd hx hb d_Law_law_209 ?_
    refine os_sld (n := (i9 + 2)) hx hb hX hbl hV hL (show nI i9 + 2 = nI (i9 + 2) from nI_add i9 2) (by omega) d_Law_law_210 ?_
    refine os_call (c_Model_link l hlt D cA bs σ_1 ad_2 (xs (i9 + 1)) (xs (i9 + 2)) hR2.2.1) hE hV k_852 k_4 (os_inV (C := "RobotFaultsModel") (n := 2) (bytes := prog_9_method_10_code) (maxL := 3) (ret := none) hx hb hown (hts _ k_849) (hts _ k_850) (hts _ k_851) (hts _ k_852) (by decide +kernel) rfl (os_recv hK hV rfl rfl hr_5) rfl d_Law_law_211) (hl.1.trans hml.symm) (Nat.le_of_ble_eq_true rfl) (Nat.le_of_ble_eq_true rfl) (Nat.le_of_ble_eq_true rfl) (by show KC + 3 + 0 ≤ 601024; omega) (by show KS + 18 + 0 ≤ 7293034; omega) (fun v σ1 ad1 H locs hp hext hV => ?_) (fun E q ce σ1 ad1 H locs hp hext hV hce hcv hcl => ?_)
    · obtain ⟨rfl, hFC, hb9⟩ := e_link hp
      cases hb9
      obtain ⟨σ_7, rfl⟩ : ∃ z, z = σ1 := ⟨_, rfl⟩
      have he_8 := hext
      have hr_9 : 0 < os_n σ_7 0 := Nat.lt_of_lt_of_le hr_4 (he_8.1 0)
      have hr_10 : 0 < os_n σ_7 13 := Nat.lt_of_lt_of_le hr_5 (he_8.1 13)
      have hr_11 : 0 < os_n σ_7 45 := Nat.lt_of_lt_of_le hr_6 (he_8.1 45)
      have hg := glV hpH (by decide) hFC (fun r0 σc hq => by obtain ⟨h1, h2⟩ := ok_link hR2 hq hp; exact ⟨⟨_, _, _, h1⟩, h2⟩)
      obtain ⟨⟨z2, t2, nP2, hR3⟩, hcode⟩ := hg
      have h45c : 0 < os_n σ_7 45 ∧ os_l σ_7 45 0 = 1 := ⟨by rw [hFC.n45.1]; exact h45b.1, by rw [hFC.n45.2]; exact h45b.2⟩
      refine W.eq (g2 := F0 m 214 ls []) rfl ?_
      refine lv_aload_n hx hb d_Law_law_214 rfl (lv_at hl 3 rfl) ?_
      refine os_call (c_Model_thrown l hlt D cA bs σ_7 ad_2 hR3.2.1) hE hV k_844 k_4 (os_inV (C := "RobotFaultsModel") (n := 0) (bytes := prog_9_method_2_code) (maxL := 1) (ret := (some .int)) hx hb hown (hts _ k_841) (hts _ k_842) (hts _ k_843) (hts _ k_844) (by decide +kernel) rfl (os_recv hK hV rfl rfl hr_10) rfl d_Law_law_215) (hl.1.trans hml.symm) (Nat.le_of_ble_eq_true rfl) (Nat.le_of_ble_eq_true rfl) (Nat.le_of_ble_eq_true rfl) (by show KC + 3 + 0 ≤ 601024; omega) (by show KS + 18 + 0 ≤ 7293034; omega) (fun v σ1 ad1 H locs hp hext hV => ?_) (fun E q ce σ1 ad1 H locs hp hext hV hce hcv hcl => ?_)
      · obtain ⟨rfl, rfl, hp⟩ := hp
        cases hp
        refine W.eq (g2 := F0 m 218 ls [.int (os_g σ_7 13 0 0)]) rfl ?_
        refine lv_iload hx hb d_Law_law_218 (lv_at hl 0 rfl) ?_
        refine lv_icmp_eq (tgt := 225) hx hb d_Law_law_220 (by decide) (fun c_12 => ?_) (fun c_12 => ?_)
        · skip
          refine lv_goto (tgt := 1361) hx hb d_Law_law_225 (by decide) ?_
          refine W.widen (k := KC + 21) (n := KS + 196) (by show KC + 3 ≤ KC + 21; omega) (by show KS + 18 ≤ KS + 196; omega) ?_
          exact kk _ _ ls H locs ⟨⟨z2, t2, nP2, hR3⟩, h45c⟩ hV (lv_sub hl [1, 2, 3, 4, 5] rfl)
        · exact absurd hcode c_12
      · exact absurd hp.2.2 (fun h => by cases h)
    · obtain ⟨_, _, h⟩ := e_link hp; cases h
  · exact (hV0.x hp).elim
set_option maxHeartbeats 4000000 in
set_option maxRecDepth 100000 in
theorem lc_robot (l : Launch) (hlt : l.stackTraces = false) {p : Program} {e : Env} {s : State} {m : MethodId} {below : List Frame} {meth : Method} {c : Code} {b L i9 KC KS bs : Nat} {xs : Nat → Int32} {D : va_G} {cA : Nat → ClassId} {ad0 : Nat → Nat → Nat} {Q : State → Prop} (hx : p.tables.exec = Jvm.exec) (hb : c.code = code) (hml : c.maxLocals = 7) (hown : s.vm.findClass "RobotFaultsLaw" = some m.cls) (hE : os_EV D cA bs s) (hN : os_NC s) (hX : va_X b L xs s s.heap) (hbl : b < s.heap.size) (hL : L ≤ 2560) (hi5 : i9 + 5 ≤ L) (hkc : KC + 21 ≤ 601024) (hks : KS + 196 ≤ 7293034) (kk : lwK p l e s m b below meth c KC KS i9 D cA bs ad0 Q) {τ : os_S} {α : Nat → Nat → Nat} {ls : Array Slot} {H : Heap} {locs : List Loc} (hI9 : lwI τ) (hV : os_V D cA bs os_0 ad0 s τ α H locs) (hl : lv_has ls 7 [(0, .ref b), (1, .ref (α 0 0)), (2, .ref (α 13 0)), (3, .ref (α 45 0)), (4, .int (nI i9))]) : W p l e room_1 s m #[Value.ref b] below meth c H locs KC KS Q (F0 m 228 ls []) := by
  have hts := hE.hts (args := #[Value.ref b])
  have hK := hE.2.1
  have hbs := hE.2.2.1
  obtain ⟨⟨z, t, nP, hRel⟩, h45⟩ := hI9
  have hr0 : 0 < os_n τ 0 := hRel.1.n 0 (by decide)
  have hr13 : 0 < os_n τ 13 := hRel.2.1.1.n 13 (by decide) (by decide)
  have hr45 : 0 < os_n τ 45 := h45.1
  refine lv_aload_n hx hb d_Law_law_228 rfl (lv_at hl 1 rfl) ?_
  refine lv_aload_n hx hb d_Law_law_229 rfl (lv_at hl 0 rfl) ?_
  refine lv_iload hx hb d_Law_law_230 (lv_at hl 4 rfl) ?_
  refine lv_iconst (v := 1) hx hb d_Law_law_232 (by decide) ?_
  refine lv_iadd hx hb d_Law_law_233 ?_
  refine os_sld (n := (i9 + 1)) hx hb hX hbl hV hL (show nI i9 + 1 = nI (i9 + 1) from nI_add i9 1) (by omega) d_Law_law_234 ?_
  refine lv_aload_n hx hb d_Law_law_235 rfl (lv_at hl 3 rfl) ?_
  refine os_callH (c_Law_robot l hlt D cA bs τ α (xs (i9 + 1)) z t nP τ hRel h45) hE hN hV k_283 k_0 (os_inSW (n := 3) (bytes := method_5_code) (maxL := 4) (ret := (some .int)) hx hb hown (hts _ k_281) (hts _ k_282) (hts _ k_0) (hts _ k_283) (by decide +kernel) rfl rfl d_Law_law_236) (hl.1.trans hml.symm) (Nat.le_of_ble_eq_true rfl) (Nat.le_of_ble_eq_true rfl) (Nat.le_of_ble_eq_true rfl) (by show KC + 3 ≤ 601024; omega) (by show KS + 18 ≤ 7293034; omega) (fun v σ1 ad1 H locs hp hext hV => ?_) (fun E q ce σ1 ad1 H locs hp hext hV hce hcv hcl => ?_)
  · obtain ⟨k9, rfl⟩ := hI.v hp
    have hm9 := hI.m hp (fun _ _ h => (r_robot h).1)
    obtain ⟨σ_1, rfl⟩ : ∃ z, z = σ1 := ⟨_, rfl⟩
    obtain ⟨ad_2, rfl⟩ : ∃ z, z = ad1 := ⟨_, rfl⟩
    have he_3 := hext
    have hl : lv_has ls 7 [(0, .ref b), (1, .ref (ad_2 0 0)), (2, .ref (ad_2 13 0)), (3, .ref (ad_2 45 0)), (4, .int (nI i9))] := by rw [he_3.2.1 0 0 hr0, he_3.2.1 13 0 hr13, he_3.2.1 45 0 hr45]; exact hl
    refine W.eq (g2 := F0 m 239 ls [.int k9]) rfl ?_
    have hr_4 : 0 < os_n σ_1 0 := Nat.lt_of_lt_of_le hr0 (he_3.1 0)
    have hr_5 : 0 < os_n σ_1 13 := Nat.lt_of_lt_of_le hr13 (he_3.1 13)
    have hr_6 : 0 < os_n σ_1 45 := Nat.lt_of_lt_of_le hr45 (he_3.1 45)
    have hR2 : Rel z t nP τ σ_1 := hRel.to rfl hm9.1
    have h45b : 0 < os_n σ_1 45 ∧ os_l σ_1 45 0 = 1 := ⟨by rw [hm9.2.1]; exact h45.1, by rw [hm9.2.2]; exact h45.2⟩
    have hpH := hp
    refine lv_istore (lv' := [(5, .int k9), (0, .ref b), (1, .ref (ad_2 0 0)), (2, .ref (ad_2 13 0)), (3, .ref (ad_2 45 0)), (4, .int (nI i9))]) hx hb d_Law_law_239 hl (by decide) rfl (fun ls hl => ?_)
    refine lv_aload_n hx hb d_Law_law_241 rfl (lv_at hl 3 rfl) ?_
    refine lv_aload_n hx hb d_Law_law_242 rfl (lv_at hl 1 rfl) ?_
    refine lv_iload hx hb d_Law_law_243 (lv_at hl 5 rfl) ?_
    refine lv_iconst (v := 1) hx hb d_Law_law_245 (by decide) ?_
    refine lv_iadd hx hb d_Law_law_246 ?_
    refine os_sld (n := (i9 + 1)) hx hb hX hbl hV hL (show nI i9 + 1 = nI (i9 + 1) from nI_add i9 1) (by omega) d_Law_law_247 ?_
    refine os_call (c_Model_robot l hlt D cA bs σ_1 ad_2 (xs (i9 + 1)) hR2.2.1) hE hV k_863 k_4 (os_inV (C := "RobotFaultsModel") (n := 1) (bytes := prog_9_method_11_code) (maxL := 2) (ret := (some .int)) hx hb hown (hts _ k_860) (hts _ k_861) (hts _ k_862) (hts _ k_863) (by decide +kernel) rfl (os_recv hK hV rfl rfl hr_5) rfl d_Law_law_248) (hl.1.trans hml.symm) (Nat.le_of_ble_eq_true rfl) (Nat.le_of_ble_eq_true rfl) (Nat.le_of_ble_eq_true rfl) (by show KC + 3 + 0 ≤ 601024; omega) (by show KS + 18 + 0 ≤ 7293034; omega) (fun v σ1 ad1 H locs hp hext hV => ?_) (fun E q ce σ1 ad1 H locs hp hext hV hce hcv hcl => ?_)
    · obtain ⟨rfl, hFC, b9, hb9⟩ := e_robot hp
      cases hb9
      obtain ⟨σ_7, rfl⟩ : ∃ z, z = σ1 := ⟨_, rfl⟩
      have he_8 := hext
      have hr_9 : 0 < os_n σ_7 0 := Nat.lt_of_lt_of_le hr_4 (he_8.1 0)
      have hr_10 : 0 < os_n σ_7 13 := Nat.lt_of_lt_of_le hr_5 (he_8.1 13)
      have hr_11 : 0 < os_n σ_7 45 := Nat.lt_of_lt_of_le hr_6 (he_8.1 45)
      have hg := glI hpH (by decide) hFC (fun r0 σc hq => by obtain ⟨h1, h2⟩ := ok_robot hR2 hq hp; exact ⟨⟨_, _, _, h1⟩, h2⟩)
      obtain ⟨⟨z2, t2, nP2, hR3⟩, hcode, hout⟩ := hg
      have h45c : 0 < os_n σ_7 45 ∧ os_l σ_7 45 0 = 1 := ⟨by rw [hFC.n45.1]; exact h45b.1, by rw [hFC.n45.2]; exact h45b.2⟩
      refine W.eq (g2 := F0 m 251 ls [.int b9]) rfl ?_
      refine lv_istore (lv' := [(6, .int b9), (5, .int k9), (0, .ref b), (1, .ref (ad_2 0 0)), (2, .ref (ad_2 13 0)), (3, .ref (ad_2 45 0)), (4, .int (nI i9))]) hx hb d_Law_law_251 hl (by decide) rfl (fun ls hl => ?_)
      refine lv_aload_n hx hb d_Law_law_253 rfl (lv_at hl 4 rfl) ?_
      refine os_call (c_Model_thrown l hlt D cA bs σ_7 ad_2 hR3.2.1) hE hV k_844 k_4 (os_inV (C := "RobotFaultsModel") (n := 0) (bytes := prog_9_method_2_code) (maxL := 1) (ret := (some .int)) hx hb hown (hts _ k_841) (hts _ k_842) (hts _ k_843) (hts _ k_844) (by decide +kernel) rfl (os_recv hK hV rfl rfl hr_10) rfl d_Law_law_254) (hl.1.trans hml.symm) (Nat.le_of_ble_eq_true rfl) (Nat.le_of_ble_eq_true rfl) (Nat.le_of_ble_eq_true rfl) (by show KC + 3 + 0 ≤ 601024; omega) (by show KS + 18 + 0 ≤ 7293034; omega) (fun v σ1 ad1 H locs hp hext hV => ?_) (fun E q ce σ1 ad1 H locs hp hext hV hce hcv hcl => ?_)
      · obtain ⟨rfl, rfl, hp⟩ := hp
        cases hp
        refine W.eq (g2 := F0 m 257 ls [.int (os_g σ_7 13 0 0)]) rfl ?_
        refine lv_iload hx hb d_Law_law_257 (lv_at hl 1 rfl) ?_
        refine lv_icmp_eq (tgt := 264) hx hb d_Law_law_259 (by decide) (fun c_12 => ?_) (fun c_12 => ?_)
        · skip
          refine lv_iload hx hb d_Law_law_264 (lv_at hl 1 rfl) ?_
          refine lv_if_ne (tgt := 281) hx hb d_Law_law_266 (by decide) (fun c_13 => ?_) (fun c_13 => ?_)
          · skip
            refine lv_goto (tgt := 1361) hx hb d_Law_law_281 (by decide) ?_
            refine W.widen (k := KC + 21) (n := KS + 196) (by show KC + 3 ≤ KC + 21; omega) (by show KS + 18 ≤ KS + 196; omega) ?_
            exact kk _ _ ls H locs ⟨⟨z2, t2, nP2, hR3⟩, h45c⟩ hV (lv_sub hl [2, 3, 4, 5, 6] rfl)
          · skip
            refine lv_aload_n hx hb d_Law_law_269 rfl (lv_at hl 5 rfl) ?_
            refine lv_iconst (v := 0) hx hb d_Law_law_270 (by decide) ?_
            refine os_laldN (K := 45) (i := 0) (t0 := 2) (n := 0) hx hb hK hV rfl rfl rfl hr_11 rfl (by rw [show os_l σ_7 45 0 = 1 from h45c.2]; decide) (by rw [show os_l σ_7 45 0 = 1 from h45c.2]; decide) d_Law_law_271 ?_
            refine lv_iload hx hb d_Law_law_272 (lv_at hl 0 rfl) ?_
            refine lv_i2l (v := Int32.toInt64 b9) hx hb d_Law_law_274 rfl ?_
            refine W.eq (g2 := F0 m 275 ls [.long (Int32.toInt64 b9), .long (Int32.toInt64 b9)]) (by rw [hout c_13]) ?_
            refine W.lcmpE hx hb d_Law_law_275 ?_
            refine lv_if_eq (tgt := 281) hx hb d_Law_law_276 (by decide) (fun c_14 => ?_) (fun c_14 => ?_)
            · skip
              refine lv_goto (tgt := 1361) hx hb d_Law_law_281 (by decide) ?_
              refine W.widen (k := KC + 21) (n := KS + 196) (by show KC + 3 ≤ KC + 21; omega) (by show KS + 18 ≤ KS + 196; omega) ?_
              exact kk _ _ ls H locs ⟨⟨z2, t2, nP2, hR3⟩, h45c⟩ hV (lv_sub hl [2, 3, 4, 5, 6] rfl)
            · exact absurd (by decide) c_14
        · exact absurd hcode c_12
      · exact absurd hp.2.2 (fun h => by cases h)
    · obtain ⟨_, _, _, h⟩ := e_robot hp; cases h
  · exact (hI.x hp).elim
set_option maxHeartbeats 4000000 in
set_option maxRecDepth 100000 in
theorem lc_rule (l : Launch) (hlt : l.stackTraces = false) {p : Program} {e : Env} {s : State} {m : MethodId} {below : List Frame} {meth : Method} {c : Code} {b L i9 KC KS bs : Nat} {xs : Nat → Int32} {D : va_G} {cA : Nat → ClassId} {ad0 : Nat → Nat → Nat} {Q : State → Prop} (hx : p.tables.exec = Jvm.exec) (hb : c.code = code) (hml : c.maxLocals = 7) (hown : s.vm.findClass "RobotFaultsLaw" = some m.cls) (hE : os_EV D cA bs s) (hN : os_NC s) (hX : va_X b L xs s s.heap) (hbl : b < s.heap.size) (hL : L ≤ 2560) (hi5 : i9 + 5 ≤ L) (hkc : KC + 21 ≤ 601024) (hks : KS + 196 ≤ 7293034) (kk : lwK p l e s m b below meth c KC KS i9 D cA bs ad0 Q) {τ : os_S} {α : Nat → Nat → Nat} {ls : Array Slot} {H : Heap} {locs : List Loc} (hI9 : lwI τ) (hV : os_V D cA bs os_0 ad0 s τ α H locs) (hl : lv_has ls 7 [(0, .ref b), (1, .ref (α 0 0)), (2, .ref (α 13 0)), (3, .ref (α 45 0)), (4, .int (nI i9))]) : W p l e room_1 s m #[Value.ref b] below meth c H locs KC KS Q (F0 m 284 ls []) := by
  have hts := hE.hts (args := #[Value.ref b])
  have hK := hE.2.1
  have hbs := hE.2.2.1
  obtain ⟨⟨z, t, nP, hRel⟩, h45⟩ := hI9
  have hr0 : 0 < os_n τ 0 := hRel.1.n 0 (by decide)
  have hr13 : 0 < os_n τ 13 := hRel.2.1.1.n 13 (by decide) (by decide)
  have hr45 : 0 < os_n τ 45 := h45.1
  refine lv_aload_n hx hb d_Law_law_284 rfl (lv_at hl 1 rfl) ?_
  refine lv_aload_n hx hb d_Law_law_285 rfl (lv_at hl 0 rfl) ?_
  refine lv_iload hx hb d_Law_law_286 (lv_at hl 4 rfl) ?_
  refine lv_iconst (v := 1) hx hb d_Law_law_288 (by decide) ?_
  refine lv_iadd hx hb d_Law_law_289 ?_
  refine os_sld (n := (i9 + 1)) hx hb hX hbl hV hL (show nI i9 + 1 = nI (i9 + 1) from nI_add i9 1) (by omega) d_Law_law_290 ?_
  refine lv_aload_n hx hb d_Law_law_291 rfl (lv_at hl 0 rfl) ?_
  refine lv_iload hx hb d_Law_law_292 (lv_at hl 4 rfl) ?_
  refine lv_iconst (v := 2) hx hb d_Law_law_294 (by decide) ?_
  refine lv_iadd hx hb d_Law_law_295 ?_
  refine os_sld (n := (i9 + 2)) hx hb hX hbl hV hL (show nI i9 + 2 = nI (i9 + 2) from nI_add i9 2) (by omega) d_Law_law_296 ?_
  refine lv_aload_n hx hb d_Law_law_297 rfl (lv_at hl 0 rfl) ?_
  refine lv_iload hx hb d_Law_law_298 (lv_at hl 4 rfl) ?_
  refine lv_iconst (v := 3) hx hb d_Law_law_300 (by decide) ?_
  refine lv_iadd hx hb d_Law_law_301 ?_
  refine os_sld (n := (i9 + 3)) hx hb hX hbl hV hL (show nI i9 + 3 = nI (i9 + 3) from nI_add i9 3) (by omega) d_Law_law_302 ?_
  refine lv_if_eq (tgt := 310) hx hb d_Law_law_303 (by decide) (fun c_1 => ?_) (fun c_1 => ?_)
  · skip
    refine lv_iconst (v := 0) hx hb d_Law_law_310 (by decide) ?_
    refine lv_aload_n hx hb d_Law_law_311 rfl (lv_at hl 0 rfl) ?_
    refine lv_iload hx hb d_Law_law_312 (lv_at hl 4 rfl) ?_
    refine lv_iconst (v := 4) hx hb d_Law_law_314 (by decide) ?_
    refine lv_iadd hx hb d_Law_law_315 ?_
    refine os_sld (n := (i9 + 4)) hx hb hX hbl hV hL (show nI i9 + 4 = nI (i9 + 4) from nI_add i9 4) (by omega) d_Law_law_316 ?_
    refine W.eq (g2 := F0 m 317 ls [.int (xs (i9 + 4)), .int (bz false), .int (xs (i9 + 2)), .int (xs (i9 + 1)), .ref (α 0 0)]) rfl ?_
    refine os_callH (c_Law_rule l hlt D cA bs τ α (xs (i9 + 1)) (xs (i9 + 2)) false (xs (i9 + 4)) z t nP τ hRel h45) hE hN hV k_323 k_0 (os_inSW (n := 5) (bytes := method_6_code) (maxL := 6) (ret := (some .int)) hx hb hown (hts _ k_321) (hts _ k_322) (hts _ k_0) (hts _ k_323) (by decide +kernel) rfl rfl d_Law_law_317) (hl.1.trans hml.symm) (Nat.le_of_ble_eq_true rfl) (Nat.le_of_ble_eq_true rfl) (Nat.le_of_ble_eq_true rfl) (by show KC + 2 ≤ 601024; omega) (by show KS + 12 ≤ 7293034; omega) (fun v σ1 ad1 H locs hp hext hV => ?_) (fun E q ce σ1 ad1 H locs hp hext hV hce hcv hcl => ?_)
    · obtain ⟨k9, rfl⟩ := hV0.v hp
      have hm9 := hV0.m hp (fun _ _ h => (r_rule h).1)
      obtain ⟨σ_2, rfl⟩ : ∃ z, z = σ1 := ⟨_, rfl⟩
      obtain ⟨ad_3, rfl⟩ : ∃ z, z = ad1 := ⟨_, rfl⟩
      have he_4 := hext
      have hl : lv_has ls 7 [(0, .ref b), (1, .ref (ad_3 0 0)), (2, .ref (ad_3 13 0)), (3, .ref (ad_3 45 0)), (4, .int (nI i9))] := by rw [he_4.2.1 0 0 hr0, he_4.2.1 13 0 hr13, he_4.2.1 45 0 hr45]; exact hl
      refine W.eq (g2 := F0 m 320 ls [.int k9]) rfl ?_
      have hr_5 : 0 < os_n σ_2 0 := Nat.lt_of_lt_of_le hr0 (he_4.1 0)
      have hr_6 : 0 < os_n σ_2 13 := Nat.lt_of_lt_of_le hr13 (he_4.1 13)
      have hr_7 : 0 < os_n σ_2 45 := Nat.lt_of_lt_of_le hr45 (he_4.1 45)
      have hR2 : Rel z t nP τ σ_2 := hRel.to rfl hm9.1
      have h45b : 0 < os_n σ_2 45 ∧ os_l σ_2 45 0 = 1 := ⟨by rw [hm9.2.1]; exact h45.1, by rw [hm9.2.2]; exact h45.2⟩
      have hpH := hp
      refine lv_istore (lv' := [(5, .int k9), (0, .ref b), (1, .ref (ad_3 0 0)), (2, .ref (ad_3 13 0)), (3, .ref (ad_3 45 0)), (4, .int (nI i9))]) hx hb d_Law_law_320 hl (by decide) rfl (fun ls hl => ?_)
      refine lv_aload_n hx hb d_Law_law_322 rfl (lv_at hl 3 rfl) ?_
      refine lv_aload_n hx hb d_Law_law_323 rfl (lv_at hl 1 rfl) ?_
      refine lv_iload hx hb d_Law_law_324 (lv_at hl 5 rfl) ?_
      refine lv_iconst (v := 1) hx hb d_Law_law_326 (by decide) ?_
      refine lv_iadd hx hb d_Law_law_327 ?_
      refine os_sld (n := (i9 + 1)) hx hb hX hbl hV hL (show nI i9 + 1 = nI (i9 + 1) from nI_add i9 1) (by omega) d_Law_law_328 ?_
      refine lv_aload_n hx hb d_Law_law_329 rfl (lv_at hl 1 rfl) ?_
      refine lv_iload hx hb d_Law_law_330 (lv_at hl 5 rfl) ?_
      refine lv_iconst (v := 2) hx hb d_Law_law_332 (by decide) ?_
      refine lv_iadd hx hb d_Law_law_333 ?_
      refine os_sld (n := (i9 + 2)) hx hb hX hbl hV hL (show nI i9 + 2 = nI (i9 + 2) from nI_add i9 2) (by omega) d_Law_law_334 ?_
      refine lv_aload_n hx hb d_Law_law_335 rfl (lv_at hl 1 rfl) ?_
      refine lv_iload hx hb d_Law_law_336 (lv_at hl 5 rfl) ?_
      refine lv_iconst (v := 3) hx hb d_Law_law_338 (by decide) ?_
      refine lv_iadd hx hb d_Law_law_339 ?_
      refine os_sld (n := (i9 + 3)) hx hb hX hbl hV hL (show nI i9 + 3 = nI (i9 + 3) from nI_add i9 3) (by omega) d_Law_law_340 ?_
      refine lv_if_eq (tgt := 348) hx hb d_Law_law_341 (by decide) (fun c_8 => ?_) (fun c_8 => ?_)
      · skip
        refine lv_iconst (v := 0) hx hb d_Law_law_348 (by decide) ?_
        refine lv_aload_n hx hb d_Law_law_349 rfl (lv_at hl 1 rfl) ?_
        refine lv_iload hx hb d_Law_law_350 (lv_at hl 5 rfl) ?_
        refine lv_iconst (v := 4) hx hb d_Law_law_352 (by decide) ?_
        refine lv_iadd hx hb d_Law_law_353 ?_
        refine os_sld (n := (i9 + 4)) hx hb hX hbl hV hL (show nI i9 + 4 = nI (i9 + 4) from nI_add i9 4) (by omega) d_Law_law_354 ?_
        refine W.eq (g2 := F0 m 355 ls [.int (xs (i9 + 4)), .int (bz false), .int (xs (i9 + 2)), .int (xs (i9 + 1)), .ref (ad_3 13 0)]) rfl ?_
        refine os_call (c_Model_rule l hlt D cA bs σ_2 ad_3 (xs (i9 + 1)) (xs (i9 + 2)) false (xs (i9 + 4)) hR2.2.1) hE hV k_867 k_4 (os_inV (C := "RobotFaultsModel") (n := 4) (bytes := prog_9_method_12_code) (maxL := 5) (ret := none) hx hb hown (hts _ k_864) (hts _ k_865) (hts _ k_866) (hts _ k_867) (by decide +kernel) rfl (os_recv hK hV rfl rfl hr_6) rfl d_Law_law_355) (hl.1.trans hml.symm) (Nat.le_of_ble_eq_true rfl) (Nat.le_of_ble_eq_true rfl) (Nat.le_of_ble_eq_true rfl) (by show KC + 2 + 0 ≤ 601024; omega) (by show KS + 12 + 0 ≤ 7293034; omega) (fun v σ1 ad1 H locs hp hext hV => ?_) (fun E q ce σ1 ad1 H locs hp hext hV hce hcv hcl => ?_)
        · obtain ⟨rfl, hFC, hb9⟩ := e_rule hp
          cases hb9
          obtain ⟨σ_9, rfl⟩ : ∃ z, z = σ1 := ⟨_, rfl⟩
          have he_10 := hext
          have hr_11 : 0 < os_n σ_9 0 := Nat.lt_of_lt_of_le hr_5 (he_10.1 0)
          have hr_12 : 0 < os_n σ_9 13 := Nat.lt_of_lt_of_le hr_6 (he_10.1 13)
          have hr_13 : 0 < os_n σ_9 45 := Nat.lt_of_lt_of_le hr_7 (he_10.1 45)
          have hg := glV hpH (by decide) hFC (fun r0 σc hq => by obtain ⟨h1, h2⟩ := ok_rule hR2 hq hp; exact ⟨⟨_, _, _, h1⟩, h2⟩)
          obtain ⟨⟨z2, t2, nP2, hR3⟩, hcode⟩ := hg
          have h45c : 0 < os_n σ_9 45 ∧ os_l σ_9 45 0 = 1 := ⟨by rw [hFC.n45.1]; exact h45b.1, by rw [hFC.n45.2]; exact h45b.2⟩
          refine W.eq (g2 := F0 m 358 ls []) rfl ?_
          refine lv_aload_n hx hb d_Law_law_358 rfl (lv_at hl 3 rfl) ?_
          refine os_call (c_Model_thrown l hlt D cA bs σ_9 ad_3 hR3.2.1) hE hV k_844 k_4 (os_inV (C := "RobotFaultsModel") (n := 0) (bytes := prog_9_method_2_code) (maxL := 1) (ret := (some .int)) hx hb hown (hts _ k_841) (hts _ k_842) (hts _ k_843) (hts _ k_844) (by decide +kernel) rfl (os_recv hK hV rfl rfl hr_12) rfl d_Law_law_359) (hl.1.trans hml.symm) (Nat.le_of_ble_eq_true rfl) (Nat.le_of_ble_eq_true rfl) (Nat.le_of_ble_eq_true rfl) (by show KC + 2 + 0 ≤ 601024; omega) (by show KS + 12 + 0 ≤ 7293034; omega) (fun v σ1 ad1 H locs hp hext hV => ?_) (fun E q ce σ1 ad1 H locs hp hext hV hce hcv hcl => ?_)
          · obtain ⟨rfl, rfl, hp⟩ := hp
            cases hp
            refine W.eq (g2 := F0 m 362 ls [.int (os_g σ_9 13 0 0)]) rfl ?_
            refine lv_iload hx hb d_Law_law_362 (lv_at hl 0 rfl) ?_
            refine lv_icmp_eq (tgt := 369) hx hb d_Law_law_364 (by decide) (fun c_14 => ?_) (fun c_14 => ?_)
            · skip
              refine lv_goto (tgt := 1361) hx hb d_Law_law_369 (by decide) ?_
              refine W.widen (k := KC + 21) (n := KS + 196) (by show KC + 2 ≤ KC + 21; omega) (by show KS + 12 ≤ KS + 196; omega) ?_
              exact kk _ _ ls H locs ⟨⟨z2, t2, nP2, hR3⟩, h45c⟩ hV (lv_sub hl [1, 2, 3, 4, 5] rfl)
            · exact absurd hcode c_14
          · exact absurd hp.2.2 (fun h => by cases h)
        · obtain ⟨_, _, h⟩ := e_rule hp; cases h
      · exact absurd c_1 c_8
    · exact (hV0.x hp).elim
  · skip
    refine lv_iconst (v := 1) hx hb d_Law_law_306 (by decide) ?_
    refine lv_goto (tgt := 311) hx hb d_Law_law_307 (by decide) ?_
    refine lv_aload_n hx hb d_Law_law_311 rfl (lv_at hl 0 rfl) ?_
    refine lv_iload hx hb d_Law_law_312 (lv_at hl 4 rfl) ?_
    refine lv_iconst (v := 4) hx hb d_Law_law_314 (by decide) ?_
    refine lv_iadd hx hb d_Law_law_315 ?_
    refine os_sld (n := (i9 + 4)) hx hb hX hbl hV hL (show nI i9 + 4 = nI (i9 + 4) from nI_add i9 4) (by omega) d_Law_law_316 ?_
    refine W.eq (g2 := F0 m 317 ls [.int (xs (i9 + 4)), .int (bz true), .int (xs (i9 + 2)), .int (xs (i9 + 1)), .ref (α 0 0)]) rfl ?_
    refine os_callH (c_Law_rule l hlt D cA bs τ α (xs (i9 + 1)) (xs (i9 + 2)) true (xs (i9 + 4)) z t nP τ hRel h45) hE hN hV k_323 k_0 (os_inSW (n := 5) (bytes := method_6_code) (maxL := 6) (ret := (some .int)) hx hb hown (hts _ k_321) (hts _ k_322) (hts _ k_0) (hts _ k_323) (by decide +kernel) rfl rfl d_Law_law_317) (hl.1.trans hml.symm) (Nat.le_of_ble_eq_true rfl) (Nat.le_of_ble_eq_true rfl) (Nat.le_of_ble_eq_true rfl) (by show KC + 2 ≤ 601024; omega) (by show KS + 12 ≤ 7293034; omega) (fun v σ1 ad1 H locs hp hext hV => ?_) (fun E q ce σ1 ad1 H locs hp hext hV hce hcv hcl => ?_)
    · obtain ⟨k9, rfl⟩ := hV0.v hp
      have hm9 := hV0.m hp (fun _ _ h => (r_rule h).1)
      obtain ⟨σ_15, rfl⟩ : ∃ z, z = σ1 := ⟨_, rfl⟩
      obtain ⟨ad_16, rfl⟩ : ∃ z, z = ad1 := ⟨_, rfl⟩
      have he_17 := hext
      have hl : lv_has ls 7 [(0, .ref b), (1, .ref (ad_16 0 0)), (2, .ref (ad_16 13 0)), (3, .ref (ad_16 45 0)), (4, .int (nI i9))] := by rw [he_17.2.1 0 0 hr0, he_17.2.1 13 0 hr13, he_17.2.1 45 0 hr45]; exact hl
      refine W.eq (g2 := F0 m 320 ls [.int k9]) rfl ?_
      have hr_18 : 0 < os_n σ_15 0 := Nat.lt_of_lt_of_le hr0 (he_17.1 0)
      have hr_19 : 0 < os_n σ_15 13 := Nat.lt_of_lt_of_le hr13 (he_17.1 13)
      have hr_20 : 0 < os_n σ_15 45 := Nat.lt_of_lt_of_le hr45 (he_17.1 45)
      have hR2 : Rel z t nP τ σ_15 := hRel.to rfl hm9.1
      have h45b : 0 < os_n σ_15 45 ∧ os_l σ_15 45 0 = 1 := ⟨by rw [hm9.2.1]; exact h45.1, by rw [hm9.2.2]; exact h45.2⟩
      have hpH := hp
      refine lv_istore (lv' := [(5, .int k9), (0, .ref b), (1, .ref (ad_16 0 0)), (2, .ref (ad_16 13 0)), (3, .ref (ad_16 45 0)), (4, .int (nI i9))]) hx hb d_Law_law_320 hl (by decide) rfl (fun ls hl => ?_)
      refine lv_aload_n hx hb d_Law_law_322 rfl (lv_at hl 3 rfl) ?_
      refine lv_aload_n hx hb d_Law_law_323 rfl (lv_at hl 1 rfl) ?_
      refine lv_iload hx hb d_Law_law_324 (lv_at hl 5 rfl) ?_
      refine lv_iconst (v := 1) hx hb d_Law_law_326 (by decide) ?_
      refine lv_iadd hx hb d_Law_law_327 ?_
      refine os_sld (n := (i9 + 1)) hx hb hX hbl hV hL (show nI i9 + 1 = nI (i9 + 1) from nI_add i9 1) (by omega) d_Law_law_328 ?_
      refine lv_aload_n hx hb d_Law_law_329 rfl (lv_at hl 1 rfl) ?_
      refine lv_iload hx hb d_Law_law_330 (lv_at hl 5 rfl) ?_
      refine lv_iconst (v := 2) hx hb d_Law_law_332 (by decide) ?_
      refine lv_iadd hx hb d_Law_law_333 ?_
      refine os_sld (n := (i9 + 2)) hx hb hX hbl hV hL (show nI i9 + 2 = nI (i9 + 2) from nI_add i9 2) (by omega) d_Law_law_334 ?_
      refine lv_aload_n hx hb d_Law_law_335 rfl (lv_at hl 1 rfl) ?_
      refine lv_iload hx hb d_Law_law_336 (lv_at hl 5 rfl) ?_
      refine lv_iconst (v := 3) hx hb d_Law_law_338 (by decide) ?_
      refine lv_iadd hx hb d_Law_law_339 ?_
      refine os_sld (n := (i9 + 3)) hx hb hX hbl hV hL (show nI i9 + 3 = nI (i9 + 3) from nI_add i9 3) (by omega) d_Law_law_340 ?_
      refine lv_if_eq (tgt := 348) hx hb d_Law_law_341 (by decide) (fun c_21 => ?_) (fun c_21 => ?_)
      · exact absurd c_21 c_1
      · skip
        refine lv_iconst (v := 1) hx hb d_Law_law_344 (by decide) ?_
        refine lv_goto (tgt := 349) hx hb d_Law_law_345 (by decide) ?_
        refine lv_aload_n hx hb d_Law_law_349 rfl (lv_at hl 1 rfl) ?_
        refine lv_iload hx hb d_Law_law_350 (lv_at hl 5 rfl) ?_
        refine lv_iconst (v := 4) hx hb d_Law_law_352 (by decide) ?_
        refine lv_iadd hx hb d_Law_law_353 ?_
        refine os_sld (n := (i9 + 4)) hx hb hX hbl hV hL (show nI i9 + 4 = nI (i9 + 4) from nI_add i9 4) (by omega) d_Law_law_354 ?_
        refine W.eq (g2 := F0 m 355 ls [.int (xs (i9 + 4)), .int (bz true), .int (xs (i9 + 2)), .int (xs (i9 + 1)), .ref (ad_16 13 0)]) rfl ?_
        refine os_call (c_Model_rule l hlt D cA bs σ_15 ad_16 (xs (i9 + 1)) (xs (i9 + 2)) true (xs (i9 + 4)) hR2.2.1) hE hV k_867 k_4 (os_inV (C := "RobotFaultsModel") (n := 4) (bytes := prog_9_method_12_code) (maxL := 5) (ret := none) hx hb hown (hts _ k_864) (hts _ k_865) (hts _ k_866) (hts _ k_867) (by decide +kernel) rfl (os_recv hK hV rfl rfl hr_19) rfl d_Law_law_355) (hl.1.trans hml.symm) (Nat.le_of_ble_eq_true rfl) (Nat.le_of_ble_eq_true rfl) (Nat.le_of_ble_eq_true rfl) (by show KC + 2 + 0 ≤ 601024; omega) (by show KS + 12 + 0 ≤ 7293034; omega) (fun v σ1 ad1 H locs hp hext hV => ?_) (fun E q ce σ1 ad1 H locs hp hext hV hce hcv hcl => ?_)
        · obtain ⟨rfl, hFC, hb9⟩ := e_rule hp
          cases hb9
          obtain ⟨σ_22, rfl⟩ : ∃ z, z = σ1 := ⟨_, rfl⟩
          have he_23 := hext
          have hr_24 : 0 < os_n σ_22 0 := Nat.lt_of_lt_of_le hr_18 (he_23.1 0)
          have hr_25 : 0 < os_n σ_22 13 := Nat.lt_of_lt_of_le hr_19 (he_23.1 13)
          have hr_26 : 0 < os_n σ_22 45 := Nat.lt_of_lt_of_le hr_20 (he_23.1 45)
          have hg := glV hpH (by decide) hFC (fun r0 σc hq => by obtain ⟨h1, h2⟩ := ok_rule hR2 hq hp; exact ⟨⟨_, _, _, h1⟩, h2⟩)
          obtain ⟨⟨z2, t2, nP2, hR3⟩, hcode⟩ := hg
          have h45c : 0 < os_n σ_22 45 ∧ os_l σ_22 45 0 = 1 := ⟨by rw [hFC.n45.1]; exact h45b.1, by rw [hFC.n45.2]; exact h45b.2⟩
          refine W.eq (g2 := F0 m 358 ls []) rfl ?_
          refine lv_aload_n hx hb d_Law_law_358 rfl (lv_at hl 3 rfl) ?_
          refine os_call (c_Model_thrown l hlt D cA bs σ_22 ad_16 hR3.2.1) hE hV k_844 k_4 (os_inV (C := "RobotFaultsModel") (n := 0) (bytes := prog_9_method_2_code) (maxL := 1) (ret := (some .int)) hx hb hown (hts _ k_841) (hts _ k_842) (hts _ k_843) (hts _ k_844) (by decide +kernel) rfl (os_recv hK hV rfl rfl hr_25) rfl d_Law_law_359) (hl.1.trans hml.symm) (Nat.le_of_ble_eq_true rfl) (Nat.le_of_ble_eq_true rfl) (Nat.le_of_ble_eq_true rfl) (by show KC + 2 + 0 ≤ 601024; omega) (by show KS + 12 + 0 ≤ 7293034; omega) (fun v σ1 ad1 H locs hp hext hV => ?_) (fun E q ce σ1 ad1 H locs hp hext hV hce hcv hcl => ?_)
          · obtain ⟨rfl, rfl, hp⟩ := hp
            cases hp
            refine W.eq (g2 := F0 m 362 ls [.int (os_g σ_22 13 0 0)]) rfl ?_
            refine lv_iload hx hb d_Law_law_362 (lv_at hl 0 rfl) ?_
            refine lv_icmp_eq (tgt := 369) hx hb d_Law_law_364 (by decide) (fun c_27 => ?_) (fun c_27 => ?_)
            · skip
              refine lv_goto (tgt := 1361) hx hb d_Law_law_369 (by decide) ?_
              refine W.widen (k := KC + 21) (n := KS + 196) (by show KC + 2 ≤ KC + 21; omega) (by show KS + 12 ≤ KS + 196; omega) ?_
              exact kk _ _ ls H locs ⟨⟨z2, t2, nP2, hR3⟩, h45c⟩ hV (lv_sub hl [1, 2, 3, 4, 5] rfl)
            · exact absurd hcode c_27
          · exact absurd hp.2.2 (fun h => by cases h)
        · obtain ⟨_, _, h⟩ := e_rule hp; cases h
    · exact (hV0.x hp).elim
set_option maxHeartbeats 4000000 in
set_option maxRecDepth 100000 in
theorem lc_move (l : Launch) (hlt : l.stackTraces = false) {p : Program} {e : Env} {s : State} {m : MethodId} {below : List Frame} {meth : Method} {c : Code} {b L i9 KC KS bs : Nat} {xs : Nat → Int32} {D : va_G} {cA : Nat → ClassId} {ad0 : Nat → Nat → Nat} {Q : State → Prop} (hx : p.tables.exec = Jvm.exec) (hb : c.code = code) (hml : c.maxLocals = 7) (hown : s.vm.findClass "RobotFaultsLaw" = some m.cls) (hE : os_EV D cA bs s) (hN : os_NC s) (hX : va_X b L xs s s.heap) (hbl : b < s.heap.size) (hL : L ≤ 2560) (hi5 : i9 + 5 ≤ L) (hkc : KC + 21 ≤ 601024) (hks : KS + 196 ≤ 7293034) (kk : lwK p l e s m b below meth c KC KS i9 D cA bs ad0 Q) {τ : os_S} {α : Nat → Nat → Nat} {ls : Array Slot} {H : Heap} {locs : List Loc} (hI9 : lwI τ) (hV : os_V D cA bs os_0 ad0 s τ α H locs) (hl : lv_has ls 7 [(0, .ref b), (1, .ref (α 0 0)), (2, .ref (α 13 0)), (3, .ref (α 45 0)), (4, .int (nI i9))]) : W p l e room_1 s m #[Value.ref b] below meth c H locs KC KS Q (F0 m 372 ls []) := by
  have hts := hE.hts (args := #[Value.ref b])
  have hK := hE.2.1
  have hbs := hE.2.2.1
  obtain ⟨⟨z, t, nP, hRel⟩, h45⟩ := hI9
  have hr0 : 0 < os_n τ 0 := hRel.1.n 0 (by decide)
  have hr13 : 0 < os_n τ 13 := hRel.2.1.1.n 13 (by decide) (by decide)
  have hr45 : 0 < os_n τ 45 := h45.1
  refine lv_aload_n hx hb d_Law_law_372 rfl (lv_at hl 1 rfl) ?_
  refine lv_aload_n hx hb d_Law_law_373 rfl (lv_at hl 0 rfl) ?_
  refine lv_iload hx hb d_Law_law_374 (lv_at hl 4 rfl) ?_
  refine lv_iconst (v := 1) hx hb d_Law_law_376 (by decide) ?_
  refine lv_iadd hx hb d_Law_law_377 ?_
  refine os_sld (n := (i9 + 1)) hx hb hX hbl hV hL (show nI i9 + 1 = nI (i9 + 1) from nI_add i9 1) (by omega) d_Law_law_378 ?_
  refine lv_aload_n hx hb d_Law_law_379 rfl (lv_at hl 0 rfl) ?_
  refine lv_iload hx hb d_Law_law_380 (lv_at hl 4 rfl) ?_
  refine lv_iconst (v := 2) hx hb d_Law_law_382 (by decide) ?_
  refine lv_iadd hx hb d_Law_law_383 ?_
  refine os_sld (n := (i9 + 2)) hx hb hX hbl hV hL (show nI i9 + 2 = nI (i9 + 2) from nI_add i9 2) (by omega) d_Law_law_384 ?_
  refine os_callH (c_Law_move l hlt D cA bs τ α (xs (i9 + 1)) (xs (i9 + 2)) z t nP τ hRel h45) hE hN hV k_340 k_0 (os_inSW (n := 3) (bytes := method_7_code) (maxL := 4) (ret := (some .int)) hx hb hown (hts _ k_338) (hts _ k_339) (hts _ k_0) (hts _ k_340) (by decide +kernel) rfl rfl d_Law_law_385) (hl.1.trans hml.symm) (Nat.le_of_ble_eq_true rfl) (Nat.le_of_ble_eq_true rfl) (Nat.le_of_ble_eq_true rfl) (by show KC + 3 ≤ 601024; omega) (by show KS + 18 ≤ 7293034; omega) (fun v σ1 ad1 H locs hp hext hV => ?_) (fun E q ce σ1 ad1 H locs hp hext hV hce hcv hcl => ?_)
  · obtain ⟨k9, rfl⟩ := hV0.v hp
    have hm9 := hV0.m hp (fun _ _ h => (r_move h).1)
    obtain ⟨σ_1, rfl⟩ : ∃ z, z = σ1 := ⟨_, rfl⟩
    obtain ⟨ad_2, rfl⟩ : ∃ z, z = ad1 := ⟨_, rfl⟩
    have he_3 := hext
    have hl : lv_has ls 7 [(0, .ref b), (1, .ref (ad_2 0 0)), (2, .ref (ad_2 13 0)), (3, .ref (ad_2 45 0)), (4, .int (nI i9))] := by rw [he_3.2.1 0 0 hr0, he_3.2.1 13 0 hr13, he_3.2.1 45 0 hr45]; exact hl
    refine W.eq (g2 := F0 m 388 ls [.int k9]) rfl ?_
    have hr_4 : 0 < os_n σ_1 0 := Nat.lt_of_lt_of_le hr0 (he_3.1 0)
    have hr_5 : 0 < os_n σ_1 13 := Nat.lt_of_lt_of_le hr13 (he_3.1 13)
    have hr_6 : 0 < os_n σ_1 45 := Nat.lt_of_lt_of_le hr45 (he_3.1 45)
    have hR2 : Rel z t nP τ σ_1 := hRel.to rfl hm9.1
    have h45b : 0 < os_n σ_1 45 ∧ os_l σ_1 45 0 = 1 := ⟨by rw [hm9.2.1]; exact h45.1, by rw [hm9.2.2]; exact h45.2⟩
    have hpH := hp
    refine lv_istore (lv' := [(5, .int k9), (0, .ref b), (1, .ref (ad_2 0 0)), (2, .ref (ad_2 13 0)), (3, .ref (ad_2 45 0)), (4, .int (nI i9))]) hx hb d_Law_law_388 hl (by decide) rfl (fun ls hl => ?_)
    refine lv_aload_n hx hb d_Law_law_390 rfl (lv_at hl 3 rfl) ?_
    refine lv_aload_n hx hb d_Law_law_391 rfl (lv_at hl 1 rfl) ?_
    refine lv_iload hx hb d_Law_law_392 (lv_at hl 5 rfl) ?_
    refine lv_iconst (v := 1) hx hb d_Law_law_394 (by decide) ?_
    refine lv_iadd hx hb d_Law_law_395 ?_
    refine os_sld (n := (i9 + 1)) hx hb hX hbl hV hL (show nI i9 + 1 = nI (i9 + 1) from nI_add i9 1) (by omega) d_Law_law_396 ?_
    refine lv_aload_n hx hb d_Law_law_397 rfl (lv_at hl 1 rfl) ?_
    refine lv_iload hx hb d_Law_law_398 (lv_at hl 5 rfl) ?_
    refine lv_iconst (v := 2) hx hb d_Law_law_400 (by decide) ?_
    refine lv_iadd hx hb d_Law_law_401 ?_
    refine os_sld (n := (i9 + 2)) hx hb hX hbl hV hL (show nI i9 + 2 = nI (i9 + 2) from nI_add i9 2) (by omega) d_Law_law_402 ?_
    refine os_call (c_Model_move l hlt D cA bs σ_1 ad_2 (xs (i9 + 1)) (xs (i9 + 2)) hR2.2.1) hE hV k_874 k_4 (os_inV (C := "RobotFaultsModel") (n := 2) (bytes := prog_9_method_13_code) (maxL := 3) (ret := none) hx hb hown (hts _ k_871) (hts _ k_872) (hts _ k_873) (hts _ k_874) (by decide +kernel) rfl (os_recv hK hV rfl rfl hr_5) rfl d_Law_law_403) (hl.1.trans hml.symm) (Nat.le_of_ble_eq_true rfl) (Nat.le_of_ble_eq_true rfl) (Nat.le_of_ble_eq_true rfl) (by show KC + 3 + 0 ≤ 601024; omega) (by show KS + 18 + 0 ≤ 7293034; omega) (fun v σ1 ad1 H locs hp hext hV => ?_) (fun E q ce σ1 ad1 H locs hp hext hV hce hcv hcl => ?_)
    · obtain ⟨rfl, hFC, hb9⟩ := e_move hp
      cases hb9
      obtain ⟨σ_7, rfl⟩ : ∃ z, z = σ1 := ⟨_, rfl⟩
      have he_8 := hext
      have hr_9 : 0 < os_n σ_7 0 := Nat.lt_of_lt_of_le hr_4 (he_8.1 0)
      have hr_10 : 0 < os_n σ_7 13 := Nat.lt_of_lt_of_le hr_5 (he_8.1 13)
      have hr_11 : 0 < os_n σ_7 45 := Nat.lt_of_lt_of_le hr_6 (he_8.1 45)
      have hg := glV hpH (by decide) hFC (fun r0 σc hq => by obtain ⟨h1, h2⟩ := ok_move hR2 hq hp; exact ⟨⟨_, _, _, h1⟩, h2⟩)
      obtain ⟨⟨z2, t2, nP2, hR3⟩, hcode⟩ := hg
      have h45c : 0 < os_n σ_7 45 ∧ os_l σ_7 45 0 = 1 := ⟨by rw [hFC.n45.1]; exact h45b.1, by rw [hFC.n45.2]; exact h45b.2⟩
      refine W.eq (g2 := F0 m 406 ls []) rfl ?_
      refine lv_aload_n hx hb d_Law_law_406 rfl (lv_at hl 3 rfl) ?_
      refine os_call (c_Model_thrown l hlt D cA bs σ_7 ad_2 hR3.2.1) hE hV k_844 k_4 (os_inV (C := "RobotFaultsModel") (n := 0) (bytes := prog_9_method_2_code) (maxL := 1) (ret := (some .int)) hx hb hown (hts _ k_841) (hts _ k_842) (hts _ k_843) (hts _ k_844) (by decide +kernel) rfl (os_recv hK hV rfl rfl hr_10) rfl d_Law_law_407) (hl.1.trans hml.symm) (Nat.le_of_ble_eq_true rfl) (Nat.le_of_ble_eq_true rfl) (Nat.le_of_ble_eq_true rfl) (by show KC + 3 + 0 ≤ 601024; omega) (by show KS + 18 + 0 ≤ 7293034; omega) (fun v σ1 ad1 H locs hp hext hV => ?_) (fun E q ce σ1 ad1 H locs hp hext hV hce hcv hcl => ?_)
      · obtain ⟨rfl, rfl, hp⟩ := hp
        cases hp
        refine W.eq (g2 := F0 m 410 ls [.int (os_g σ_7 13 0 0)]) rfl ?_
        refine lv_iload hx hb d_Law_law_410 (lv_at hl 0 rfl) ?_
        refine lv_icmp_eq (tgt := 417) hx hb d_Law_law_412 (by decide) (fun c_12 => ?_) (fun c_12 => ?_)
        · skip
          refine lv_goto (tgt := 1361) hx hb d_Law_law_417 (by decide) ?_
          refine W.widen (k := KC + 21) (n := KS + 196) (by show KC + 3 ≤ KC + 21; omega) (by show KS + 18 ≤ KS + 196; omega) ?_
          exact kk _ _ ls H locs ⟨⟨z2, t2, nP2, hR3⟩, h45c⟩ hV (lv_sub hl [1, 2, 3, 4, 5] rfl)
        · exact absurd hcode c_12
      · exact absurd hp.2.2 (fun h => by cases h)
    · obtain ⟨_, _, h⟩ := e_move hp; cases h
  · exact (hV0.x hp).elim
set_option maxHeartbeats 4000000 in
set_option maxRecDepth 100000 in
theorem lc_load (l : Launch) (hlt : l.stackTraces = false) {p : Program} {e : Env} {s : State} {m : MethodId} {below : List Frame} {meth : Method} {c : Code} {b L i9 KC KS bs : Nat} {xs : Nat → Int32} {D : va_G} {cA : Nat → ClassId} {ad0 : Nat → Nat → Nat} {Q : State → Prop} (hx : p.tables.exec = Jvm.exec) (hb : c.code = code) (hml : c.maxLocals = 7) (hown : s.vm.findClass "RobotFaultsLaw" = some m.cls) (hE : os_EV D cA bs s) (hN : os_NC s) (hX : va_X b L xs s s.heap) (hbl : b < s.heap.size) (hL : L ≤ 2560) (hi5 : i9 + 5 ≤ L) (hkc : KC + 21 ≤ 601024) (hks : KS + 196 ≤ 7293034) (kk : lwK p l e s m b below meth c KC KS i9 D cA bs ad0 Q) {τ : os_S} {α : Nat → Nat → Nat} {ls : Array Slot} {H : Heap} {locs : List Loc} (hI9 : lwI τ) (hV : os_V D cA bs os_0 ad0 s τ α H locs) (hl : lv_has ls 7 [(0, .ref b), (1, .ref (α 0 0)), (2, .ref (α 13 0)), (3, .ref (α 45 0)), (4, .int (nI i9))]) : W p l e room_1 s m #[Value.ref b] below meth c H locs KC KS Q (F0 m 420 ls []) := by
  have hts := hE.hts (args := #[Value.ref b])
  have hK := hE.2.1
  have hbs := hE.2.2.1
  obtain ⟨⟨z, t, nP, hRel⟩, h45⟩ := hI9
  have hr0 : 0 < os_n τ 0 := hRel.1.n 0 (by decide)
  have hr13 : 0 < os_n τ 13 := hRel.2.1.1.n 13 (by decide) (by decide)
  have hr45 : 0 < os_n τ 45 := h45.1
  refine lv_aload_n hx hb d_Law_law_420 rfl (lv_at hl 1 rfl) ?_
  refine lv_aload_n hx hb d_Law_law_421 rfl (lv_at hl 0 rfl) ?_
  refine lv_iload hx hb d_Law_law_422 (lv_at hl 4 rfl) ?_
  refine lv_iconst (v := 1) hx hb d_Law_law_424 (by decide) ?_
  refine lv_iadd hx hb d_Law_law_425 ?_
  refine os_sld (n := (i9 + 1)) hx hb hX hbl hV hL (show nI i9 + 1 = nI (i9 + 1) from nI_add i9 1) (by omega) d_Law_law_426 ?_
  refine lv_aload_n hx hb d_Law_law_427 rfl (lv_at hl 0 rfl) ?_
  refine lv_iload hx hb d_Law_law_428 (lv_at hl 4 rfl) ?_
  refine lv_iconst (v := 2) hx hb d_Law_law_430 (by decide) ?_
  refine lv_iadd hx hb d_Law_law_431 ?_
  refine os_sld (n := (i9 + 2)) hx hb hX hbl hV hL (show nI i9 + 2 = nI (i9 + 2) from nI_add i9 2) (by omega) d_Law_law_432 ?_
  refine os_callH (c_Law_load l hlt D cA bs τ α (xs (i9 + 1)) (xs (i9 + 2)) z t nP τ hRel h45) hE hN hV k_377 k_0 (os_inSW (n := 3) (bytes := method_8_code) (maxL := 4) (ret := (some .int)) hx hb hown (hts _ k_375) (hts _ k_376) (hts _ k_0) (hts _ k_377) (by decide +kernel) rfl rfl d_Law_law_433) (hl.1.trans hml.symm) (Nat.le_of_ble_eq_true rfl) (Nat.le_of_ble_eq_true rfl) (Nat.le_of_ble_eq_true rfl) (by show KC + 2 ≤ 601024; omega) (by show KS + 12 ≤ 7293034; omega) (fun v σ1 ad1 H locs hp hext hV => ?_) (fun E q ce σ1 ad1 H locs hp hext hV hce hcv hcl => ?_)
  · obtain ⟨k9, rfl⟩ := hV0.v hp
    have hm9 := hV0.m hp (fun _ _ h => (r_load h).1)
    obtain ⟨σ_1, rfl⟩ : ∃ z, z = σ1 := ⟨_, rfl⟩
    obtain ⟨ad_2, rfl⟩ : ∃ z, z = ad1 := ⟨_, rfl⟩
    have he_3 := hext
    have hl : lv_has ls 7 [(0, .ref b), (1, .ref (ad_2 0 0)), (2, .ref (ad_2 13 0)), (3, .ref (ad_2 45 0)), (4, .int (nI i9))] := by rw [he_3.2.1 0 0 hr0, he_3.2.1 13 0 hr13, he_3.2.1 45 0 hr45]; exact hl
    refine W.eq (g2 := F0 m 436 ls [.int k9]) rfl ?_
    have hr_4 : 0 < os_n σ_1 0 := Nat.lt_of_lt_of_le hr0 (he_3.1 0)
    have hr_5 : 0 < os_n σ_1 13 := Nat.lt_of_lt_of_le hr13 (he_3.1 13)
    have hr_6 : 0 < os_n σ_1 45 := Nat.lt_of_lt_of_le hr45 (he_3.1 45)
    have hR2 : Rel z t nP τ σ_1 := hRel.to rfl hm9.1
    have h45b : 0 < os_n σ_1 45 ∧ os_l σ_1 45 0 = 1 := ⟨by rw [hm9.2.1]; exact h45.1, by rw [hm9.2.2]; exact h45.2⟩
    have hpH := hp
    refine lv_istore (lv' := [(5, .int k9), (0, .ref b), (1, .ref (ad_2 0 0)), (2, .ref (ad_2 13 0)), (3, .ref (ad_2 45 0)), (4, .int (nI i9))]) hx hb d_Law_law_436 hl (by decide) rfl (fun ls hl => ?_)
    refine lv_aload_n hx hb d_Law_law_438 rfl (lv_at hl 3 rfl) ?_
    refine lv_aload_n hx hb d_Law_law_439 rfl (lv_at hl 1 rfl) ?_
    refine lv_iload hx hb d_Law_law_440 (lv_at hl 5 rfl) ?_
    refine lv_iconst (v := 1) hx hb d_Law_law_442 (by decide) ?_
    refine lv_iadd hx hb d_Law_law_443 ?_
    refine os_sld (n := (i9 + 1)) hx hb hX hbl hV hL (show nI i9 + 1 = nI (i9 + 1) from nI_add i9 1) (by omega) d_Law_law_444 ?_
    refine lv_aload_n hx hb d_Law_law_445 rfl (lv_at hl 1 rfl) ?_
    refine lv_iload hx hb d_Law_law_446 (lv_at hl 5 rfl) ?_
    refine lv_iconst (v := 2) hx hb d_Law_law_448 (by decide) ?_
    refine lv_iadd hx hb d_Law_law_449 ?_
    refine os_sld (n := (i9 + 2)) hx hb hX hbl hV hL (show nI i9 + 2 = nI (i9 + 2) from nI_add i9 2) (by omega) d_Law_law_450 ?_
    refine os_call (c_Model_load l hlt D cA bs σ_1 ad_2 (xs (i9 + 1)) (xs (i9 + 2)) hR2.2.1) hE hV k_882 k_4 (os_inV (C := "RobotFaultsModel") (n := 2) (bytes := prog_9_method_14_code) (maxL := 3) (ret := none) hx hb hown (hts _ k_879) (hts _ k_880) (hts _ k_881) (hts _ k_882) (by decide +kernel) rfl (os_recv hK hV rfl rfl hr_5) rfl d_Law_law_451) (hl.1.trans hml.symm) (Nat.le_of_ble_eq_true rfl) (Nat.le_of_ble_eq_true rfl) (Nat.le_of_ble_eq_true rfl) (by show KC + 2 + 0 ≤ 601024; omega) (by show KS + 12 + 0 ≤ 7293034; omega) (fun v σ1 ad1 H locs hp hext hV => ?_) (fun E q ce σ1 ad1 H locs hp hext hV hce hcv hcl => ?_)
    · obtain ⟨rfl, hFC, hb9⟩ := e_load hp
      cases hb9
      obtain ⟨σ_7, rfl⟩ : ∃ z, z = σ1 := ⟨_, rfl⟩
      have he_8 := hext
      have hr_9 : 0 < os_n σ_7 0 := Nat.lt_of_lt_of_le hr_4 (he_8.1 0)
      have hr_10 : 0 < os_n σ_7 13 := Nat.lt_of_lt_of_le hr_5 (he_8.1 13)
      have hr_11 : 0 < os_n σ_7 45 := Nat.lt_of_lt_of_le hr_6 (he_8.1 45)
      have hg := glV hpH (by decide) hFC (fun r0 σc hq => by obtain ⟨h1, h2⟩ := ok_load hR2 hq hp; exact ⟨⟨_, _, _, h1⟩, h2⟩)
      obtain ⟨⟨z2, t2, nP2, hR3⟩, hcode⟩ := hg
      have h45c : 0 < os_n σ_7 45 ∧ os_l σ_7 45 0 = 1 := ⟨by rw [hFC.n45.1]; exact h45b.1, by rw [hFC.n45.2]; exact h45b.2⟩
      refine W.eq (g2 := F0 m 454 ls []) rfl ?_
      refine lv_aload_n hx hb d_Law_law_454 rfl (lv_at hl 3 rfl) ?_
      refine os_call (c_Model_thrown l hlt D cA bs σ_7 ad_2 hR3.2.1) hE hV k_844 k_4 (os_inV (C := "RobotFaultsModel") (n := 0) (bytes := prog_9_method_2_code) (maxL := 1) (ret := (some .int)) hx hb hown (hts _ k_841) (hts _ k_842) (hts _ k_843) (hts _ k_844) (by decide +kernel) rfl (os_recv hK hV rfl rfl hr_10) rfl d_Law_law_455) (hl.1.trans hml.symm) (Nat.le_of_ble_eq_true rfl) (Nat.le_of_ble_eq_true rfl) (Nat.le_of_ble_eq_true rfl) (by show KC + 2 + 0 ≤ 601024; omega) (by show KS + 12 + 0 ≤ 7293034; omega) (fun v σ1 ad1 H locs hp hext hV => ?_) (fun E q ce σ1 ad1 H locs hp hext hV hce hcv hcl => ?_)
      · obtain ⟨rfl, rfl, hp⟩ := hp
        cases hp
        refine W.eq (g2 := F0 m 458 ls [.int (os_g σ_7 13 0 0)]) rfl ?_
        refine lv_iload hx hb d_Law_law_458 (lv_at hl 0 rfl) ?_
        refine lv_icmp_eq (tgt := 465) hx hb d_Law_law_460 (by decide) (fun c_12 => ?_) (fun c_12 => ?_)
        · skip
          refine lv_goto (tgt := 1361) hx hb d_Law_law_465 (by decide) ?_
          refine W.widen (k := KC + 21) (n := KS + 196) (by show KC + 2 ≤ KC + 21; omega) (by show KS + 12 ≤ KS + 196; omega) ?_
          exact kk _ _ ls H locs ⟨⟨z2, t2, nP2, hR3⟩, h45c⟩ hV (lv_sub hl [1, 2, 3, 4, 5] rfl)
        · exact absurd hcode c_12
      · exact absurd hp.2.2 (fun h => by cases h)
    · obtain ⟨_, _, h⟩ := e_load hp; cases h
  · exact (hV0.x hp).elim
set_option maxHeartbeats 4000000 in
set_option maxRecDepth 100000 in
theorem lc_fault (l : Launch) (hlt : l.stackTraces = false) {p : Program} {e : Env} {s : State} {m : MethodId} {below : List Frame} {meth : Method} {c : Code} {b L i9 KC KS bs : Nat} {xs : Nat → Int32} {D : va_G} {cA : Nat → ClassId} {ad0 : Nat → Nat → Nat} {Q : State → Prop} (hx : p.tables.exec = Jvm.exec) (hb : c.code = code) (hml : c.maxLocals = 7) (hown : s.vm.findClass "RobotFaultsLaw" = some m.cls) (hE : os_EV D cA bs s) (hN : os_NC s) (hX : va_X b L xs s s.heap) (hbl : b < s.heap.size) (hL : L ≤ 2560) (hi5 : i9 + 5 ≤ L) (hkc : KC + 21 ≤ 601024) (hks : KS + 196 ≤ 7293034) (kk : lwK p l e s m b below meth c KC KS i9 D cA bs ad0 Q) {τ : os_S} {α : Nat → Nat → Nat} {ls : Array Slot} {H : Heap} {locs : List Loc} (hI9 : lwI τ) (hV : os_V D cA bs os_0 ad0 s τ α H locs) (hl : lv_has ls 7 [(0, .ref b), (1, .ref (α 0 0)), (2, .ref (α 13 0)), (3, .ref (α 45 0)), (4, .int (nI i9))]) : W p l e room_1 s m #[Value.ref b] below meth c H locs KC KS Q (F0 m 468 ls []) := by
  have hts := hE.hts (args := #[Value.ref b])
  have hK := hE.2.1
  have hbs := hE.2.2.1
  obtain ⟨⟨z, t, nP, hRel⟩, h45⟩ := hI9
  have hr0 : 0 < os_n τ 0 := hRel.1.n 0 (by decide)
  have hr13 : 0 < os_n τ 13 := hRel.2.1.1.n 13 (by decide) (by decide)
  have hr45 : 0 < os_n τ 45 := h45.1
  refine lv_aload_n hx hb d_Law_law_468 rfl (lv_at hl 1 rfl) ?_
  refine lv_aload_n hx hb d_Law_law_469 rfl (lv_at hl 0 rfl) ?_
  refine lv_iload hx hb d_Law_law_470 (lv_at hl 4 rfl) ?_
  refine lv_iconst (v := 1) hx hb d_Law_law_472 (by decide) ?_
  refine lv_iadd hx hb d_Law_law_473 ?_
  refine os_sld (n := (i9 + 1)) hx hb hX hbl hV hL (show nI i9 + 1 = nI (i9 + 1) from nI_add i9 1) (by omega) d_Law_law_474 ?_
  refine lv_aload_n hx hb d_Law_law_475 rfl (lv_at hl 0 rfl) ?_
  refine lv_iload hx hb d_Law_law_476 (lv_at hl 4 rfl) ?_
  refine lv_iconst (v := 2) hx hb d_Law_law_478 (by decide) ?_
  refine lv_iadd hx hb d_Law_law_479 ?_
  refine os_sld (n := (i9 + 2)) hx hb hX hbl hV hL (show nI i9 + 2 = nI (i9 + 2) from nI_add i9 2) (by omega) d_Law_law_480 ?_
  refine lv_aload_n hx hb d_Law_law_481 rfl (lv_at hl 3 rfl) ?_
  refine os_callH (c_Law_fault l hlt D cA bs τ α (xs (i9 + 1)) (xs (i9 + 2)) z t nP τ hRel h45) hE hN hV k_386 k_0 (os_inSW (n := 4) (bytes := method_9_code) (maxL := 5) (ret := (some .int)) hx hb hown (hts _ k_384) (hts _ k_385) (hts _ k_0) (hts _ k_386) (by decide +kernel) rfl rfl d_Law_law_482) (hl.1.trans hml.symm) (Nat.le_of_ble_eq_true rfl) (Nat.le_of_ble_eq_true rfl) (Nat.le_of_ble_eq_true rfl) (by show KC + 6 ≤ 601024; omega) (by show KS + 43 ≤ 7293034; omega) (fun v σ1 ad1 H locs hp hext hV => ?_) (fun E q ce σ1 ad1 H locs hp hext hV hce hcv hcl => ?_)
  · obtain ⟨k9, rfl⟩ := hI.v hp
    have hm9 := hI.m hp (fun _ _ h => (r_fault h).1)
    obtain ⟨σ_1, rfl⟩ : ∃ z, z = σ1 := ⟨_, rfl⟩
    obtain ⟨ad_2, rfl⟩ : ∃ z, z = ad1 := ⟨_, rfl⟩
    have he_3 := hext
    have hl : lv_has ls 7 [(0, .ref b), (1, .ref (ad_2 0 0)), (2, .ref (ad_2 13 0)), (3, .ref (ad_2 45 0)), (4, .int (nI i9))] := by rw [he_3.2.1 0 0 hr0, he_3.2.1 13 0 hr13, he_3.2.1 45 0 hr45]; exact hl
    refine W.eq (g2 := F0 m 485 ls [.int k9]) rfl ?_
    have hr_4 : 0 < os_n σ_1 0 := Nat.lt_of_lt_of_le hr0 (he_3.1 0)
    have hr_5 : 0 < os_n σ_1 13 := Nat.lt_of_lt_of_le hr13 (he_3.1 13)
    have hr_6 : 0 < os_n σ_1 45 := Nat.lt_of_lt_of_le hr45 (he_3.1 45)
    have hR2 : Rel z t nP τ σ_1 := hRel.to rfl hm9.1
    have h45b : 0 < os_n σ_1 45 ∧ os_l σ_1 45 0 = 1 := ⟨by rw [hm9.2.1]; exact h45.1, by rw [hm9.2.2]; exact h45.2⟩
    have hpH := hp
    refine lv_istore (lv' := [(5, .int k9), (0, .ref b), (1, .ref (ad_2 0 0)), (2, .ref (ad_2 13 0)), (3, .ref (ad_2 45 0)), (4, .int (nI i9))]) hx hb d_Law_law_485 hl (by decide) rfl (fun ls hl => ?_)
    refine lv_aload_n hx hb d_Law_law_487 rfl (lv_at hl 3 rfl) ?_
    refine lv_aload_n hx hb d_Law_law_488 rfl (lv_at hl 1 rfl) ?_
    refine lv_iload hx hb d_Law_law_489 (lv_at hl 5 rfl) ?_
    refine lv_iconst (v := 1) hx hb d_Law_law_491 (by decide) ?_
    refine lv_iadd hx hb d_Law_law_492 ?_
    refine os_sld (n := (i9 + 1)) hx hb hX hbl hV hL (show nI i9 + 1 = nI (i9 + 1) from nI_add i9 1) (by omega) d_Law_law_493 ?_
    refine lv_aload_n hx hb d_Law_law_494 rfl (lv_at hl 1 rfl) ?_
    refine lv_iload hx hb d_Law_law_495 (lv_at hl 5 rfl) ?_
    refine lv_iconst (v := 2) hx hb d_Law_law_497 (by decide) ?_
    refine lv_iadd hx hb d_Law_law_498 ?_
    refine os_sld (n := (i9 + 2)) hx hb hX hbl hV hL (show nI i9 + 2 = nI (i9 + 2) from nI_add i9 2) (by omega) d_Law_law_499 ?_
    refine os_call (c_Model_fault l hlt D cA bs σ_1 ad_2 (xs (i9 + 1)) (xs (i9 + 2)) hR2.2.1 hR2.MJ.2) hE hV k_886 k_4 (os_inV (C := "RobotFaultsModel") (n := 2) (bytes := prog_9_method_20_code) (maxL := 3) (ret := (some .int)) hx hb hown (hts _ k_883) (hts _ k_884) (hts _ k_885) (hts _ k_886) (by decide +kernel) rfl (os_recv hK hV rfl rfl hr_5) rfl d_Law_law_500) (hl.1.trans hml.symm) (Nat.le_of_ble_eq_true rfl) (Nat.le_of_ble_eq_true rfl) (Nat.le_of_ble_eq_true rfl) (by show KC + 6 + 0 ≤ 601024; omega) (by show KS + 43 + 0 ≤ 7293034; omega) (fun v σ1 ad1 H locs hp hext hV => ?_) (fun E q ce σ1 ad1 H locs hp hext hV hce hcv hcl => ?_)
    · obtain ⟨rfl, hFC, b9, hb9⟩ := e_fault hp
      cases hb9
      obtain ⟨σ_7, rfl⟩ : ∃ z, z = σ1 := ⟨_, rfl⟩
      have he_8 := hext
      have hr_9 : 0 < os_n σ_7 0 := Nat.lt_of_lt_of_le hr_4 (he_8.1 0)
      have hr_10 : 0 < os_n σ_7 13 := Nat.lt_of_lt_of_le hr_5 (he_8.1 13)
      have hr_11 : 0 < os_n σ_7 45 := Nat.lt_of_lt_of_le hr_6 (he_8.1 45)
      have hg := glI hpH (by decide) hFC (fun r0 σc hq => by obtain ⟨h1, h2⟩ := ok_fault hR2 hq hp; exact ⟨⟨_, _, _, h1⟩, h2⟩)
      obtain ⟨⟨z2, t2, nP2, hR3⟩, hcode, hout⟩ := hg
      have h45c : 0 < os_n σ_7 45 ∧ os_l σ_7 45 0 = 1 := ⟨by rw [hFC.n45.1]; exact h45b.1, by rw [hFC.n45.2]; exact h45b.2⟩
      refine W.eq (g2 := F0 m 503 ls [.int b9]) rfl ?_
      refine lv_istore (lv' := [(6, .int b9), (5, .int k9), (0, .ref b), (1, .ref (ad_2 0 0)), (2, .ref (ad_2 13 0)), (3, .ref (ad_2 45 0)), (4, .int (nI i9))]) hx hb d_Law_law_503 hl (by decide) rfl (fun ls hl => ?_)
      refine lv_aload_n hx hb d_Law_law_505 rfl (lv_at hl 4 rfl) ?_
      refine os_call (c_Model_thrown l hlt D cA bs σ_7 ad_2 hR3.2.1) hE hV k_844 k_4 (os_inV (C := "RobotFaultsModel") (n := 0) (bytes := prog_9_method_2_code) (maxL := 1) (ret := (some .int)) hx hb hown (hts _ k_841) (hts _ k_842) (hts _ k_843) (hts _ k_844) (by decide +kernel) rfl (os_recv hK hV rfl rfl hr_10) rfl d_Law_law_506) (hl.1.trans hml.symm) (Nat.le_of_ble_eq_true rfl) (Nat.le_of_ble_eq_true rfl) (Nat.le_of_ble_eq_true rfl) (by show KC + 6 + 0 ≤ 601024; omega) (by show KS + 43 + 0 ≤ 7293034; omega) (fun v σ1 ad1 H locs hp hext hV => ?_) (fun E q ce σ1 ad1 H locs hp hext hV hce hcv hcl => ?_)
      · obtain ⟨rfl, rfl, hp⟩ := hp
        cases hp
        refine W.eq (g2 := F0 m 509 ls [.int (os_g σ_7 13 0 0)]) rfl ?_
        refine lv_iload hx hb d_Law_law_509 (lv_at hl 1 rfl) ?_
        refine lv_icmp_eq (tgt := 516) hx hb d_Law_law_511 (by decide) (fun c_12 => ?_) (fun c_12 => ?_)
        · skip
          refine lv_iload hx hb d_Law_law_516 (lv_at hl 1 rfl) ?_
          refine lv_if_ne (tgt := 533) hx hb d_Law_law_518 (by decide) (fun c_13 => ?_) (fun c_13 => ?_)
          · skip
            refine lv_goto (tgt := 1361) hx hb d_Law_law_533 (by decide) ?_
            refine W.widen (k := KC + 21) (n := KS + 196) (by show KC + 6 ≤ KC + 21; omega) (by show KS + 43 ≤ KS + 196; omega) ?_
            exact kk _ _ ls H locs ⟨⟨z2, t2, nP2, hR3⟩, h45c⟩ hV (lv_sub hl [2, 3, 4, 5, 6] rfl)
          · skip
            refine lv_aload_n hx hb d_Law_law_521 rfl (lv_at hl 5 rfl) ?_
            refine lv_iconst (v := 0) hx hb d_Law_law_522 (by decide) ?_
            refine os_laldN (K := 45) (i := 0) (t0 := 2) (n := 0) hx hb hK hV rfl rfl rfl hr_11 rfl (by rw [show os_l σ_7 45 0 = 1 from h45c.2]; decide) (by rw [show os_l σ_7 45 0 = 1 from h45c.2]; decide) d_Law_law_523 ?_
            refine lv_iload hx hb d_Law_law_524 (lv_at hl 0 rfl) ?_
            refine lv_i2l (v := Int32.toInt64 b9) hx hb d_Law_law_526 rfl ?_
            refine W.eq (g2 := F0 m 527 ls [.long (Int32.toInt64 b9), .long (Int32.toInt64 b9)]) (by rw [hout c_13]) ?_
            refine W.lcmpE hx hb d_Law_law_527 ?_
            refine lv_if_eq (tgt := 533) hx hb d_Law_law_528 (by decide) (fun c_14 => ?_) (fun c_14 => ?_)
            · skip
              refine lv_goto (tgt := 1361) hx hb d_Law_law_533 (by decide) ?_
              refine W.widen (k := KC + 21) (n := KS + 196) (by show KC + 6 ≤ KC + 21; omega) (by show KS + 43 ≤ KS + 196; omega) ?_
              exact kk _ _ ls H locs ⟨⟨z2, t2, nP2, hR3⟩, h45c⟩ hV (lv_sub hl [2, 3, 4, 5, 6] rfl)
            · exact absurd (by decide) c_14
        · exact absurd hcode c_12
      · exact absurd hp.2.2 (fun h => by cases h)
    · obtain ⟨_, _, _, h⟩ := e_fault hp; cases h
  · exact (hI.x hp).elim
set_option maxHeartbeats 4000000 in
set_option maxRecDepth 100000 in
theorem lc_step (l : Launch) (hlt : l.stackTraces = false) {p : Program} {e : Env} {s : State} {m : MethodId} {below : List Frame} {meth : Method} {c : Code} {b L i9 KC KS bs : Nat} {xs : Nat → Int32} {D : va_G} {cA : Nat → ClassId} {ad0 : Nat → Nat → Nat} {Q : State → Prop} (hx : p.tables.exec = Jvm.exec) (hb : c.code = code) (hml : c.maxLocals = 7) (hown : s.vm.findClass "RobotFaultsLaw" = some m.cls) (hE : os_EV D cA bs s) (hN : os_NC s) (hX : va_X b L xs s s.heap) (hbl : b < s.heap.size) (hL : L ≤ 2560) (hi5 : i9 + 5 ≤ L) (hkc : KC + 21 ≤ 601024) (hks : KS + 196 ≤ 7293034) (kk : lwK p l e s m b below meth c KC KS i9 D cA bs ad0 Q) {τ : os_S} {α : Nat → Nat → Nat} {ls : Array Slot} {H : Heap} {locs : List Loc} (hI9 : lwI τ) (hV : os_V D cA bs os_0 ad0 s τ α H locs) (hl : lv_has ls 7 [(0, .ref b), (1, .ref (α 0 0)), (2, .ref (α 13 0)), (3, .ref (α 45 0)), (4, .int (nI i9))]) : W p l e room_1 s m #[Value.ref b] below meth c H locs KC KS Q (F0 m 536 ls []) := by
  have hts := hE.hts (args := #[Value.ref b])
  have hK := hE.2.1
  have hbs := hE.2.2.1
  obtain ⟨⟨z, t, nP, hRel⟩, h45⟩ := hI9
  have hr0 : 0 < os_n τ 0 := hRel.1.n 0 (by decide)
  have hr13 : 0 < os_n τ 13 := hRel.2.1.1.n 13 (by decide) (by decide)
  have hr45 : 0 < os_n τ 45 := h45.1
  refine lv_aload_n hx hb d_Law_law_536 rfl (lv_at hl 1 rfl) ?_
  refine lv_aload_n hx hb d_Law_law_537 rfl (lv_at hl 0 rfl) ?_
  refine lv_iload hx hb d_Law_law_538 (lv_at hl 4 rfl) ?_
  refine lv_iconst (v := 1) hx hb d_Law_law_540 (by decide) ?_
  refine lv_iadd hx hb d_Law_law_541 ?_
  refine os_sld (n := (i9 + 1)) hx hb hX hbl hV hL (show nI i9 + 1 = nI (i9 + 1) from nI_add i9 1) (by omega) d_Law_law_542 ?_
  refine lv_aload_n hx hb d_Law_law_543 rfl (lv_at hl 0 rfl) ?_
  refine lv_iload hx hb d_Law_law_544 (lv_at hl 4 rfl) ?_
  refine lv_iconst (v := 2) hx hb d_Law_law_546 (by decide) ?_
  refine lv_iadd hx hb d_Law_law_547 ?_
  refine os_sld (n := (i9 + 2)) hx hb hX hbl hV hL (show nI i9 + 2 = nI (i9 + 2) from nI_add i9 2) (by omega) d_Law_law_548 ?_
  refine lv_aload_n hx hb d_Law_law_549 rfl (lv_at hl 3 rfl) ?_
  refine os_callH (c_Law_step l hlt D cA bs τ α (xs (i9 + 1)) (xs (i9 + 2)) z t nP τ hRel h45) hE hN hV k_520 k_0 (os_inSW (n := 4) (bytes := method_10_code) (maxL := 5) (ret := (some .int)) hx hb hown (hts _ k_518) (hts _ k_519) (hts _ k_0) (hts _ k_520) (by decide +kernel) rfl rfl d_Law_law_550) (hl.1.trans hml.symm) (Nat.le_of_ble_eq_true rfl) (Nat.le_of_ble_eq_true rfl) (Nat.le_of_ble_eq_true rfl) (by show KC + 3 ≤ 601024; omega) (by show KS + 18 ≤ 7293034; omega) (fun v σ1 ad1 H locs hp hext hV => ?_) (fun E q ce σ1 ad1 H locs hp hext hV hce hcv hcl => ?_)
  · obtain ⟨k9, rfl⟩ := hI.v hp
    have hm9 := hI.m hp (fun _ _ h => (r_step h).1)
    obtain ⟨σ_1, rfl⟩ : ∃ z, z = σ1 := ⟨_, rfl⟩
    obtain ⟨ad_2, rfl⟩ : ∃ z, z = ad1 := ⟨_, rfl⟩
    have he_3 := hext
    have hl : lv_has ls 7 [(0, .ref b), (1, .ref (ad_2 0 0)), (2, .ref (ad_2 13 0)), (3, .ref (ad_2 45 0)), (4, .int (nI i9))] := by rw [he_3.2.1 0 0 hr0, he_3.2.1 13 0 hr13, he_3.2.1 45 0 hr45]; exact hl
    refine W.eq (g2 := F0 m 553 ls [.int k9]) rfl ?_
    have hr_4 : 0 < os_n σ_1 0 := Nat.lt_of_lt_of_le hr0 (he_3.1 0)
    have hr_5 : 0 < os_n σ_1 13 := Nat.lt_of_lt_of_le hr13 (he_3.1 13)
    have hr_6 : 0 < os_n σ_1 45 := Nat.lt_of_lt_of_le hr45 (he_3.1 45)
    have hR2 : Rel z t nP τ σ_1 := hRel.to rfl hm9.1
    have h45b : 0 < os_n σ_1 45 ∧ os_l σ_1 45 0 = 1 := ⟨by rw [hm9.2.1]; exact h45.1, by rw [hm9.2.2]; exact h45.2⟩
    have hpH := hp
    refine lv_istore (lv' := [(5, .int k9), (0, .ref b), (1, .ref (ad_2 0 0)), (2, .ref (ad_2 13 0)), (3, .ref (ad_2 45 0)), (4, .int (nI i9))]) hx hb d_Law_law_553 hl (by decide) rfl (fun ls hl => ?_)
    refine lv_aload_n hx hb d_Law_law_555 rfl (lv_at hl 3 rfl) ?_
    refine lv_aload_n hx hb d_Law_law_556 rfl (lv_at hl 1 rfl) ?_
    refine lv_iload hx hb d_Law_law_557 (lv_at hl 5 rfl) ?_
    refine lv_iconst (v := 1) hx hb d_Law_law_559 (by decide) ?_
    refine lv_iadd hx hb d_Law_law_560 ?_
    refine os_sld (n := (i9 + 1)) hx hb hX hbl hV hL (show nI i9 + 1 = nI (i9 + 1) from nI_add i9 1) (by omega) d_Law_law_561 ?_
    refine lv_aload_n hx hb d_Law_law_562 rfl (lv_at hl 1 rfl) ?_
    refine lv_iload hx hb d_Law_law_563 (lv_at hl 5 rfl) ?_
    refine lv_iconst (v := 2) hx hb d_Law_law_565 (by decide) ?_
    refine lv_iadd hx hb d_Law_law_566 ?_
    refine os_sld (n := (i9 + 2)) hx hb hX hbl hV hL (show nI i9 + 2 = nI (i9 + 2) from nI_add i9 2) (by omega) d_Law_law_567 ?_
    refine os_call (c_Model_step l hlt D cA bs σ_1 ad_2 (xs (i9 + 1)) (xs (i9 + 2)) hR2.2.1) hE hV k_906 k_4 (os_inV (C := "RobotFaultsModel") (n := 2) (bytes := prog_9_method_22_code) (maxL := 3) (ret := (some .int)) hx hb hown (hts _ k_903) (hts _ k_904) (hts _ k_905) (hts _ k_906) (by decide +kernel) rfl (os_recv hK hV rfl rfl hr_5) rfl d_Law_law_568) (hl.1.trans hml.symm) (Nat.le_of_ble_eq_true rfl) (Nat.le_of_ble_eq_true rfl) (Nat.le_of_ble_eq_true rfl) (by show KC + 3 + 0 ≤ 601024; omega) (by show KS + 18 + 0 ≤ 7293034; omega) (fun v σ1 ad1 H locs hp hext hV => ?_) (fun E q ce σ1 ad1 H locs hp hext hV hce hcv hcl => ?_)
    · obtain ⟨rfl, hFC, b9, hb9⟩ := e_step hp
      cases hb9
      obtain ⟨σ_7, rfl⟩ : ∃ z, z = σ1 := ⟨_, rfl⟩
      have he_8 := hext
      have hr_9 : 0 < os_n σ_7 0 := Nat.lt_of_lt_of_le hr_4 (he_8.1 0)
      have hr_10 : 0 < os_n σ_7 13 := Nat.lt_of_lt_of_le hr_5 (he_8.1 13)
      have hr_11 : 0 < os_n σ_7 45 := Nat.lt_of_lt_of_le hr_6 (he_8.1 45)
      have hg := glI hpH (by decide) hFC (fun r0 σc hq => by obtain ⟨h1, h2⟩ := ok_step hR2 hq hp; exact ⟨⟨_, _, _, h1⟩, h2⟩)
      obtain ⟨⟨z2, t2, nP2, hR3⟩, hcode, hout⟩ := hg
      have h45c : 0 < os_n σ_7 45 ∧ os_l σ_7 45 0 = 1 := ⟨by rw [hFC.n45.1]; exact h45b.1, by rw [hFC.n45.2]; exact h45b.2⟩
      refine W.eq (g2 := F0 m 571 ls [.int b9]) rfl ?_
      refine lv_istore (lv' := [(6, .int b9), (5, .int k9), (0, .ref b), (1, .ref (ad_2 0 0)), (2, .ref (ad_2 13 0)), (3, .ref (ad_2 45 0)), (4, .int (nI i9))]) hx hb d_Law_law_571 hl (by decide) rfl (fun ls hl => ?_)
      refine lv_aload_n hx hb d_Law_law_573 rfl (lv_at hl 4 rfl) ?_
      refine os_call (c_Model_thrown l hlt D cA bs σ_7 ad_2 hR3.2.1) hE hV k_844 k_4 (os_inV (C := "RobotFaultsModel") (n := 0) (bytes := prog_9_method_2_code) (maxL := 1) (ret := (some .int)) hx hb hown (hts _ k_841) (hts _ k_842) (hts _ k_843) (hts _ k_844) (by decide +kernel) rfl (os_recv hK hV rfl rfl hr_10) rfl d_Law_law_574) (hl.1.trans hml.symm) (Nat.le_of_ble_eq_true rfl) (Nat.le_of_ble_eq_true rfl) (Nat.le_of_ble_eq_true rfl) (by show KC + 3 + 0 ≤ 601024; omega) (by show KS + 18 + 0 ≤ 7293034; omega) (fun v σ1 ad1 H locs hp hext hV => ?_) (fun E q ce σ1 ad1 H locs hp hext hV hce hcv hcl => ?_)
      · obtain ⟨rfl, rfl, hp⟩ := hp
        cases hp
        refine W.eq (g2 := F0 m 577 ls [.int (os_g σ_7 13 0 0)]) rfl ?_
        refine lv_iload hx hb d_Law_law_577 (lv_at hl 1 rfl) ?_
        refine lv_icmp_eq (tgt := 584) hx hb d_Law_law_579 (by decide) (fun c_12 => ?_) (fun c_12 => ?_)
        · skip
          refine lv_iload hx hb d_Law_law_584 (lv_at hl 1 rfl) ?_
          refine lv_if_ne (tgt := 601) hx hb d_Law_law_586 (by decide) (fun c_13 => ?_) (fun c_13 => ?_)
          · skip
            refine lv_goto (tgt := 1361) hx hb d_Law_law_601 (by decide) ?_
            refine W.widen (k := KC + 21) (n := KS + 196) (by show KC + 3 ≤ KC + 21; omega) (by show KS + 18 ≤ KS + 196; omega) ?_
            exact kk _ _ ls H locs ⟨⟨z2, t2, nP2, hR3⟩, h45c⟩ hV (lv_sub hl [2, 3, 4, 5, 6] rfl)
          · skip
            refine lv_aload_n hx hb d_Law_law_589 rfl (lv_at hl 5 rfl) ?_
            refine lv_iconst (v := 0) hx hb d_Law_law_590 (by decide) ?_
            refine os_laldN (K := 45) (i := 0) (t0 := 2) (n := 0) hx hb hK hV rfl rfl rfl hr_11 rfl (by rw [show os_l σ_7 45 0 = 1 from h45c.2]; decide) (by rw [show os_l σ_7 45 0 = 1 from h45c.2]; decide) d_Law_law_591 ?_
            refine lv_iload hx hb d_Law_law_592 (lv_at hl 0 rfl) ?_
            refine lv_i2l (v := Int32.toInt64 b9) hx hb d_Law_law_594 rfl ?_
            refine W.eq (g2 := F0 m 595 ls [.long (Int32.toInt64 b9), .long (Int32.toInt64 b9)]) (by rw [hout c_13]) ?_
            refine W.lcmpE hx hb d_Law_law_595 ?_
            refine lv_if_eq (tgt := 601) hx hb d_Law_law_596 (by decide) (fun c_14 => ?_) (fun c_14 => ?_)
            · skip
              refine lv_goto (tgt := 1361) hx hb d_Law_law_601 (by decide) ?_
              refine W.widen (k := KC + 21) (n := KS + 196) (by show KC + 3 ≤ KC + 21; omega) (by show KS + 18 ≤ KS + 196; omega) ?_
              exact kk _ _ ls H locs ⟨⟨z2, t2, nP2, hR3⟩, h45c⟩ hV (lv_sub hl [2, 3, 4, 5, 6] rfl)
            · exact absurd (by decide) c_14
        · exact absurd hcode c_12
      · exact absurd hp.2.2 (fun h => by cases h)
    · obtain ⟨_, _, _, h⟩ := e_step hp; cases h
  · exact (hI.x hp).elim
set_option maxHeartbeats 4000000 in
set_option maxRecDepth 100000 in
theorem lc_test (l : Launch) (hlt : l.stackTraces = false) {p : Program} {e : Env} {s : State} {m : MethodId} {below : List Frame} {meth : Method} {c : Code} {b L i9 KC KS bs : Nat} {xs : Nat → Int32} {D : va_G} {cA : Nat → ClassId} {ad0 : Nat → Nat → Nat} {Q : State → Prop} (hx : p.tables.exec = Jvm.exec) (hb : c.code = code) (hml : c.maxLocals = 7) (hown : s.vm.findClass "RobotFaultsLaw" = some m.cls) (hE : os_EV D cA bs s) (hN : os_NC s) (hX : va_X b L xs s s.heap) (hbl : b < s.heap.size) (hL : L ≤ 2560) (hi5 : i9 + 5 ≤ L) (hkc : KC + 21 ≤ 601024) (hks : KS + 196 ≤ 7293034) (kk : lwK p l e s m b below meth c KC KS i9 D cA bs ad0 Q) {τ : os_S} {α : Nat → Nat → Nat} {ls : Array Slot} {H : Heap} {locs : List Loc} (hI9 : lwI τ) (hV : os_V D cA bs os_0 ad0 s τ α H locs) (hl : lv_has ls 7 [(0, .ref b), (1, .ref (α 0 0)), (2, .ref (α 13 0)), (3, .ref (α 45 0)), (4, .int (nI i9))]) : W p l e room_1 s m #[Value.ref b] below meth c H locs KC KS Q (F0 m 604 ls []) := by
  have hts := hE.hts (args := #[Value.ref b])
  have hK := hE.2.1
  have hbs := hE.2.2.1
  obtain ⟨⟨z, t, nP, hRel⟩, h45⟩ := hI9
  have hr0 : 0 < os_n τ 0 := hRel.1.n 0 (by decide)
  have hr13 : 0 < os_n τ 13 := hRel.2.1.1.n 13 (by decide) (by decide)
  have hr45 : 0 < os_n τ 45 := h45.1
  refine lv_aload_n hx hb d_Law_law_604 rfl (lv_at hl 1 rfl) ?_
  refine lv_aload_n hx hb d_Law_law_605 rfl (lv_at hl 0 rfl) ?_
  refine lv_iload hx hb d_Law_law_606 (lv_at hl 4 rfl) ?_
  refine lv_iconst (v := 1) hx hb d_Law_law_608 (by decide) ?_
  refine lv_iadd hx hb d_Law_law_609 ?_
  refine os_sld (n := (i9 + 1)) hx hb hX hbl hV hL (show nI i9 + 1 = nI (i9 + 1) from nI_add i9 1) (by omega) d_Law_law_610 ?_
  refine lv_aload_n hx hb d_Law_law_611 rfl (lv_at hl 0 rfl) ?_
  refine lv_iload hx hb d_Law_law_612 (lv_at hl 4 rfl) ?_
  refine lv_iconst (v := 2) hx hb d_Law_law_614 (by decide) ?_
  refine lv_iadd hx hb d_Law_law_615 ?_
  refine os_sld (n := (i9 + 2)) hx hb hX hbl hV hL (show nI i9 + 2 = nI (i9 + 2) from nI_add i9 2) (by omega) d_Law_law_616 ?_
  refine lv_if_eq (tgt := 624) hx hb d_Law_law_617 (by decide) (fun c_1 => ?_) (fun c_1 => ?_)
  · skip
    refine lv_iconst (v := 0) hx hb d_Law_law_624 (by decide) ?_
    refine lv_aload_n hx hb d_Law_law_625 rfl (lv_at hl 3 rfl) ?_
    refine W.eq (g2 := F0 m 626 ls [.ref (α 45 0), .int (bz false), .int (xs (i9 + 1)), .ref (α 0 0)]) rfl ?_
    refine os_callH (c_Law_test l hlt D cA bs τ α (xs (i9 + 1)) false z t nP τ hRel h45) hE hN hV k_548 k_0 (os_inSW (n := 4) (bytes := method_11_code) (maxL := 5) (ret := (some .int)) hx hb hown (hts _ k_546) (hts _ k_547) (hts _ k_0) (hts _ k_548) (by decide +kernel) rfl rfl d_Law_law_626) (hl.1.trans hml.symm) (Nat.le_of_ble_eq_true rfl) (Nat.le_of_ble_eq_true rfl) (Nat.le_of_ble_eq_true rfl) (by show KC + 3 ≤ 601024; omega) (by show KS + 18 ≤ 7293034; omega) (fun v σ1 ad1 H locs hp hext hV => ?_) (fun E q ce σ1 ad1 H locs hp hext hV hce hcv hcl => ?_)
    · obtain ⟨k9, rfl⟩ := hI.v hp
      have hm9 := hI.m hp (fun _ _ h => (r_test h).1)
      obtain ⟨σ_2, rfl⟩ : ∃ z, z = σ1 := ⟨_, rfl⟩
      obtain ⟨ad_3, rfl⟩ : ∃ z, z = ad1 := ⟨_, rfl⟩
      have he_4 := hext
      have hl : lv_has ls 7 [(0, .ref b), (1, .ref (ad_3 0 0)), (2, .ref (ad_3 13 0)), (3, .ref (ad_3 45 0)), (4, .int (nI i9))] := by rw [he_4.2.1 0 0 hr0, he_4.2.1 13 0 hr13, he_4.2.1 45 0 hr45]; exact hl
      refine W.eq (g2 := F0 m 629 ls [.int k9]) rfl ?_
      have hr_5 : 0 < os_n σ_2 0 := Nat.lt_of_lt_of_le hr0 (he_4.1 0)
      have hr_6 : 0 < os_n σ_2 13 := Nat.lt_of_lt_of_le hr13 (he_4.1 13)
      have hr_7 : 0 < os_n σ_2 45 := Nat.lt_of_lt_of_le hr45 (he_4.1 45)
      have hR2 : Rel z t nP τ σ_2 := hRel.to rfl hm9.1
      have h45b : 0 < os_n σ_2 45 ∧ os_l σ_2 45 0 = 1 := ⟨by rw [hm9.2.1]; exact h45.1, by rw [hm9.2.2]; exact h45.2⟩
      have hpH := hp
      refine lv_istore (lv' := [(5, .int k9), (0, .ref b), (1, .ref (ad_3 0 0)), (2, .ref (ad_3 13 0)), (3, .ref (ad_3 45 0)), (4, .int (nI i9))]) hx hb d_Law_law_629 hl (by decide) rfl (fun ls hl => ?_)
      refine lv_aload_n hx hb d_Law_law_631 rfl (lv_at hl 3 rfl) ?_
      refine lv_aload_n hx hb d_Law_law_632 rfl (lv_at hl 1 rfl) ?_
      refine lv_iload hx hb d_Law_law_633 (lv_at hl 5 rfl) ?_
      refine lv_iconst (v := 1) hx hb d_Law_law_635 (by decide) ?_
      refine lv_iadd hx hb d_Law_law_636 ?_
      refine os_sld (n := (i9 + 1)) hx hb hX hbl hV hL (show nI i9 + 1 = nI (i9 + 1) from nI_add i9 1) (by omega) d_Law_law_637 ?_
      refine lv_aload_n hx hb d_Law_law_638 rfl (lv_at hl 1 rfl) ?_
      refine lv_iload hx hb d_Law_law_639 (lv_at hl 5 rfl) ?_
      refine lv_iconst (v := 2) hx hb d_Law_law_641 (by decide) ?_
      refine lv_iadd hx hb d_Law_law_642 ?_
      refine os_sld (n := (i9 + 2)) hx hb hX hbl hV hL (show nI i9 + 2 = nI (i9 + 2) from nI_add i9 2) (by omega) d_Law_law_643 ?_
      refine lv_if_eq (tgt := 651) hx hb d_Law_law_644 (by decide) (fun c_8 => ?_) (fun c_8 => ?_)
      · skip
        refine lv_iconst (v := 0) hx hb d_Law_law_651 (by decide) ?_
        refine W.eq (g2 := F0 m 652 ls [.int (bz false), .int (xs (i9 + 1)), .ref (ad_3 13 0)]) rfl ?_
        refine os_call (c_Model_test l hlt D cA bs σ_2 ad_3 (xs (i9 + 1)) false hR2.2.1) hE hV k_917 k_4 (os_inV (C := "RobotFaultsModel") (n := 2) (bytes := prog_9_method_23_code) (maxL := 3) (ret := (some .boolean)) hx hb hown (hts _ k_914) (hts _ k_915) (hts _ k_916) (hts _ k_917) (by decide +kernel) rfl (os_recv hK hV rfl rfl hr_6) rfl d_Law_law_652) (hl.1.trans hml.symm) (Nat.le_of_ble_eq_true rfl) (Nat.le_of_ble_eq_true rfl) (Nat.le_of_ble_eq_true rfl) (by show KC + 3 + 0 ≤ 601024; omega) (by show KS + 18 + 0 ≤ 7293034; omega) (fun v σ1 ad1 H locs hp hext hV => ?_) (fun E q ce σ1 ad1 H locs hp hext hV hce hcv hcl => ?_)
        · obtain ⟨rfl, hFC, b9, hb9⟩ := e_test hp
          cases hb9
          have hb01 := t2_test hp
          obtain ⟨σ_9, rfl⟩ : ∃ z, z = σ1 := ⟨_, rfl⟩
          have he_10 := hext
          have hr_11 : 0 < os_n σ_9 0 := Nat.lt_of_lt_of_le hr_5 (he_10.1 0)
          have hr_12 : 0 < os_n σ_9 13 := Nat.lt_of_lt_of_le hr_6 (he_10.1 13)
          have hr_13 : 0 < os_n σ_9 45 := Nat.lt_of_lt_of_le hr_7 (he_10.1 45)
          have hg := glI hpH (by decide) hFC (fun r0 σc hq => by obtain ⟨h1, h2⟩ := ok_test hR2 hq hp; exact ⟨⟨_, _, _, h1⟩, h2⟩)
          obtain ⟨⟨z2, t2, nP2, hR3⟩, hcode, hout⟩ := hg
          have h45c : 0 < os_n σ_9 45 ∧ os_l σ_9 45 0 = 1 := ⟨by rw [hFC.n45.1]; exact h45b.1, by rw [hFC.n45.2]; exact h45b.2⟩
          refine W.eq (g2 := F0 m 655 ls [.int b9]) rfl ?_
          refine lv_istore (lv' := [(6, .int b9), (5, .int k9), (0, .ref b), (1, .ref (ad_3 0 0)), (2, .ref (ad_3 13 0)), (3, .ref (ad_3 45 0)), (4, .int (nI i9))]) hx hb d_Law_law_655 hl (by decide) rfl (fun ls hl => ?_)
          refine lv_aload_n hx hb d_Law_law_657 rfl (lv_at hl 4 rfl) ?_
          refine os_call (c_Model_thrown l hlt D cA bs σ_9 ad_3 hR3.2.1) hE hV k_844 k_4 (os_inV (C := "RobotFaultsModel") (n := 0) (bytes := prog_9_method_2_code) (maxL := 1) (ret := (some .int)) hx hb hown (hts _ k_841) (hts _ k_842) (hts _ k_843) (hts _ k_844) (by decide +kernel) rfl (os_recv hK hV rfl rfl hr_12) rfl d_Law_law_658) (hl.1.trans hml.symm) (Nat.le_of_ble_eq_true rfl) (Nat.le_of_ble_eq_true rfl) (Nat.le_of_ble_eq_true rfl) (by show KC + 3 + 0 ≤ 601024; omega) (by show KS + 18 + 0 ≤ 7293034; omega) (fun v σ1 ad1 H locs hp hext hV => ?_) (fun E q ce σ1 ad1 H locs hp hext hV hce hcv hcl => ?_)
          · obtain ⟨rfl, rfl, hp⟩ := hp
            cases hp
            refine W.eq (g2 := F0 m 661 ls [.int (os_g σ_9 13 0 0)]) rfl ?_
            refine lv_iload hx hb d_Law_law_661 (lv_at hl 1 rfl) ?_
            refine lv_icmp_eq (tgt := 668) hx hb d_Law_law_663 (by decide) (fun c_14 => ?_) (fun c_14 => ?_)
            · skip
              refine lv_iload hx hb d_Law_law_668 (lv_at hl 1 rfl) ?_
              refine lv_if_ne (tgt := 692) hx hb d_Law_law_670 (by decide) (fun c_15 => ?_) (fun c_15 => ?_)
              · skip
                refine lv_goto (tgt := 1361) hx hb d_Law_law_692 (by decide) ?_
                refine W.widen (k := KC + 21) (n := KS + 196) (by show KC + 3 ≤ KC + 21; omega) (by show KS + 18 ≤ KS + 196; omega) ?_
                exact kk _ _ ls H locs ⟨⟨z2, t2, nP2, hR3⟩, h45c⟩ hV (lv_sub hl [2, 3, 4, 5, 6] rfl)
              · skip
                refine lv_aload_n hx hb d_Law_law_673 rfl (lv_at hl 5 rfl) ?_
                refine lv_iconst (v := 0) hx hb d_Law_law_674 (by decide) ?_
                refine os_laldN (K := 45) (i := 0) (t0 := 2) (n := 0) hx hb hK hV rfl rfl rfl hr_13 rfl (by rw [show os_l σ_9 45 0 = 1 from h45c.2]; decide) (by rw [show os_l σ_9 45 0 = 1 from h45c.2]; decide) d_Law_law_675 ?_
                refine lv_iload hx hb d_Law_law_676 (lv_at hl 0 rfl) ?_
                refine lv_if_eq (tgt := 685) hx hb d_Law_law_678 (by decide) (fun c_16 => ?_) (fun c_16 => ?_)
                · skip
                  refine lv_lconst (v := Int32.toInt64 0) hx hb d_Law_law_685 (by decide) ?_
                  refine W.eq (g2 := F0 m 686 ls [.long (Int32.toInt64 0), .long (Int32.toInt64 0)]) (by rw [hout c_15, c_16]) ?_
                  refine W.lcmpE hx hb d_Law_law_686 ?_
                  refine lv_if_eq (tgt := 692) hx hb d_Law_law_687 (by decide) (fun c_17 => ?_) (fun c_17 => ?_)
                  · skip
                    refine lv_goto (tgt := 1361) hx hb d_Law_law_692 (by decide) ?_
                    refine W.widen (k := KC + 21) (n := KS + 196) (by show KC + 3 ≤ KC + 21; omega) (by show KS + 18 ≤ KS + 196; omega) ?_
                    exact kk _ _ ls H locs ⟨⟨z2, t2, nP2, hR3⟩, h45c⟩ hV (lv_sub hl [2, 3, 4, 5, 6] rfl)
                  · exact absurd (by decide) c_17
                · skip
                  refine lv_lconst (v := Int32.toInt64 1) hx hb d_Law_law_681 (by decide) ?_
                  refine lv_goto (tgt := 686) hx hb d_Law_law_682 (by decide) ?_
                  refine W.eq (g2 := F0 m 686 ls [.long (Int32.toInt64 1), .long (Int32.toInt64 1)]) (by rw [hout c_15, hb01.resolve_left c_16]) ?_
                  refine W.lcmpE hx hb d_Law_law_686 ?_
                  refine lv_if_eq (tgt := 692) hx hb d_Law_law_687 (by decide) (fun c_18 => ?_) (fun c_18 => ?_)
                  · skip
                    refine lv_goto (tgt := 1361) hx hb d_Law_law_692 (by decide) ?_
                    refine W.widen (k := KC + 21) (n := KS + 196) (by show KC + 3 ≤ KC + 21; omega) (by show KS + 18 ≤ KS + 196; omega) ?_
                    exact kk _ _ ls H locs ⟨⟨z2, t2, nP2, hR3⟩, h45c⟩ hV (lv_sub hl [2, 3, 4, 5, 6] rfl)
                  · exact absurd (by decide) c_18
            · exact absurd hcode c_14
          · exact absurd hp.2.2 (fun h => by cases h)
        · obtain ⟨_, _, _, h⟩ := e_test hp; cases h
      · exact absurd c_1 c_8
    · exact (hI.x hp).elim
  · skip
    refine lv_iconst (v := 1) hx hb d_Law_law_620 (by decide) ?_
    refine lv_goto (tgt := 625) hx hb d_Law_law_621 (by decide) ?_
    refine lv_aload_n hx hb d_Law_law_625 rfl (lv_at hl 3 rfl) ?_
    refine W.eq (g2 := F0 m 626 ls [.ref (α 45 0), .int (bz true), .int (xs (i9 + 1)), .ref (α 0 0)]) rfl ?_
    refine os_callH (c_Law_test l hlt D cA bs τ α (xs (i9 + 1)) true z t nP τ hRel h45) hE hN hV k_548 k_0 (os_inSW (n := 4) (bytes := method_11_code) (maxL := 5) (ret := (some .int)) hx hb hown (hts _ k_546) (hts _ k_547) (hts _ k_0) (hts _ k_548) (by decide +kernel) rfl rfl d_Law_law_626) (hl.1.trans hml.symm) (Nat.le_of_ble_eq_true rfl) (Nat.le_of_ble_eq_true rfl) (Nat.le_of_ble_eq_true rfl) (by show KC + 3 ≤ 601024; omega) (by show KS + 18 ≤ 7293034; omega) (fun v σ1 ad1 H locs hp hext hV => ?_) (fun E q ce σ1 ad1 H locs hp hext hV hce hcv hcl => ?_)
    · obtain ⟨k9, rfl⟩ := hI.v hp
      have hm9 := hI.m hp (fun _ _ h => (r_test h).1)
      obtain ⟨σ_19, rfl⟩ : ∃ z, z = σ1 := ⟨_, rfl⟩
      obtain ⟨ad_20, rfl⟩ : ∃ z, z = ad1 := ⟨_, rfl⟩
      have he_21 := hext
      have hl : lv_has ls 7 [(0, .ref b), (1, .ref (ad_20 0 0)), (2, .ref (ad_20 13 0)), (3, .ref (ad_20 45 0)), (4, .int (nI i9))] := by rw [he_21.2.1 0 0 hr0, he_21.2.1 13 0 hr13, he_21.2.1 45 0 hr45]; exact hl
      refine W.eq (g2 := F0 m 629 ls [.int k9]) rfl ?_
      have hr_22 : 0 < os_n σ_19 0 := Nat.lt_of_lt_of_le hr0 (he_21.1 0)
      have hr_23 : 0 < os_n σ_19 13 := Nat.lt_of_lt_of_le hr13 (he_21.1 13)
      have hr_24 : 0 < os_n σ_19 45 := Nat.lt_of_lt_of_le hr45 (he_21.1 45)
      have hR2 : Rel z t nP τ σ_19 := hRel.to rfl hm9.1
      have h45b : 0 < os_n σ_19 45 ∧ os_l σ_19 45 0 = 1 := ⟨by rw [hm9.2.1]; exact h45.1, by rw [hm9.2.2]; exact h45.2⟩
      have hpH := hp
      refine lv_istore (lv' := [(5, .int k9), (0, .ref b), (1, .ref (ad_20 0 0)), (2, .ref (ad_20 13 0)), (3, .ref (ad_20 45 0)), (4, .int (nI i9))]) hx hb d_Law_law_629 hl (by decide) rfl (fun ls hl => ?_)
      refine lv_aload_n hx hb d_Law_law_631 rfl (lv_at hl 3 rfl) ?_
      refine lv_aload_n hx hb d_Law_law_632 rfl (lv_at hl 1 rfl) ?_
      refine lv_iload hx hb d_Law_law_633 (lv_at hl 5 rfl) ?_
      refine lv_iconst (v := 1) hx hb d_Law_law_635 (by decide) ?_
      refine lv_iadd hx hb d_Law_law_636 ?_
      refine os_sld (n := (i9 + 1)) hx hb hX hbl hV hL (show nI i9 + 1 = nI (i9 + 1) from nI_add i9 1) (by omega) d_Law_law_637 ?_
      refine lv_aload_n hx hb d_Law_law_638 rfl (lv_at hl 1 rfl) ?_
      refine lv_iload hx hb d_Law_law_639 (lv_at hl 5 rfl) ?_
      refine lv_iconst (v := 2) hx hb d_Law_law_641 (by decide) ?_
      refine lv_iadd hx hb d_Law_law_642 ?_
      refine os_sld (n := (i9 + 2)) hx hb hX hbl hV hL (show nI i9 + 2 = nI (i9 + 2) from nI_add i9 2) (by omega) d_Law_law_643 ?_
      refine lv_if_eq (tgt := 651) hx hb d_Law_law_644 (by decide) (fun c_25 => ?_) (fun c_25 => ?_)
      · exact absurd c_25 c_1
      · skip
        refine lv_iconst (v := 1) hx hb d_Law_law_647 (by decide) ?_
        refine lv_goto (tgt := 652) hx hb d_Law_law_648 (by decide) ?_
        refine W.eq (g2 := F0 m 652 ls [.int (bz true), .int (xs (i9 + 1)), .ref (ad_20 13 0)]) rfl ?_
        refine os_call (c_Model_test l hlt D cA bs σ_19 ad_20 (xs (i9 + 1)) true hR2.2.1) hE hV k_917 k_4 (os_inV (C := "RobotFaultsModel") (n := 2) (bytes := prog_9_method_23_code) (maxL := 3) (ret := (some .boolean)) hx hb hown (hts _ k_914) (hts _ k_915) (hts _ k_916) (hts _ k_917) (by decide +kernel) rfl (os_recv hK hV rfl rfl hr_23) rfl d_Law_law_652) (hl.1.trans hml.symm) (Nat.le_of_ble_eq_true rfl) (Nat.le_of_ble_eq_true rfl) (Nat.le_of_ble_eq_true rfl) (by show KC + 3 + 0 ≤ 601024; omega) (by show KS + 18 + 0 ≤ 7293034; omega) (fun v σ1 ad1 H locs hp hext hV => ?_) (fun E q ce σ1 ad1 H locs hp hext hV hce hcv hcl => ?_)
        · obtain ⟨rfl, hFC, b9, hb9⟩ := e_test hp
          cases hb9
          have hb01 := t2_test hp
          obtain ⟨σ_26, rfl⟩ : ∃ z, z = σ1 := ⟨_, rfl⟩
          have he_27 := hext
          have hr_28 : 0 < os_n σ_26 0 := Nat.lt_of_lt_of_le hr_22 (he_27.1 0)
          have hr_29 : 0 < os_n σ_26 13 := Nat.lt_of_lt_of_le hr_23 (he_27.1 13)
          have hr_30 : 0 < os_n σ_26 45 := Nat.lt_of_lt_of_le hr_24 (he_27.1 45)
          have hg := glI hpH (by decide) hFC (fun r0 σc hq => by obtain ⟨h1, h2⟩ := ok_test hR2 hq hp; exact ⟨⟨_, _, _, h1⟩, h2⟩)
          obtain ⟨⟨z2, t2, nP2, hR3⟩, hcode, hout⟩ := hg
          have h45c : 0 < os_n σ_26 45 ∧ os_l σ_26 45 0 = 1 := ⟨by rw [hFC.n45.1]; exact h45b.1, by rw [hFC.n45.2]; exact h45b.2⟩
          refine W.eq (g2 := F0 m 655 ls [.int b9]) rfl ?_
          refine lv_istore (lv' := [(6, .int b9), (5, .int k9), (0, .ref b), (1, .ref (ad_20 0 0)), (2, .ref (ad_20 13 0)), (3, .ref (ad_20 45 0)), (4, .int (nI i9))]) hx hb d_Law_law_655 hl (by decide) rfl (fun ls hl => ?_)
          refine lv_aload_n hx hb d_Law_law_657 rfl (lv_at hl 4 rfl) ?_
          refine os_call (c_Model_thrown l hlt D cA bs σ_26 ad_20 hR3.2.1) hE hV k_844 k_4 (os_inV (C := "RobotFaultsModel") (n := 0) (bytes := prog_9_method_2_code) (maxL := 1) (ret := (some .int)) hx hb hown (hts _ k_841) (hts _ k_842) (hts _ k_843) (hts _ k_844) (by decide +kernel) rfl (os_recv hK hV rfl rfl hr_29) rfl d_Law_law_658) (hl.1.trans hml.symm) (Nat.le_of_ble_eq_true rfl) (Nat.le_of_ble_eq_true rfl) (Nat.le_of_ble_eq_true rfl) (by show KC + 3 + 0 ≤ 601024; omega) (by show KS + 18 + 0 ≤ 7293034; omega) (fun v σ1 ad1 H locs hp hext hV => ?_) (fun E q ce σ1 ad1 H locs hp hext hV hce hcv hcl => ?_)
          · obtain ⟨rfl, rfl, hp⟩ := hp
            cases hp
            refine W.eq (g2 := F0 m 661 ls [.int (os_g σ_26 13 0 0)]) rfl ?_
            refine lv_iload hx hb d_Law_law_661 (lv_at hl 1 rfl) ?_
            refine lv_icmp_eq (tgt := 668) hx hb d_Law_law_663 (by decide) (fun c_31 => ?_) (fun c_31 => ?_)
            · skip
              refine lv_iload hx hb d_Law_law_668 (lv_at hl 1 rfl) ?_
              refine lv_if_ne (tgt := 692) hx hb d_Law_law_670 (by decide) (fun c_32 => ?_) (fun c_32 => ?_)
              · skip
                refine lv_goto (tgt := 1361) hx hb d_Law_law_692 (by decide) ?_
                refine W.widen (k := KC + 21) (n := KS + 196) (by show KC + 3 ≤ KC + 21; omega) (by show KS + 18 ≤ KS + 196; omega) ?_
                exact kk _ _ ls H locs ⟨⟨z2, t2, nP2, hR3⟩, h45c⟩ hV (lv_sub hl [2, 3, 4, 5, 6] rfl)
              · skip
                refine lv_aload_n hx hb d_Law_law_673 rfl (lv_at hl 5 rfl) ?_
                refine lv_iconst (v := 0) hx hb d_Law_law_674 (by decide) ?_
                refine os_laldN (K := 45) (i := 0) (t0 := 2) (n := 0) hx hb hK hV rfl rfl rfl hr_30 rfl (by rw [show os_l σ_26 45 0 = 1 from h45c.2]; decide) (by rw [show os_l σ_26 45 0 = 1 from h45c.2]; decide) d_Law_law_675 ?_
                refine lv_iload hx hb d_Law_law_676 (lv_at hl 0 rfl) ?_
                refine lv_if_eq (tgt := 685) hx hb d_Law_law_678 (by decide) (fun c_33 => ?_) (fun c_33 => ?_)
                · skip
                  refine lv_lconst (v := Int32.toInt64 0) hx hb d_Law_law_685 (by decide) ?_
                  refine W.eq (g2 := F0 m 686 ls [.long (Int32.toInt64 0), .long (Int32.toInt64 0)]) (by rw [hout c_32, c_33]) ?_
                  refine W.lcmpE hx hb d_Law_law_686 ?_
                  refine lv_if_eq (tgt := 692) hx hb d_Law_law_687 (by decide) (fun c_34 => ?_) (fun c_34 => ?_)
                  · skip
                    refine lv_goto (tgt := 1361) hx hb d_Law_law_692 (by decide) ?_
                    refine W.widen (k := KC + 21) (n := KS + 196) (by show KC + 3 ≤ KC + 21; omega) (by show KS + 18 ≤ KS + 196; omega) ?_
                    exact kk _ _ ls H locs ⟨⟨z2, t2, nP2, hR3⟩, h45c⟩ hV (lv_sub hl [2, 3, 4, 5, 6] rfl)
                  · exact absurd (by decide) c_34
                · skip
                  refine lv_lconst (v := Int32.toInt64 1) hx hb d_Law_law_681 (by decide) ?_
                  refine lv_goto (tgt := 686) hx hb d_Law_law_682 (by decide) ?_
                  refine W.eq (g2 := F0 m 686 ls [.long (Int32.toInt64 1), .long (Int32.toInt64 1)]) (by rw [hout c_32, hb01.resolve_left c_33]) ?_
                  refine W.lcmpE hx hb d_Law_law_686 ?_
                  refine lv_if_eq (tgt := 692) hx hb d_Law_law_687 (by decide) (fun c_35 => ?_) (fun c_35 => ?_)
                  · skip
                    refine lv_goto (tgt := 1361) hx hb d_Law_law_692 (by decide) ?_
                    refine W.widen (k := KC + 21) (n := KS + 196) (by show KC + 3 ≤ KC + 21; omega) (by show KS + 18 ≤ KS + 196; omega) ?_
                    exact kk _ _ ls H locs ⟨⟨z2, t2, nP2, hR3⟩, h45c⟩ hV (lv_sub hl [2, 3, 4, 5, 6] rfl)
                  · exact absurd (by decide) c_35
            · exact absurd hcode c_31
          · exact absurd hp.2.2 (fun h => by cases h)
        · obtain ⟨_, _, _, h⟩ := e_test hp; cases h
    · exact (hI.x hp).elim
set_option maxHeartbeats 4000000 in
set_option maxRecDepth 100000 in
theorem lc_resume (l : Launch) (hlt : l.stackTraces = false) {p : Program} {e : Env} {s : State} {m : MethodId} {below : List Frame} {meth : Method} {c : Code} {b L i9 KC KS bs : Nat} {xs : Nat → Int32} {D : va_G} {cA : Nat → ClassId} {ad0 : Nat → Nat → Nat} {Q : State → Prop} (hx : p.tables.exec = Jvm.exec) (hb : c.code = code) (hml : c.maxLocals = 7) (hown : s.vm.findClass "RobotFaultsLaw" = some m.cls) (hE : os_EV D cA bs s) (hN : os_NC s) (hX : va_X b L xs s s.heap) (hbl : b < s.heap.size) (hL : L ≤ 2560) (hi5 : i9 + 5 ≤ L) (hkc : KC + 21 ≤ 601024) (hks : KS + 196 ≤ 7293034) (kk : lwK p l e s m b below meth c KC KS i9 D cA bs ad0 Q) {τ : os_S} {α : Nat → Nat → Nat} {ls : Array Slot} {H : Heap} {locs : List Loc} (hI9 : lwI τ) (hV : os_V D cA bs os_0 ad0 s τ α H locs) (hl : lv_has ls 7 [(0, .ref b), (1, .ref (α 0 0)), (2, .ref (α 13 0)), (3, .ref (α 45 0)), (4, .int (nI i9))]) : W p l e room_1 s m #[Value.ref b] below meth c H locs KC KS Q (F0 m 695 ls []) := by
  have hts := hE.hts (args := #[Value.ref b])
  have hK := hE.2.1
  have hbs := hE.2.2.1
  obtain ⟨⟨z, t, nP, hRel⟩, h45⟩ := hI9
  have hr0 : 0 < os_n τ 0 := hRel.1.n 0 (by decide)
  have hr13 : 0 < os_n τ 13 := hRel.2.1.1.n 13 (by decide) (by decide)
  have hr45 : 0 < os_n τ 45 := h45.1
  refine lv_aload_n hx hb d_Law_law_695 rfl (lv_at hl 1 rfl) ?_
  refine lv_aload_n hx hb d_Law_law_696 rfl (lv_at hl 0 rfl) ?_
  refine lv_iload hx hb d_Law_law_697 (lv_at hl 4 rfl) ?_
  refine lv_iconst (v := 1) hx hb d_Law_law_699 (by decide) ?_
  refine lv_iadd hx hb d_Law_law_700 ?_
  refine os_sld (n := (i9 + 1)) hx hb hX hbl hV hL (show nI i9 + 1 = nI (i9 + 1) from nI_add i9 1) (by omega) d_Law_law_701 ?_
  refine lv_aload_n hx hb d_Law_law_702 rfl (lv_at hl 3 rfl) ?_
  refine os_callH (c_Law_resume l hlt D cA bs τ α (xs (i9 + 1)) z t nP τ hRel h45) hE hN hV k_561 k_0 (os_inSW (n := 3) (bytes := method_12_code) (maxL := 4) (ret := (some .int)) hx hb hown (hts _ k_559) (hts _ k_560) (hts _ k_0) (hts _ k_561) (by decide +kernel) rfl rfl d_Law_law_703) (hl.1.trans hml.symm) (Nat.le_of_ble_eq_true rfl) (Nat.le_of_ble_eq_true rfl) (Nat.le_of_ble_eq_true rfl) (by show KC + 2 ≤ 601024; omega) (by show KS + 12 ≤ 7293034; omega) (fun v σ1 ad1 H locs hp hext hV => ?_) (fun E q ce σ1 ad1 H locs hp hext hV hce hcv hcl => ?_)
  · obtain ⟨k9, rfl⟩ := hI.v hp
    have hm9 := hI.m hp (fun _ _ h => (r_resume h).1)
    obtain ⟨σ_1, rfl⟩ : ∃ z, z = σ1 := ⟨_, rfl⟩
    obtain ⟨ad_2, rfl⟩ : ∃ z, z = ad1 := ⟨_, rfl⟩
    have he_3 := hext
    have hl : lv_has ls 7 [(0, .ref b), (1, .ref (ad_2 0 0)), (2, .ref (ad_2 13 0)), (3, .ref (ad_2 45 0)), (4, .int (nI i9))] := by rw [he_3.2.1 0 0 hr0, he_3.2.1 13 0 hr13, he_3.2.1 45 0 hr45]; exact hl
    refine W.eq (g2 := F0 m 706 ls [.int k9]) rfl ?_
    have hr_4 : 0 < os_n σ_1 0 := Nat.lt_of_lt_of_le hr0 (he_3.1 0)
    have hr_5 : 0 < os_n σ_1 13 := Nat.lt_of_lt_of_le hr13 (he_3.1 13)
    have hr_6 : 0 < os_n σ_1 45 := Nat.lt_of_lt_of_le hr45 (he_3.1 45)
    have hR2 : Rel z t nP τ σ_1 := hRel.to rfl hm9.1
    have h45b : 0 < os_n σ_1 45 ∧ os_l σ_1 45 0 = 1 := ⟨by rw [hm9.2.1]; exact h45.1, by rw [hm9.2.2]; exact h45.2⟩
    have hpH := hp
    refine lv_istore (lv' := [(5, .int k9), (0, .ref b), (1, .ref (ad_2 0 0)), (2, .ref (ad_2 13 0)), (3, .ref (ad_2 45 0)), (4, .int (nI i9))]) hx hb d_Law_law_706 hl (by decide) rfl (fun ls hl => ?_)
    refine lv_aload_n hx hb d_Law_law_708 rfl (lv_at hl 3 rfl) ?_
    refine lv_aload_n hx hb d_Law_law_709 rfl (lv_at hl 1 rfl) ?_
    refine lv_iload hx hb d_Law_law_710 (lv_at hl 5 rfl) ?_
    refine lv_iconst (v := 1) hx hb d_Law_law_712 (by decide) ?_
    refine lv_iadd hx hb d_Law_law_713 ?_
    refine os_sld (n := (i9 + 1)) hx hb hX hbl hV hL (show nI i9 + 1 = nI (i9 + 1) from nI_add i9 1) (by omega) d_Law_law_714 ?_
    refine os_call (c_Model_resume l hlt D cA bs σ_1 ad_2 (xs (i9 + 1)) hR2.2.1) hE hV k_925 k_4 (os_inV (C := "RobotFaultsModel") (n := 1) (bytes := prog_9_method_24_code) (maxL := 3) (ret := (some .int)) hx hb hown (hts _ k_922) (hts _ k_923) (hts _ k_924) (hts _ k_925) (by decide +kernel) rfl (os_recv hK hV rfl rfl hr_5) rfl d_Law_law_715) (hl.1.trans hml.symm) (Nat.le_of_ble_eq_true rfl) (Nat.le_of_ble_eq_true rfl) (Nat.le_of_ble_eq_true rfl) (by show KC + 2 + 0 ≤ 601024; omega) (by show KS + 12 + 0 ≤ 7293034; omega) (fun v σ1 ad1 H locs hp hext hV => ?_) (fun E q ce σ1 ad1 H locs hp hext hV hce hcv hcl => ?_)
    · obtain ⟨rfl, hFC, b9, hb9⟩ := e_resume hp
      cases hb9
      obtain ⟨σ_7, rfl⟩ : ∃ z, z = σ1 := ⟨_, rfl⟩
      have he_8 := hext
      have hr_9 : 0 < os_n σ_7 0 := Nat.lt_of_lt_of_le hr_4 (he_8.1 0)
      have hr_10 : 0 < os_n σ_7 13 := Nat.lt_of_lt_of_le hr_5 (he_8.1 13)
      have hr_11 : 0 < os_n σ_7 45 := Nat.lt_of_lt_of_le hr_6 (he_8.1 45)
      have hg := glI hpH (by decide) hFC (fun r0 σc hq => by obtain ⟨h1, h2⟩ := ok_resume hR2 hq hp; exact ⟨⟨_, _, _, h1⟩, h2⟩)
      obtain ⟨⟨z2, t2, nP2, hR3⟩, hcode, hout⟩ := hg
      have h45c : 0 < os_n σ_7 45 ∧ os_l σ_7 45 0 = 1 := ⟨by rw [hFC.n45.1]; exact h45b.1, by rw [hFC.n45.2]; exact h45b.2⟩
      refine W.eq (g2 := F0 m 718 ls [.int b9]) rfl ?_
      refine lv_istore (lv' := [(6, .int b9), (5, .int k9), (0, .ref b), (1, .ref (ad_2 0 0)), (2, .ref (ad_2 13 0)), (3, .ref (ad_2 45 0)), (4, .int (nI i9))]) hx hb d_Law_law_718 hl (by decide) rfl (fun ls hl => ?_)
      refine lv_aload_n hx hb d_Law_law_720 rfl (lv_at hl 4 rfl) ?_
      refine os_call (c_Model_thrown l hlt D cA bs σ_7 ad_2 hR3.2.1) hE hV k_844 k_4 (os_inV (C := "RobotFaultsModel") (n := 0) (bytes := prog_9_method_2_code) (maxL := 1) (ret := (some .int)) hx hb hown (hts _ k_841) (hts _ k_842) (hts _ k_843) (hts _ k_844) (by decide +kernel) rfl (os_recv hK hV rfl rfl hr_10) rfl d_Law_law_721) (hl.1.trans hml.symm) (Nat.le_of_ble_eq_true rfl) (Nat.le_of_ble_eq_true rfl) (Nat.le_of_ble_eq_true rfl) (by show KC + 2 + 0 ≤ 601024; omega) (by show KS + 12 + 0 ≤ 7293034; omega) (fun v σ1 ad1 H locs hp hext hV => ?_) (fun E q ce σ1 ad1 H locs hp hext hV hce hcv hcl => ?_)
      · obtain ⟨rfl, rfl, hp⟩ := hp
        cases hp
        refine W.eq (g2 := F0 m 724 ls [.int (os_g σ_7 13 0 0)]) rfl ?_
        refine lv_iload hx hb d_Law_law_724 (lv_at hl 1 rfl) ?_
        refine lv_icmp_eq (tgt := 731) hx hb d_Law_law_726 (by decide) (fun c_12 => ?_) (fun c_12 => ?_)
        · skip
          refine lv_iload hx hb d_Law_law_731 (lv_at hl 1 rfl) ?_
          refine lv_if_ne (tgt := 748) hx hb d_Law_law_733 (by decide) (fun c_13 => ?_) (fun c_13 => ?_)
          · skip
            refine lv_goto (tgt := 1361) hx hb d_Law_law_748 (by decide) ?_
            refine W.widen (k := KC + 21) (n := KS + 196) (by show KC + 2 ≤ KC + 21; omega) (by show KS + 12 ≤ KS + 196; omega) ?_
            exact kk _ _ ls H locs ⟨⟨z2, t2, nP2, hR3⟩, h45c⟩ hV (lv_sub hl [2, 3, 4, 5, 6] rfl)
          · skip
            refine lv_aload_n hx hb d_Law_law_736 rfl (lv_at hl 5 rfl) ?_
            refine lv_iconst (v := 0) hx hb d_Law_law_737 (by decide) ?_
            refine os_laldN (K := 45) (i := 0) (t0 := 2) (n := 0) hx hb hK hV rfl rfl rfl hr_11 rfl (by rw [show os_l σ_7 45 0 = 1 from h45c.2]; decide) (by rw [show os_l σ_7 45 0 = 1 from h45c.2]; decide) d_Law_law_738 ?_
            refine lv_iload hx hb d_Law_law_739 (lv_at hl 0 rfl) ?_
            refine lv_i2l (v := Int32.toInt64 b9) hx hb d_Law_law_741 rfl ?_
            refine W.eq (g2 := F0 m 742 ls [.long (Int32.toInt64 b9), .long (Int32.toInt64 b9)]) (by rw [hout c_13]) ?_
            refine W.lcmpE hx hb d_Law_law_742 ?_
            refine lv_if_eq (tgt := 748) hx hb d_Law_law_743 (by decide) (fun c_14 => ?_) (fun c_14 => ?_)
            · skip
              refine lv_goto (tgt := 1361) hx hb d_Law_law_748 (by decide) ?_
              refine W.widen (k := KC + 21) (n := KS + 196) (by show KC + 2 ≤ KC + 21; omega) (by show KS + 12 ≤ KS + 196; omega) ?_
              exact kk _ _ ls H locs ⟨⟨z2, t2, nP2, hR3⟩, h45c⟩ hV (lv_sub hl [2, 3, 4, 5, 6] rfl)
            · exact absurd (by decide) c_14
        · exact absurd hcode c_12
      · exact absurd hp.2.2 (fun h => by cases h)
    · obtain ⟨_, _, _, h⟩ := e_resume hp; cases h
  · exact (hI.x hp).elim
set_option maxHeartbeats 4000000 in
set_option maxRecDepth 100000 in
theorem lc_zone (l : Launch) (hlt : l.stackTraces = false) {p : Program} {e : Env} {s : State} {m : MethodId} {below : List Frame} {meth : Method} {c : Code} {b L i9 KC KS bs : Nat} {xs : Nat → Int32} {D : va_G} {cA : Nat → ClassId} {ad0 : Nat → Nat → Nat} {Q : State → Prop} (hx : p.tables.exec = Jvm.exec) (hb : c.code = code) (hml : c.maxLocals = 7) (hown : s.vm.findClass "RobotFaultsLaw" = some m.cls) (hE : os_EV D cA bs s) (hN : os_NC s) (hX : va_X b L xs s s.heap) (hbl : b < s.heap.size) (hL : L ≤ 2560) (hi5 : i9 + 5 ≤ L) (hkc : KC + 21 ≤ 601024) (hks : KS + 196 ≤ 7293034) (kk : lwK p l e s m b below meth c KC KS i9 D cA bs ad0 Q) {τ : os_S} {α : Nat → Nat → Nat} {ls : Array Slot} {H : Heap} {locs : List Loc} (hI9 : lwI τ) (hV : os_V D cA bs os_0 ad0 s τ α H locs) (hl : lv_has ls 7 [(0, .ref b), (1, .ref (α 0 0)), (2, .ref (α 13 0)), (3, .ref (α 45 0)), (4, .int (nI i9))]) : W p l e room_1 s m #[Value.ref b] below meth c H locs KC KS Q (F0 m 751 ls []) := by
  have hts := hE.hts (args := #[Value.ref b])
  have hK := hE.2.1
  have hbs := hE.2.2.1
  obtain ⟨⟨z, t, nP, hRel⟩, h45⟩ := hI9
  have hr0 : 0 < os_n τ 0 := hRel.1.n 0 (by decide)
  have hr13 : 0 < os_n τ 13 := hRel.2.1.1.n 13 (by decide) (by decide)
  have hr45 : 0 < os_n τ 45 := h45.1
  refine lv_aload_n hx hb d_Law_law_751 rfl (lv_at hl 1 rfl) ?_
  refine lv_aload_n hx hb d_Law_law_752 rfl (lv_at hl 0 rfl) ?_
  refine lv_iload hx hb d_Law_law_753 (lv_at hl 4 rfl) ?_
  refine lv_iconst (v := 1) hx hb d_Law_law_755 (by decide) ?_
  refine lv_iadd hx hb d_Law_law_756 ?_
  refine os_sld (n := (i9 + 1)) hx hb hX hbl hV hL (show nI i9 + 1 = nI (i9 + 1) from nI_add i9 1) (by omega) d_Law_law_757 ?_
  refine lv_aload_n hx hb d_Law_law_758 rfl (lv_at hl 0 rfl) ?_
  refine lv_iload hx hb d_Law_law_759 (lv_at hl 4 rfl) ?_
  refine lv_iconst (v := 2) hx hb d_Law_law_761 (by decide) ?_
  refine lv_iadd hx hb d_Law_law_762 ?_
  refine os_sld (n := (i9 + 2)) hx hb hX hbl hV hL (show nI i9 + 2 = nI (i9 + 2) from nI_add i9 2) (by omega) d_Law_law_763 ?_
  refine lv_aload_n hx hb d_Law_law_764 rfl (lv_at hl 3 rfl) ?_
  refine os_callH (c_Law_zone l hlt D cA bs τ α (xs (i9 + 1)) (xs (i9 + 2)) z t nP τ hRel h45) hE hN hV k_569 k_0 (os_inSW (n := 4) (bytes := method_13_code) (maxL := 5) (ret := (some .int)) hx hb hown (hts _ k_567) (hts _ k_568) (hts _ k_0) (hts _ k_569) (by decide +kernel) rfl rfl d_Law_law_765) (hl.1.trans hml.symm) (Nat.le_of_ble_eq_true rfl) (Nat.le_of_ble_eq_true rfl) (Nat.le_of_ble_eq_true rfl) (by show KC + 3 ≤ 601024; omega) (by show KS + 18 ≤ 7293034; omega) (fun v σ1 ad1 H locs hp hext hV => ?_) (fun E q ce σ1 ad1 H locs hp hext hV hce hcv hcl => ?_)
  · obtain ⟨k9, rfl⟩ := hI.v hp
    have hm9 := hI.m hp (fun _ _ h => (r_zone h).1)
    obtain ⟨σ_1, rfl⟩ : ∃ z, z = σ1 := ⟨_, rfl⟩
    obtain ⟨ad_2, rfl⟩ : ∃ z, z = ad1 := ⟨_, rfl⟩
    have he_3 := hext
    have hl : lv_has ls 7 [(0, .ref b), (1, .ref (ad_2 0 0)), (2, .ref (ad_2 13 0)), (3, .ref (ad_2 45 0)), (4, .int (nI i9))] := by rw [he_3.2.1 0 0 hr0, he_3.2.1 13 0 hr13, he_3.2.1 45 0 hr45]; exact hl
    refine W.eq (g2 := F0 m 768 ls [.int k9]) rfl ?_
    have hr_4 : 0 < os_n σ_1 0 := Nat.lt_of_lt_of_le hr0 (he_3.1 0)
    have hr_5 : 0 < os_n σ_1 13 := Nat.lt_of_lt_of_le hr13 (he_3.1 13)
    have hr_6 : 0 < os_n σ_1 45 := Nat.lt_of_lt_of_le hr45 (he_3.1 45)
    have hR2 : Rel z t nP τ σ_1 := hRel.to rfl hm9.1
    have h45b : 0 < os_n σ_1 45 ∧ os_l σ_1 45 0 = 1 := ⟨by rw [hm9.2.1]; exact h45.1, by rw [hm9.2.2]; exact h45.2⟩
    have hpH := hp
    obtain ⟨P9, hP9, hP8⟩ := zone_P hR2 (xs (i9 + 1))
    refine lv_istore (lv' := [(5, .int k9), (0, .ref b), (1, .ref (ad_2 0 0)), (2, .ref (ad_2 13 0)), (3, .ref (ad_2 45 0)), (4, .int (nI i9))]) hx hb d_Law_law_768 hl (by decide) rfl (fun ls hl => ?_)
    refine lv_aload_n hx hb d_Law_law_770 rfl (lv_at hl 3 rfl) ?_
    refine lv_aload_n hx hb d_Law_law_771 rfl (lv_at hl 1 rfl) ?_
    refine lv_iload hx hb d_Law_law_772 (lv_at hl 5 rfl) ?_
    refine lv_iconst (v := 1) hx hb d_Law_law_774 (by decide) ?_
    refine lv_iadd hx hb d_Law_law_775 ?_
    refine os_sld (n := (i9 + 1)) hx hb hX hbl hV hL (show nI i9 + 1 = nI (i9 + 1) from nI_add i9 1) (by omega) d_Law_law_776 ?_
    refine lv_aload_n hx hb d_Law_law_777 rfl (lv_at hl 1 rfl) ?_
    refine lv_iload hx hb d_Law_law_778 (lv_at hl 5 rfl) ?_
    refine lv_iconst (v := 2) hx hb d_Law_law_780 (by decide) ?_
    refine lv_iadd hx hb d_Law_law_781 ?_
    refine os_sld (n := (i9 + 2)) hx hb hX hbl hV hL (show nI i9 + 2 = nI (i9 + 2) from nI_add i9 2) (by omega) d_Law_law_782 ?_
    refine os_call (c_Model_zone l hlt D cA bs σ_1 ad_2 (xs (i9 + 1)) (xs (i9 + 2)) P9 hR2.2.1 hP9) hE hV k_929 k_4 (os_inV (C := "RobotFaultsModel") (n := 2) (bytes := prog_9_method_27_code) (maxL := 5) (ret := (some .int)) hx hb hown (hts _ k_926) (hts _ k_927) (hts _ k_928) (hts _ k_929) (by decide +kernel) rfl (os_recv hK hV rfl rfl hr_5) rfl d_Law_law_783) (hl.1.trans hml.symm) (Nat.le_of_ble_eq_true rfl) (Nat.le_of_ble_eq_true rfl) (Nat.le_of_ble_eq_true rfl) (by show KC + 3 + 0 ≤ 601024; omega) (by show KS + 18 + 0 ≤ 7293034; omega) (fun v σ1 ad1 H locs hp hext hV => ?_) (fun E q ce σ1 ad1 H locs hp hext hV hce hcv hcl => ?_)
    · obtain ⟨rfl, hFC, b9, hb9⟩ := e_zone hp
      cases hb9
      obtain ⟨σ_7, rfl⟩ : ∃ z, z = σ1 := ⟨_, rfl⟩
      have he_8 := hext
      have hr_9 : 0 < os_n σ_7 0 := Nat.lt_of_lt_of_le hr_4 (he_8.1 0)
      have hr_10 : 0 < os_n σ_7 13 := Nat.lt_of_lt_of_le hr_5 (he_8.1 13)
      have hr_11 : 0 < os_n σ_7 45 := Nat.lt_of_lt_of_le hr_6 (he_8.1 45)
      have hg := glI hpH (by decide) hFC (fun r0 σc hq => by obtain ⟨h1, h2⟩ := ok_zone hR2 hP8 hq hp; exact ⟨⟨_, _, _, h1⟩, h2⟩)
      obtain ⟨⟨z2, t2, nP2, hR3⟩, hcode, hout⟩ := hg
      have h45c : 0 < os_n σ_7 45 ∧ os_l σ_7 45 0 = 1 := ⟨by rw [hFC.n45.1]; exact h45b.1, by rw [hFC.n45.2]; exact h45b.2⟩
      refine W.eq (g2 := F0 m 786 ls [.int b9]) rfl ?_
      refine lv_istore (lv' := [(6, .int b9), (5, .int k9), (0, .ref b), (1, .ref (ad_2 0 0)), (2, .ref (ad_2 13 0)), (3, .ref (ad_2 45 0)), (4, .int (nI i9))]) hx hb d_Law_law_786 hl (by decide) rfl (fun ls hl => ?_)
      refine lv_aload_n hx hb d_Law_law_788 rfl (lv_at hl 4 rfl) ?_
      refine os_call (c_Model_thrown l hlt D cA bs σ_7 ad_2 hR3.2.1) hE hV k_844 k_4 (os_inV (C := "RobotFaultsModel") (n := 0) (bytes := prog_9_method_2_code) (maxL := 1) (ret := (some .int)) hx hb hown (hts _ k_841) (hts _ k_842) (hts _ k_843) (hts _ k_844) (by decide +kernel) rfl (os_recv hK hV rfl rfl hr_10) rfl d_Law_law_789) (hl.1.trans hml.symm) (Nat.le_of_ble_eq_true rfl) (Nat.le_of_ble_eq_true rfl) (Nat.le_of_ble_eq_true rfl) (by show KC + 3 + 0 ≤ 601024; omega) (by show KS + 18 + 0 ≤ 7293034; omega) (fun v σ1 ad1 H locs hp hext hV => ?_) (fun E q ce σ1 ad1 H locs hp hext hV hce hcv hcl => ?_)
      · obtain ⟨rfl, rfl, hp⟩ := hp
        cases hp
        refine W.eq (g2 := F0 m 792 ls [.int (os_g σ_7 13 0 0)]) rfl ?_
        refine lv_iload hx hb d_Law_law_792 (lv_at hl 1 rfl) ?_
        refine lv_icmp_eq (tgt := 799) hx hb d_Law_law_794 (by decide) (fun c_12 => ?_) (fun c_12 => ?_)
        · skip
          refine lv_iload hx hb d_Law_law_799 (lv_at hl 1 rfl) ?_
          refine lv_if_ne (tgt := 816) hx hb d_Law_law_801 (by decide) (fun c_13 => ?_) (fun c_13 => ?_)
          · skip
            refine lv_goto (tgt := 1361) hx hb d_Law_law_816 (by decide) ?_
            refine W.widen (k := KC + 21) (n := KS + 196) (by show KC + 3 ≤ KC + 21; omega) (by show KS + 18 ≤ KS + 196; omega) ?_
            exact kk _ _ ls H locs ⟨⟨z2, t2, nP2, hR3⟩, h45c⟩ hV (lv_sub hl [2, 3, 4, 5, 6] rfl)
          · skip
            refine lv_aload_n hx hb d_Law_law_804 rfl (lv_at hl 5 rfl) ?_
            refine lv_iconst (v := 0) hx hb d_Law_law_805 (by decide) ?_
            refine os_laldN (K := 45) (i := 0) (t0 := 2) (n := 0) hx hb hK hV rfl rfl rfl hr_11 rfl (by rw [show os_l σ_7 45 0 = 1 from h45c.2]; decide) (by rw [show os_l σ_7 45 0 = 1 from h45c.2]; decide) d_Law_law_806 ?_
            refine lv_iload hx hb d_Law_law_807 (lv_at hl 0 rfl) ?_
            refine lv_i2l (v := Int32.toInt64 b9) hx hb d_Law_law_809 rfl ?_
            refine W.eq (g2 := F0 m 810 ls [.long (Int32.toInt64 b9), .long (Int32.toInt64 b9)]) (by rw [hout c_13]) ?_
            refine W.lcmpE hx hb d_Law_law_810 ?_
            refine lv_if_eq (tgt := 816) hx hb d_Law_law_811 (by decide) (fun c_14 => ?_) (fun c_14 => ?_)
            · skip
              refine lv_goto (tgt := 1361) hx hb d_Law_law_816 (by decide) ?_
              refine W.widen (k := KC + 21) (n := KS + 196) (by show KC + 3 ≤ KC + 21; omega) (by show KS + 18 ≤ KS + 196; omega) ?_
              exact kk _ _ ls H locs ⟨⟨z2, t2, nP2, hR3⟩, h45c⟩ hV (lv_sub hl [2, 3, 4, 5, 6] rfl)
            · exact absurd (by decide) c_14
        · exact absurd hcode c_12
      · exact absurd hp.2.2 (fun h => by cases h)
    · obtain ⟨_, _, _, h⟩ := e_zone hp; cases h
  · exact (hI.x hp).elim
set_option maxHeartbeats 4000000 in
set_option maxRecDepth 100000 in
theorem lc_found (l : Launch) (hlt : l.stackTraces = false) {p : Program} {e : Env} {s : State} {m : MethodId} {below : List Frame} {meth : Method} {c : Code} {b L i9 KC KS bs : Nat} {xs : Nat → Int32} {D : va_G} {cA : Nat → ClassId} {ad0 : Nat → Nat → Nat} {Q : State → Prop} (hx : p.tables.exec = Jvm.exec) (hb : c.code = code) (hml : c.maxLocals = 7) (hown : s.vm.findClass "RobotFaultsLaw" = some m.cls) (hE : os_EV D cA bs s) (hN : os_NC s) (hX : va_X b L xs s s.heap) (hbl : b < s.heap.size) (hL : L ≤ 2560) (hi5 : i9 + 5 ≤ L) (hkc : KC + 21 ≤ 601024) (hks : KS + 196 ≤ 7293034) (kk : lwK p l e s m b below meth c KC KS i9 D cA bs ad0 Q) {τ : os_S} {α : Nat → Nat → Nat} {ls : Array Slot} {H : Heap} {locs : List Loc} (hI9 : lwI τ) (hV : os_V D cA bs os_0 ad0 s τ α H locs) (hl : lv_has ls 7 [(0, .ref b), (1, .ref (α 0 0)), (2, .ref (α 13 0)), (3, .ref (α 45 0)), (4, .int (nI i9))]) : W p l e room_1 s m #[Value.ref b] below meth c H locs KC KS Q (F0 m 819 ls []) := by
  have hts := hE.hts (args := #[Value.ref b])
  have hK := hE.2.1
  have hbs := hE.2.2.1
  obtain ⟨⟨z, t, nP, hRel⟩, h45⟩ := hI9
  have hr0 : 0 < os_n τ 0 := hRel.1.n 0 (by decide)
  have hr13 : 0 < os_n τ 13 := hRel.2.1.1.n 13 (by decide) (by decide)
  have hr45 : 0 < os_n τ 45 := h45.1
  refine lv_aload_n hx hb d_Law_law_819 rfl (lv_at hl 1 rfl) ?_
  refine lv_aload_n hx hb d_Law_law_820 rfl (lv_at hl 0 rfl) ?_
  refine lv_iload hx hb d_Law_law_821 (lv_at hl 4 rfl) ?_
  refine lv_iconst (v := 1) hx hb d_Law_law_823 (by decide) ?_
  refine lv_iadd hx hb d_Law_law_824 ?_
  refine os_sld (n := (i9 + 1)) hx hb hX hbl hV hL (show nI i9 + 1 = nI (i9 + 1) from nI_add i9 1) (by omega) d_Law_law_825 ?_
  refine lv_aload_n hx hb d_Law_law_826 rfl (lv_at hl 0 rfl) ?_
  refine lv_iload hx hb d_Law_law_827 (lv_at hl 4 rfl) ?_
  refine lv_iconst (v := 2) hx hb d_Law_law_829 (by decide) ?_
  refine lv_iadd hx hb d_Law_law_830 ?_
  refine os_sld (n := (i9 + 2)) hx hb hX hbl hV hL (show nI i9 + 2 = nI (i9 + 2) from nI_add i9 2) (by omega) d_Law_law_831 ?_
  refine lv_aload_n hx hb d_Law_law_832 rfl (lv_at hl 3 rfl) ?_
  refine os_callH (c_Law_found l hlt D cA bs τ α (xs (i9 + 1)) (xs (i9 + 2)) z t nP τ hRel h45) hE hN hV k_593 k_0 (os_inSW (n := 4) (bytes := method_14_code) (maxL := 5) (ret := (some .int)) hx hb hown (hts _ k_591) (hts _ k_592) (hts _ k_0) (hts _ k_593) (by decide +kernel) rfl rfl d_Law_law_833) (hl.1.trans hml.symm) (Nat.le_of_ble_eq_true rfl) (Nat.le_of_ble_eq_true rfl) (Nat.le_of_ble_eq_true rfl) (by show KC + 4 ≤ 601024; omega) (by show KS + 24 ≤ 7293034; omega) (fun v σ1 ad1 H locs hp hext hV => ?_) (fun E q ce σ1 ad1 H locs hp hext hV hce hcv hcl => ?_)
  · obtain ⟨k9, rfl⟩ := hI.v hp
    have hm9 := hI.m hp (fun _ _ h => (r_found h).1)
    obtain ⟨σ_1, rfl⟩ : ∃ z, z = σ1 := ⟨_, rfl⟩
    obtain ⟨ad_2, rfl⟩ : ∃ z, z = ad1 := ⟨_, rfl⟩
    have he_3 := hext
    have hl : lv_has ls 7 [(0, .ref b), (1, .ref (ad_2 0 0)), (2, .ref (ad_2 13 0)), (3, .ref (ad_2 45 0)), (4, .int (nI i9))] := by rw [he_3.2.1 0 0 hr0, he_3.2.1 13 0 hr13, he_3.2.1 45 0 hr45]; exact hl
    refine W.eq (g2 := F0 m 836 ls [.int k9]) rfl ?_
    have hr_4 : 0 < os_n σ_1 0 := Nat.lt_of_lt_of_le hr0 (he_3.1 0)
    have hr_5 : 0 < os_n σ_1 13 := Nat.lt_of_lt_of_le hr13 (he_3.1 13)
    have hr_6 : 0 < os_n σ_1 45 := Nat.lt_of_lt_of_le hr45 (he_3.1 45)
    have hR2 : Rel z t nP τ σ_1 := hRel.to rfl hm9.1
    have h45b : 0 < os_n σ_1 45 ∧ os_l σ_1 45 0 = 1 := ⟨by rw [hm9.2.1]; exact h45.1, by rw [hm9.2.2]; exact h45.2⟩
    have hpH := hp
    refine lv_istore (lv' := [(5, .int k9), (0, .ref b), (1, .ref (ad_2 0 0)), (2, .ref (ad_2 13 0)), (3, .ref (ad_2 45 0)), (4, .int (nI i9))]) hx hb d_Law_law_836 hl (by decide) rfl (fun ls hl => ?_)
    refine lv_aload_n hx hb d_Law_law_838 rfl (lv_at hl 3 rfl) ?_
    refine lv_aload_n hx hb d_Law_law_839 rfl (lv_at hl 1 rfl) ?_
    refine lv_iload hx hb d_Law_law_840 (lv_at hl 5 rfl) ?_
    refine lv_iconst (v := 1) hx hb d_Law_law_842 (by decide) ?_
    refine lv_iadd hx hb d_Law_law_843 ?_
    refine os_sld (n := (i9 + 1)) hx hb hX hbl hV hL (show nI i9 + 1 = nI (i9 + 1) from nI_add i9 1) (by omega) d_Law_law_844 ?_
    refine lv_aload_n hx hb d_Law_law_845 rfl (lv_at hl 1 rfl) ?_
    refine lv_iload hx hb d_Law_law_846 (lv_at hl 5 rfl) ?_
    refine lv_iconst (v := 2) hx hb d_Law_law_848 (by decide) ?_
    refine lv_iadd hx hb d_Law_law_849 ?_
    refine os_sld (n := (i9 + 2)) hx hb hX hbl hV hL (show nI i9 + 2 = nI (i9 + 2) from nI_add i9 2) (by omega) d_Law_law_850 ?_
    refine os_call (c_Model_found l hlt D cA bs σ_1 ad_2 (xs (i9 + 1)) (xs (i9 + 2)) hR2.2.1) hE hV k_941 k_4 (os_inV (C := "RobotFaultsModel") (n := 2) (bytes := prog_9_method_28_code) (maxL := 3) (ret := (some .int)) hx hb hown (hts _ k_938) (hts _ k_939) (hts _ k_940) (hts _ k_941) (by decide +kernel) rfl (os_recv hK hV rfl rfl hr_5) rfl d_Law_law_851) (hl.1.trans hml.symm) (Nat.le_of_ble_eq_true rfl) (Nat.le_of_ble_eq_true rfl) (Nat.le_of_ble_eq_true rfl) (by show KC + 4 + 0 ≤ 601024; omega) (by show KS + 24 + 0 ≤ 7293034; omega) (fun v σ1 ad1 H locs hp hext hV => ?_) (fun E q ce σ1 ad1 H locs hp hext hV hce hcv hcl => ?_)
    · obtain ⟨rfl, hFC, b9, hb9⟩ := e_found hp
      cases hb9
      obtain ⟨σ_7, rfl⟩ : ∃ z, z = σ1 := ⟨_, rfl⟩
      have he_8 := hext
      have hr_9 : 0 < os_n σ_7 0 := Nat.lt_of_lt_of_le hr_4 (he_8.1 0)
      have hr_10 : 0 < os_n σ_7 13 := Nat.lt_of_lt_of_le hr_5 (he_8.1 13)
      have hr_11 : 0 < os_n σ_7 45 := Nat.lt_of_lt_of_le hr_6 (he_8.1 45)
      have hg := glI hpH (by decide) hFC (fun r0 σc hq => by obtain ⟨h1, h2⟩ := ok_found hR2 hq hp; exact ⟨⟨_, _, _, h1⟩, h2⟩)
      obtain ⟨⟨z2, t2, nP2, hR3⟩, hcode, hout⟩ := hg
      have h45c : 0 < os_n σ_7 45 ∧ os_l σ_7 45 0 = 1 := ⟨by rw [hFC.n45.1]; exact h45b.1, by rw [hFC.n45.2]; exact h45b.2⟩
      refine W.eq (g2 := F0 m 854 ls [.int b9]) rfl ?_
      refine lv_istore (lv' := [(6, .int b9), (5, .int k9), (0, .ref b), (1, .ref (ad_2 0 0)), (2, .ref (ad_2 13 0)), (3, .ref (ad_2 45 0)), (4, .int (nI i9))]) hx hb d_Law_law_854 hl (by decide) rfl (fun ls hl => ?_)
      refine lv_aload_n hx hb d_Law_law_856 rfl (lv_at hl 4 rfl) ?_
      refine os_call (c_Model_thrown l hlt D cA bs σ_7 ad_2 hR3.2.1) hE hV k_844 k_4 (os_inV (C := "RobotFaultsModel") (n := 0) (bytes := prog_9_method_2_code) (maxL := 1) (ret := (some .int)) hx hb hown (hts _ k_841) (hts _ k_842) (hts _ k_843) (hts _ k_844) (by decide +kernel) rfl (os_recv hK hV rfl rfl hr_10) rfl d_Law_law_857) (hl.1.trans hml.symm) (Nat.le_of_ble_eq_true rfl) (Nat.le_of_ble_eq_true rfl) (Nat.le_of_ble_eq_true rfl) (by show KC + 4 + 0 ≤ 601024; omega) (by show KS + 24 + 0 ≤ 7293034; omega) (fun v σ1 ad1 H locs hp hext hV => ?_) (fun E q ce σ1 ad1 H locs hp hext hV hce hcv hcl => ?_)
      · obtain ⟨rfl, rfl, hp⟩ := hp
        cases hp
        refine W.eq (g2 := F0 m 860 ls [.int (os_g σ_7 13 0 0)]) rfl ?_
        refine lv_iload hx hb d_Law_law_860 (lv_at hl 1 rfl) ?_
        refine lv_icmp_eq (tgt := 867) hx hb d_Law_law_862 (by decide) (fun c_12 => ?_) (fun c_12 => ?_)
        · skip
          refine lv_iload hx hb d_Law_law_867 (lv_at hl 1 rfl) ?_
          refine lv_if_ne (tgt := 884) hx hb d_Law_law_869 (by decide) (fun c_13 => ?_) (fun c_13 => ?_)
          · skip
            refine lv_goto (tgt := 1361) hx hb d_Law_law_884 (by decide) ?_
            refine W.widen (k := KC + 21) (n := KS + 196) (by show KC + 4 ≤ KC + 21; omega) (by show KS + 24 ≤ KS + 196; omega) ?_
            exact kk _ _ ls H locs ⟨⟨z2, t2, nP2, hR3⟩, h45c⟩ hV (lv_sub hl [2, 3, 4, 5, 6] rfl)
          · skip
            refine lv_aload_n hx hb d_Law_law_872 rfl (lv_at hl 5 rfl) ?_
            refine lv_iconst (v := 0) hx hb d_Law_law_873 (by decide) ?_
            refine os_laldN (K := 45) (i := 0) (t0 := 2) (n := 0) hx hb hK hV rfl rfl rfl hr_11 rfl (by rw [show os_l σ_7 45 0 = 1 from h45c.2]; decide) (by rw [show os_l σ_7 45 0 = 1 from h45c.2]; decide) d_Law_law_874 ?_
            refine lv_iload hx hb d_Law_law_875 (lv_at hl 0 rfl) ?_
            refine lv_i2l (v := Int32.toInt64 b9) hx hb d_Law_law_877 rfl ?_
            refine W.eq (g2 := F0 m 878 ls [.long (Int32.toInt64 b9), .long (Int32.toInt64 b9)]) (by rw [hout c_13]) ?_
            refine W.lcmpE hx hb d_Law_law_878 ?_
            refine lv_if_eq (tgt := 884) hx hb d_Law_law_879 (by decide) (fun c_14 => ?_) (fun c_14 => ?_)
            · skip
              refine lv_goto (tgt := 1361) hx hb d_Law_law_884 (by decide) ?_
              refine W.widen (k := KC + 21) (n := KS + 196) (by show KC + 4 ≤ KC + 21; omega) (by show KS + 24 ≤ KS + 196; omega) ?_
              exact kk _ _ ls H locs ⟨⟨z2, t2, nP2, hR3⟩, h45c⟩ hV (lv_sub hl [2, 3, 4, 5, 6] rfl)
            · exact absurd (by decide) c_14
        · exact absurd hcode c_12
      · exact absurd hp.2.2 (fun h => by cases h)
    · obtain ⟨_, _, _, h⟩ := e_found hp; cases h
  · exact (hI.x hp).elim
set_option maxHeartbeats 4000000 in
set_option maxRecDepth 100000 in
theorem lc_tow (l : Launch) (hlt : l.stackTraces = false) {p : Program} {e : Env} {s : State} {m : MethodId} {below : List Frame} {meth : Method} {c : Code} {b L i9 KC KS bs : Nat} {xs : Nat → Int32} {D : va_G} {cA : Nat → ClassId} {ad0 : Nat → Nat → Nat} {Q : State → Prop} (hx : p.tables.exec = Jvm.exec) (hb : c.code = code) (hml : c.maxLocals = 7) (hown : s.vm.findClass "RobotFaultsLaw" = some m.cls) (hE : os_EV D cA bs s) (hN : os_NC s) (hX : va_X b L xs s s.heap) (hbl : b < s.heap.size) (hL : L ≤ 2560) (hi5 : i9 + 5 ≤ L) (hkc : KC + 21 ≤ 601024) (hks : KS + 196 ≤ 7293034) (kk : lwK p l e s m b below meth c KC KS i9 D cA bs ad0 Q) {τ : os_S} {α : Nat → Nat → Nat} {ls : Array Slot} {H : Heap} {locs : List Loc} (hI9 : lwI τ) (hV : os_V D cA bs os_0 ad0 s τ α H locs) (hl : lv_has ls 7 [(0, .ref b), (1, .ref (α 0 0)), (2, .ref (α 13 0)), (3, .ref (α 45 0)), (4, .int (nI i9))]) : W p l e room_1 s m #[Value.ref b] below meth c H locs KC KS Q (F0 m 887 ls []) := by
  have hts := hE.hts (args := #[Value.ref b])
  have hK := hE.2.1
  have hbs := hE.2.2.1
  obtain ⟨⟨z, t, nP, hRel⟩, h45⟩ := hI9
  have hr0 : 0 < os_n τ 0 := hRel.1.n 0 (by decide)
  have hr13 : 0 < os_n τ 13 := hRel.2.1.1.n 13 (by decide) (by decide)
  have hr45 : 0 < os_n τ 45 := h45.1
  refine lv_aload_n hx hb d_Law_law_887 rfl (lv_at hl 1 rfl) ?_
  refine lv_aload_n hx hb d_Law_law_888 rfl (lv_at hl 0 rfl) ?_
  refine lv_iload hx hb d_Law_law_889 (lv_at hl 4 rfl) ?_
  refine lv_iconst (v := 1) hx hb d_Law_law_891 (by decide) ?_
  refine lv_iadd hx hb d_Law_law_892 ?_
  refine os_sld (n := (i9 + 1)) hx hb hX hbl hV hL (show nI i9 + 1 = nI (i9 + 1) from nI_add i9 1) (by omega) d_Law_law_893 ?_
  refine lv_aload_n hx hb d_Law_law_894 rfl (lv_at hl 0 rfl) ?_
  refine lv_iload hx hb d_Law_law_895 (lv_at hl 4 rfl) ?_
  refine lv_iconst (v := 2) hx hb d_Law_law_897 (by decide) ?_
  refine lv_iadd hx hb d_Law_law_898 ?_
  refine os_sld (n := (i9 + 2)) hx hb hX hbl hV hL (show nI i9 + 2 = nI (i9 + 2) from nI_add i9 2) (by omega) d_Law_law_899 ?_
  refine os_callH (c_Law_tow l hlt D cA bs τ α (xs (i9 + 1)) (xs (i9 + 2)) z t nP τ hRel h45) hE hN hV k_606 k_0 (os_inSW (n := 3) (bytes := method_15_code) (maxL := 4) (ret := (some .int)) hx hb hown (hts _ k_604) (hts _ k_605) (hts _ k_0) (hts _ k_606) (by decide +kernel) rfl rfl d_Law_law_900) (hl.1.trans hml.symm) (Nat.le_of_ble_eq_true rfl) (Nat.le_of_ble_eq_true rfl) (Nat.le_of_ble_eq_true rfl) (by show KC + 3 ≤ 601024; omega) (by show KS + 18 ≤ 7293034; omega) (fun v σ1 ad1 H locs hp hext hV => ?_) (fun E q ce σ1 ad1 H locs hp hext hV hce hcv hcl => ?_)
  · obtain ⟨k9, rfl⟩ := hV0.v hp
    have hm9 := hV0.m hp (fun _ _ h => (r_tow h).1)
    obtain ⟨σ_1, rfl⟩ : ∃ z, z = σ1 := ⟨_, rfl⟩
    obtain ⟨ad_2, rfl⟩ : ∃ z, z = ad1 := ⟨_, rfl⟩
    have he_3 := hext
    have hl : lv_has ls 7 [(0, .ref b), (1, .ref (ad_2 0 0)), (2, .ref (ad_2 13 0)), (3, .ref (ad_2 45 0)), (4, .int (nI i9))] := by rw [he_3.2.1 0 0 hr0, he_3.2.1 13 0 hr13, he_3.2.1 45 0 hr45]; exact hl
    refine W.eq (g2 := F0 m 903 ls [.int k9]) rfl ?_
    have hr_4 : 0 < os_n σ_1 0 := Nat.lt_of_lt_of_le hr0 (he_3.1 0)
    have hr_5 : 0 < os_n σ_1 13 := Nat.lt_of_lt_of_le hr13 (he_3.1 13)
    have hr_6 : 0 < os_n σ_1 45 := Nat.lt_of_lt_of_le hr45 (he_3.1 45)
    have hR2 : Rel z t nP τ σ_1 := hRel.to rfl hm9.1
    have h45b : 0 < os_n σ_1 45 ∧ os_l σ_1 45 0 = 1 := ⟨by rw [hm9.2.1]; exact h45.1, by rw [hm9.2.2]; exact h45.2⟩
    have hpH := hp
    refine lv_istore (lv' := [(5, .int k9), (0, .ref b), (1, .ref (ad_2 0 0)), (2, .ref (ad_2 13 0)), (3, .ref (ad_2 45 0)), (4, .int (nI i9))]) hx hb d_Law_law_903 hl (by decide) rfl (fun ls hl => ?_)
    refine lv_aload_n hx hb d_Law_law_905 rfl (lv_at hl 3 rfl) ?_
    refine lv_aload_n hx hb d_Law_law_906 rfl (lv_at hl 1 rfl) ?_
    refine lv_iload hx hb d_Law_law_907 (lv_at hl 5 rfl) ?_
    refine lv_iconst (v := 1) hx hb d_Law_law_909 (by decide) ?_
    refine lv_iadd hx hb d_Law_law_910 ?_
    refine os_sld (n := (i9 + 1)) hx hb hX hbl hV hL (show nI i9 + 1 = nI (i9 + 1) from nI_add i9 1) (by omega) d_Law_law_911 ?_
    refine lv_aload_n hx hb d_Law_law_912 rfl (lv_at hl 1 rfl) ?_
    refine lv_iload hx hb d_Law_law_913 (lv_at hl 5 rfl) ?_
    refine lv_iconst (v := 2) hx hb d_Law_law_915 (by decide) ?_
    refine lv_iadd hx hb d_Law_law_916 ?_
    refine os_sld (n := (i9 + 2)) hx hb hX hbl hV hL (show nI i9 + 2 = nI (i9 + 2) from nI_add i9 2) (by omega) d_Law_law_917 ?_
    refine os_call (c_Model_tow l hlt D cA bs σ_1 ad_2 (xs (i9 + 1)) (xs (i9 + 2)) hR2.2.1) hE hV k_945 k_4 (os_inV (C := "RobotFaultsModel") (n := 2) (bytes := prog_9_method_29_code) (maxL := 3) (ret := none) hx hb hown (hts _ k_942) (hts _ k_943) (hts _ k_944) (hts _ k_945) (by decide +kernel) rfl (os_recv hK hV rfl rfl hr_5) rfl d_Law_law_918) (hl.1.trans hml.symm) (Nat.le_of_ble_eq_true rfl) (Nat.le_of_ble_eq_true rfl) (Nat.le_of_ble_eq_true rfl) (by show KC + 3 + 0 ≤ 601024; omega) (by show KS + 18 + 0 ≤ 7293034; omega) (fun v σ1 ad1 H locs hp hext hV => ?_) (fun E q ce σ1 ad1 H locs hp hext hV hce hcv hcl => ?_)
    · obtain ⟨rfl, hFC, hb9⟩ := e_tow hp
      cases hb9
      obtain ⟨σ_7, rfl⟩ : ∃ z, z = σ1 := ⟨_, rfl⟩
      have he_8 := hext
      have hr_9 : 0 < os_n σ_7 0 := Nat.lt_of_lt_of_le hr_4 (he_8.1 0)
      have hr_10 : 0 < os_n σ_7 13 := Nat.lt_of_lt_of_le hr_5 (he_8.1 13)
      have hr_11 : 0 < os_n σ_7 45 := Nat.lt_of_lt_of_le hr_6 (he_8.1 45)
      have hg := glV hpH (by decide) hFC (fun r0 σc hq => by obtain ⟨h1, h2⟩ := ok_tow hR2 hq hp; exact ⟨⟨_, _, _, h1⟩, h2⟩)
      obtain ⟨⟨z2, t2, nP2, hR3⟩, hcode⟩ := hg
      have h45c : 0 < os_n σ_7 45 ∧ os_l σ_7 45 0 = 1 := ⟨by rw [hFC.n45.1]; exact h45b.1, by rw [hFC.n45.2]; exact h45b.2⟩
      refine W.eq (g2 := F0 m 921 ls []) rfl ?_
      refine lv_aload_n hx hb d_Law_law_921 rfl (lv_at hl 3 rfl) ?_
      refine os_call (c_Model_thrown l hlt D cA bs σ_7 ad_2 hR3.2.1) hE hV k_844 k_4 (os_inV (C := "RobotFaultsModel") (n := 0) (bytes := prog_9_method_2_code) (maxL := 1) (ret := (some .int)) hx hb hown (hts _ k_841) (hts _ k_842) (hts _ k_843) (hts _ k_844) (by decide +kernel) rfl (os_recv hK hV rfl rfl hr_10) rfl d_Law_law_922) (hl.1.trans hml.symm) (Nat.le_of_ble_eq_true rfl) (Nat.le_of_ble_eq_true rfl) (Nat.le_of_ble_eq_true rfl) (by show KC + 3 + 0 ≤ 601024; omega) (by show KS + 18 + 0 ≤ 7293034; omega) (fun v σ1 ad1 H locs hp hext hV => ?_) (fun E q ce σ1 ad1 H locs hp hext hV hce hcv hcl => ?_)
      · obtain ⟨rfl, rfl, hp⟩ := hp
        cases hp
        refine W.eq (g2 := F0 m 925 ls [.int (os_g σ_7 13 0 0)]) rfl ?_
        refine lv_iload hx hb d_Law_law_925 (lv_at hl 0 rfl) ?_
        refine lv_icmp_eq (tgt := 932) hx hb d_Law_law_927 (by decide) (fun c_12 => ?_) (fun c_12 => ?_)
        · skip
          refine lv_goto (tgt := 1361) hx hb d_Law_law_932 (by decide) ?_
          refine W.widen (k := KC + 21) (n := KS + 196) (by show KC + 3 ≤ KC + 21; omega) (by show KS + 18 ≤ KS + 196; omega) ?_
          exact kk _ _ ls H locs ⟨⟨z2, t2, nP2, hR3⟩, h45c⟩ hV (lv_sub hl [1, 2, 3, 4, 5] rfl)
        · exact absurd hcode c_12
      · exact absurd hp.2.2 (fun h => by cases h)
    · obtain ⟨_, _, h⟩ := e_tow hp; cases h
  · exact (hV0.x hp).elim
set_option maxHeartbeats 4000000 in
set_option maxRecDepth 100000 in
theorem lc_plant (l : Launch) (hlt : l.stackTraces = false) {p : Program} {e : Env} {s : State} {m : MethodId} {below : List Frame} {meth : Method} {c : Code} {b L i9 KC KS bs : Nat} {xs : Nat → Int32} {D : va_G} {cA : Nat → ClassId} {ad0 : Nat → Nat → Nat} {Q : State → Prop} (hx : p.tables.exec = Jvm.exec) (hb : c.code = code) (hml : c.maxLocals = 7) (hown : s.vm.findClass "RobotFaultsLaw" = some m.cls) (hE : os_EV D cA bs s) (hN : os_NC s) (hX : va_X b L xs s s.heap) (hbl : b < s.heap.size) (hL : L ≤ 2560) (hi5 : i9 + 5 ≤ L) (hkc : KC + 21 ≤ 601024) (hks : KS + 196 ≤ 7293034) (kk : lwK p l e s m b below meth c KC KS i9 D cA bs ad0 Q) {τ : os_S} {α : Nat → Nat → Nat} {ls : Array Slot} {H : Heap} {locs : List Loc} (hI9 : lwI τ) (hV : os_V D cA bs os_0 ad0 s τ α H locs) (hl : lv_has ls 7 [(0, .ref b), (1, .ref (α 0 0)), (2, .ref (α 13 0)), (3, .ref (α 45 0)), (4, .int (nI i9))]) : W p l e room_1 s m #[Value.ref b] below meth c H locs KC KS Q (F0 m 935 ls []) := by
  have hts := hE.hts (args := #[Value.ref b])
  have hK := hE.2.1
  have hbs := hE.2.2.1
  obtain ⟨⟨z, t, nP, hRel⟩, h45⟩ := hI9
  have hr0 : 0 < os_n τ 0 := hRel.1.n 0 (by decide)
  have hr13 : 0 < os_n τ 13 := hRel.2.1.1.n 13 (by decide) (by decide)
  have hr45 : 0 < os_n τ 45 := h45.1
  refine lv_aload_n hx hb d_Law_law_935 rfl (lv_at hl 1 rfl) ?_
  refine lv_aload_n hx hb d_Law_law_936 rfl (lv_at hl 0 rfl) ?_
  refine lv_iload hx hb d_Law_law_937 (lv_at hl 4 rfl) ?_
  refine lv_iconst (v := 1) hx hb d_Law_law_939 (by decide) ?_
  refine lv_iadd hx hb d_Law_law_940 ?_
  refine os_sld (n := (i9 + 1)) hx hb hX hbl hV hL (show nI i9 + 1 = nI (i9 + 1) from nI_add i9 1) (by omega) d_Law_law_941 ?_
  refine lv_aload_n hx hb d_Law_law_942 rfl (lv_at hl 0 rfl) ?_
  refine lv_iload hx hb d_Law_law_943 (lv_at hl 4 rfl) ?_
  refine lv_iconst (v := 2) hx hb d_Law_law_945 (by decide) ?_
  refine lv_iadd hx hb d_Law_law_946 ?_
  refine os_sld (n := (i9 + 2)) hx hb hX hbl hV hL (show nI i9 + 2 = nI (i9 + 2) from nI_add i9 2) (by omega) d_Law_law_947 ?_
  refine lv_aload_n hx hb d_Law_law_948 rfl (lv_at hl 0 rfl) ?_
  refine lv_iload hx hb d_Law_law_949 (lv_at hl 4 rfl) ?_
  refine lv_iconst (v := 3) hx hb d_Law_law_951 (by decide) ?_
  refine lv_iadd hx hb d_Law_law_952 ?_
  refine os_sld (n := (i9 + 3)) hx hb hX hbl hV hL (show nI i9 + 3 = nI (i9 + 3) from nI_add i9 3) (by omega) d_Law_law_953 ?_
  refine os_callH (c_Law_plant l hlt D cA bs τ α (xs (i9 + 1)) (xs (i9 + 2)) (xs (i9 + 3)) z t nP τ hRel h45) hE hN hV k_614 k_0 (os_inSW (n := 4) (bytes := method_16_code) (maxL := 5) (ret := (some .int)) hx hb hown (hts _ k_612) (hts _ k_613) (hts _ k_0) (hts _ k_614) (by decide +kernel) rfl rfl d_Law_law_954) (hl.1.trans hml.symm) (Nat.le_of_ble_eq_true rfl) (Nat.le_of_ble_eq_true rfl) (Nat.le_of_ble_eq_true rfl) (by show KC + 3 ≤ 601024; omega) (by show KS + 18 ≤ 7293034; omega) (fun v σ1 ad1 H locs hp hext hV => ?_) (fun E q ce σ1 ad1 H locs hp hext hV hce hcv hcl => ?_)
  · obtain ⟨k9, rfl⟩ := hV0.v hp
    have hm9 := hV0.m hp (fun _ _ h => (r_plant h).1)
    obtain ⟨σ_1, rfl⟩ : ∃ z, z = σ1 := ⟨_, rfl⟩
    obtain ⟨ad_2, rfl⟩ : ∃ z, z = ad1 := ⟨_, rfl⟩
    have he_3 := hext
    have hl : lv_has ls 7 [(0, .ref b), (1, .ref (ad_2 0 0)), (2, .ref (ad_2 13 0)), (3, .ref (ad_2 45 0)), (4, .int (nI i9))] := by rw [he_3.2.1 0 0 hr0, he_3.2.1 13 0 hr13, he_3.2.1 45 0 hr45]; exact hl
    refine W.eq (g2 := F0 m 957 ls [.int k9]) rfl ?_
    have hr_4 : 0 < os_n σ_1 0 := Nat.lt_of_lt_of_le hr0 (he_3.1 0)
    have hr_5 : 0 < os_n σ_1 13 := Nat.lt_of_lt_of_le hr13 (he_3.1 13)
    have hr_6 : 0 < os_n σ_1 45 := Nat.lt_of_lt_of_le hr45 (he_3.1 45)
    have hR2 : Rel z t nP τ σ_1 := hRel.to rfl hm9.1
    have h45b : 0 < os_n σ_1 45 ∧ os_l σ_1 45 0 = 1 := ⟨by rw [hm9.2.1]; exact h45.1, by rw [hm9.2.2]; exact h45.2⟩
    have hpH := hp
    refine lv_istore (lv' := [(5, .int k9), (0, .ref b), (1, .ref (ad_2 0 0)), (2, .ref (ad_2 13 0)), (3, .ref (ad_2 45 0)), (4, .int (nI i9))]) hx hb d_Law_law_957 hl (by decide) rfl (fun ls hl => ?_)
    refine lv_aload_n hx hb d_Law_law_959 rfl (lv_at hl 3 rfl) ?_
    refine lv_aload_n hx hb d_Law_law_960 rfl (lv_at hl 1 rfl) ?_
    refine lv_iload hx hb d_Law_law_961 (lv_at hl 5 rfl) ?_
    refine lv_iconst (v := 1) hx hb d_Law_law_963 (by decide) ?_
    refine lv_iadd hx hb d_Law_law_964 ?_
    refine os_sld (n := (i9 + 1)) hx hb hX hbl hV hL (show nI i9 + 1 = nI (i9 + 1) from nI_add i9 1) (by omega) d_Law_law_965 ?_
    refine lv_aload_n hx hb d_Law_law_966 rfl (lv_at hl 1 rfl) ?_
    refine lv_iload hx hb d_Law_law_967 (lv_at hl 5 rfl) ?_
    refine lv_iconst (v := 2) hx hb d_Law_law_969 (by decide) ?_
    refine lv_iadd hx hb d_Law_law_970 ?_
    refine os_sld (n := (i9 + 2)) hx hb hX hbl hV hL (show nI i9 + 2 = nI (i9 + 2) from nI_add i9 2) (by omega) d_Law_law_971 ?_
    refine lv_aload_n hx hb d_Law_law_972 rfl (lv_at hl 1 rfl) ?_
    refine lv_iload hx hb d_Law_law_973 (lv_at hl 5 rfl) ?_
    refine lv_iconst (v := 3) hx hb d_Law_law_975 (by decide) ?_
    refine lv_iadd hx hb d_Law_law_976 ?_
    refine os_sld (n := (i9 + 3)) hx hb hX hbl hV hL (show nI i9 + 3 = nI (i9 + 3) from nI_add i9 3) (by omega) d_Law_law_977 ?_
    refine os_call (c_Model_plant l hlt D cA bs σ_1 ad_2 (xs (i9 + 1)) (xs (i9 + 2)) (xs (i9 + 3)) hR2.2.1) hE hV k_949 k_4 (os_inV (C := "RobotFaultsModel") (n := 3) (bytes := prog_9_method_30_code) (maxL := 4) (ret := none) hx hb hown (hts _ k_946) (hts _ k_947) (hts _ k_948) (hts _ k_949) (by decide +kernel) rfl (os_recv hK hV rfl rfl hr_5) rfl d_Law_law_978) (hl.1.trans hml.symm) (Nat.le_of_ble_eq_true rfl) (Nat.le_of_ble_eq_true rfl) (Nat.le_of_ble_eq_true rfl) (by show KC + 3 + 0 ≤ 601024; omega) (by show KS + 18 + 0 ≤ 7293034; omega) (fun v σ1 ad1 H locs hp hext hV => ?_) (fun E q ce σ1 ad1 H locs hp hext hV hce hcv hcl => ?_)
    · obtain ⟨rfl, hFC, hb9⟩ := e_plant hp
      cases hb9
      obtain ⟨σ_7, rfl⟩ : ∃ z, z = σ1 := ⟨_, rfl⟩
      have he_8 := hext
      have hr_9 : 0 < os_n σ_7 0 := Nat.lt_of_lt_of_le hr_4 (he_8.1 0)
      have hr_10 : 0 < os_n σ_7 13 := Nat.lt_of_lt_of_le hr_5 (he_8.1 13)
      have hr_11 : 0 < os_n σ_7 45 := Nat.lt_of_lt_of_le hr_6 (he_8.1 45)
      have hg := glV hpH (by decide) hFC (fun r0 σc hq => by obtain ⟨⟨z9, h1⟩, h2⟩ := ok_plant hR2 hq hp; exact ⟨⟨_, _, _, h1⟩, h2⟩)
      obtain ⟨⟨z2, t2, nP2, hR3⟩, hcode⟩ := hg
      have h45c : 0 < os_n σ_7 45 ∧ os_l σ_7 45 0 = 1 := ⟨by rw [hFC.n45.1]; exact h45b.1, by rw [hFC.n45.2]; exact h45b.2⟩
      refine W.eq (g2 := F0 m 981 ls []) rfl ?_
      refine lv_aload_n hx hb d_Law_law_981 rfl (lv_at hl 3 rfl) ?_
      refine os_call (c_Model_thrown l hlt D cA bs σ_7 ad_2 hR3.2.1) hE hV k_844 k_4 (os_inV (C := "RobotFaultsModel") (n := 0) (bytes := prog_9_method_2_code) (maxL := 1) (ret := (some .int)) hx hb hown (hts _ k_841) (hts _ k_842) (hts _ k_843) (hts _ k_844) (by decide +kernel) rfl (os_recv hK hV rfl rfl hr_10) rfl d_Law_law_982) (hl.1.trans hml.symm) (Nat.le_of_ble_eq_true rfl) (Nat.le_of_ble_eq_true rfl) (Nat.le_of_ble_eq_true rfl) (by show KC + 3 + 0 ≤ 601024; omega) (by show KS + 18 + 0 ≤ 7293034; omega) (fun v σ1 ad1 H locs hp hext hV => ?_) (fun E q ce σ1 ad1 H locs hp hext hV hce hcv hcl => ?_)
      · obtain ⟨rfl, rfl, hp⟩ := hp
        cases hp
        refine W.eq (g2 := F0 m 985 ls [.int (os_g σ_7 13 0 0)]) rfl ?_
        refine lv_iload hx hb d_Law_law_985 (lv_at hl 0 rfl) ?_
        refine lv_icmp_eq (tgt := 992) hx hb d_Law_law_987 (by decide) (fun c_12 => ?_) (fun c_12 => ?_)
        · skip
          refine lv_goto (tgt := 1361) hx hb d_Law_law_992 (by decide) ?_
          refine W.widen (k := KC + 21) (n := KS + 196) (by show KC + 3 ≤ KC + 21; omega) (by show KS + 18 ≤ KS + 196; omega) ?_
          exact kk _ _ ls H locs ⟨⟨z2, t2, nP2, hR3⟩, h45c⟩ hV (lv_sub hl [1, 2, 3, 4, 5] rfl)
        · exact absurd hcode c_12
      · exact absurd hp.2.2 (fun h => by cases h)
    · obtain ⟨_, _, h⟩ := e_plant hp; cases h
  · exact (hV0.x hp).elim
set_option maxHeartbeats 4000000 in
set_option maxRecDepth 100000 in
theorem lc_pass (l : Launch) (hlt : l.stackTraces = false) {p : Program} {e : Env} {s : State} {m : MethodId} {below : List Frame} {meth : Method} {c : Code} {b L i9 KC KS bs : Nat} {xs : Nat → Int32} {D : va_G} {cA : Nat → ClassId} {ad0 : Nat → Nat → Nat} {Q : State → Prop} (hx : p.tables.exec = Jvm.exec) (hb : c.code = code) (hml : c.maxLocals = 7) (hown : s.vm.findClass "RobotFaultsLaw" = some m.cls) (hE : os_EV D cA bs s) (hN : os_NC s) (hX : va_X b L xs s s.heap) (hbl : b < s.heap.size) (hL : L ≤ 2560) (hi5 : i9 + 5 ≤ L) (hkc : KC + 21 ≤ 601024) (hks : KS + 196 ≤ 7293034) (kk : lwK p l e s m b below meth c KC KS i9 D cA bs ad0 Q) {τ : os_S} {α : Nat → Nat → Nat} {ls : Array Slot} {H : Heap} {locs : List Loc} (hI9 : lwI τ) (hV : os_V D cA bs os_0 ad0 s τ α H locs) (hl : lv_has ls 7 [(0, .ref b), (1, .ref (α 0 0)), (2, .ref (α 13 0)), (3, .ref (α 45 0)), (4, .int (nI i9))]) : W p l e room_1 s m #[Value.ref b] below meth c H locs KC KS Q (F0 m 995 ls []) := by
  have hts := hE.hts (args := #[Value.ref b])
  have hK := hE.2.1
  have hbs := hE.2.2.1
  obtain ⟨⟨z, t, nP, hRel⟩, h45⟩ := hI9
  have hr0 : 0 < os_n τ 0 := hRel.1.n 0 (by decide)
  have hr13 : 0 < os_n τ 13 := hRel.2.1.1.n 13 (by decide) (by decide)
  have hr45 : 0 < os_n τ 45 := h45.1
  refine lv_aload_n hx hb d_Law_law_995 rfl (lv_at hl 1 rfl) ?_
  refine lv_aload_n hx hb d_Law_law_996 rfl (lv_at hl 0 rfl) ?_
  refine lv_iload hx hb d_Law_law_997 (lv_at hl 4 rfl) ?_
  refine lv_iconst (v := 1) hx hb d_Law_law_999 (by decide) ?_
  refine lv_iadd hx hb d_Law_law_1000 ?_
  refine os_sld (n := (i9 + 1)) hx hb hX hbl hV hL (show nI i9 + 1 = nI (i9 + 1) from nI_add i9 1) (by omega) d_Law_law_1001 ?_
  refine lv_aload_n hx hb d_Law_law_1002 rfl (lv_at hl 3 rfl) ?_
  refine os_callH (c_Law_pass l hlt D cA bs τ α (xs (i9 + 1)) z t nP τ hRel h45) hE hN hV k_641 k_0 (os_inSW (n := 3) (bytes := method_17_code) (maxL := 4) (ret := (some .int)) hx hb hown (hts _ k_639) (hts _ k_640) (hts _ k_0) (hts _ k_641) (by decide +kernel) rfl rfl d_Law_law_1003) (hl.1.trans hml.symm) (Nat.le_of_ble_eq_true rfl) (Nat.le_of_ble_eq_true rfl) (Nat.le_of_ble_eq_true rfl) (by show KC + 21 ≤ 601024; omega) (by show KS + 196 ≤ 7293034; omega) (fun v σ1 ad1 H locs hp hext hV => ?_) (fun E q ce σ1 ad1 H locs hp hext hV hce hcv hcl => ?_)
  · obtain ⟨k9, rfl⟩ := hI.v hp
    have hm9 := hI.m hp (fun _ _ h => (r_pass h).1)
    obtain ⟨σ_1, rfl⟩ : ∃ z, z = σ1 := ⟨_, rfl⟩
    obtain ⟨ad_2, rfl⟩ : ∃ z, z = ad1 := ⟨_, rfl⟩
    have he_3 := hext
    have hl : lv_has ls 7 [(0, .ref b), (1, .ref (ad_2 0 0)), (2, .ref (ad_2 13 0)), (3, .ref (ad_2 45 0)), (4, .int (nI i9))] := by rw [he_3.2.1 0 0 hr0, he_3.2.1 13 0 hr13, he_3.2.1 45 0 hr45]; exact hl
    refine W.eq (g2 := F0 m 1006 ls [.int k9]) rfl ?_
    have hr_4 : 0 < os_n σ_1 0 := Nat.lt_of_lt_of_le hr0 (he_3.1 0)
    have hr_5 : 0 < os_n σ_1 13 := Nat.lt_of_lt_of_le hr13 (he_3.1 13)
    have hr_6 : 0 < os_n σ_1 45 := Nat.lt_of_lt_of_le hr45 (he_3.1 45)
    have hR2 : Rel z t nP τ σ_1 := hRel.to rfl hm9.1
    have h45b : 0 < os_n σ_1 45 ∧ os_l σ_1 45 0 = 1 := ⟨by rw [hm9.2.1]; exact h45.1, by rw [hm9.2.2]; exact h45.2⟩
    have hpH := hp
    refine lv_istore (lv' := [(5, .int k9), (0, .ref b), (1, .ref (ad_2 0 0)), (2, .ref (ad_2 13 0)), (3, .ref (ad_2 45 0)), (4, .int (nI i9))]) hx hb d_Law_law_1006 hl (by decide) rfl (fun ls hl => ?_)
    refine lv_aload_n hx hb d_Law_law_1008 rfl (lv_at hl 3 rfl) ?_
    refine lv_aload_n hx hb d_Law_law_1009 rfl (lv_at hl 1 rfl) ?_
    refine lv_iload hx hb d_Law_law_1010 (lv_at hl 5 rfl) ?_
    refine lv_iconst (v := 1) hx hb d_Law_law_1012 (by decide) ?_
    refine lv_iadd hx hb d_Law_law_1013 ?_
    refine os_sld (n := (i9 + 1)) hx hb hX hbl hV hL (show nI i9 + 1 = nI (i9 + 1) from nI_add i9 1) (by omega) d_Law_law_1014 ?_
    refine os_call (c_Model_pass l hlt D cA bs σ_1 ad_2 (xs (i9 + 1)) hR2.MJ) hE hV k_953 k_4 (os_inV (C := "RobotFaultsModel") (n := 1) (bytes := prog_9_method_32_code) (maxL := 5) (ret := (some .int)) hx hb hown (hts _ k_950) (hts _ k_951) (hts _ k_952) (hts _ k_953) (by decide +kernel) rfl (os_recv hK hV rfl rfl hr_5) rfl d_Law_law_1015) (hl.1.trans hml.symm) (Nat.le_of_ble_eq_true rfl) (Nat.le_of_ble_eq_true rfl) (Nat.le_of_ble_eq_true rfl) (by show KC + 21 + 0 ≤ 601024; omega) (by show KS + 196 + 0 ≤ 7293034; omega) (fun v σ1 ad1 H locs hp hext hV => ?_) (fun E q ce σ1 ad1 H locs hp hext hV hce hcv hcl => ?_)
    · obtain ⟨rfl, hFC, b9, hb9⟩ := e_pass hp
      cases hb9
      obtain ⟨σ_7, rfl⟩ : ∃ z, z = σ1 := ⟨_, rfl⟩
      have he_8 := hext
      have hr_9 : 0 < os_n σ_7 0 := Nat.lt_of_lt_of_le hr_4 (he_8.1 0)
      have hr_10 : 0 < os_n σ_7 13 := Nat.lt_of_lt_of_le hr_5 (he_8.1 13)
      have hr_11 : 0 < os_n σ_7 45 := Nat.lt_of_lt_of_le hr_6 (he_8.1 45)
      have hg := glI hpH (by decide) hFC (fun r0 σc hq => by obtain ⟨⟨z9, z8, h1⟩, h2⟩ := ok_pass hR2 hq hp; exact ⟨⟨_, _, _, h1⟩, h2⟩)
      obtain ⟨⟨z2, t2, nP2, hR3⟩, hcode, hout⟩ := hg
      have h45c : 0 < os_n σ_7 45 ∧ os_l σ_7 45 0 = 1 := ⟨by rw [hFC.n45.1]; exact h45b.1, by rw [hFC.n45.2]; exact h45b.2⟩
      refine W.eq (g2 := F0 m 1018 ls [.int b9]) rfl ?_
      refine lv_istore (lv' := [(6, .int b9), (5, .int k9), (0, .ref b), (1, .ref (ad_2 0 0)), (2, .ref (ad_2 13 0)), (3, .ref (ad_2 45 0)), (4, .int (nI i9))]) hx hb d_Law_law_1018 hl (by decide) rfl (fun ls hl => ?_)
      refine lv_aload_n hx hb d_Law_law_1020 rfl (lv_at hl 4 rfl) ?_
      refine os_call (c_Model_thrown l hlt D cA bs σ_7 ad_2 hR3.2.1) hE hV k_844 k_4 (os_inV (C := "RobotFaultsModel") (n := 0) (bytes := prog_9_method_2_code) (maxL := 1) (ret := (some .int)) hx hb hown (hts _ k_841) (hts _ k_842) (hts _ k_843) (hts _ k_844) (by decide +kernel) rfl (os_recv hK hV rfl rfl hr_10) rfl d_Law_law_1021) (hl.1.trans hml.symm) (Nat.le_of_ble_eq_true rfl) (Nat.le_of_ble_eq_true rfl) (Nat.le_of_ble_eq_true rfl) (by show KC + 21 + 0 ≤ 601024; omega) (by show KS + 196 + 0 ≤ 7293034; omega) (fun v σ1 ad1 H locs hp hext hV => ?_) (fun E q ce σ1 ad1 H locs hp hext hV hce hcv hcl => ?_)
      · obtain ⟨rfl, rfl, hp⟩ := hp
        cases hp
        refine W.eq (g2 := F0 m 1024 ls [.int (os_g σ_7 13 0 0)]) rfl ?_
        refine lv_iload hx hb d_Law_law_1024 (lv_at hl 1 rfl) ?_
        refine lv_icmp_eq (tgt := 1031) hx hb d_Law_law_1026 (by decide) (fun c_12 => ?_) (fun c_12 => ?_)
        · skip
          refine lv_iload hx hb d_Law_law_1031 (lv_at hl 1 rfl) ?_
          refine lv_if_ne (tgt := 1048) hx hb d_Law_law_1033 (by decide) (fun c_13 => ?_) (fun c_13 => ?_)
          · skip
            refine lv_goto (tgt := 1361) hx hb d_Law_law_1048 (by decide) ?_
            refine W.widen (k := KC + 21) (n := KS + 196) (by show KC + 21 ≤ KC + 21; omega) (by show KS + 196 ≤ KS + 196; omega) ?_
            exact kk _ _ ls H locs ⟨⟨z2, t2, nP2, hR3⟩, h45c⟩ hV (lv_sub hl [2, 3, 4, 5, 6] rfl)
          · skip
            refine lv_aload_n hx hb d_Law_law_1036 rfl (lv_at hl 5 rfl) ?_
            refine lv_iconst (v := 0) hx hb d_Law_law_1037 (by decide) ?_
            refine os_laldN (K := 45) (i := 0) (t0 := 2) (n := 0) hx hb hK hV rfl rfl rfl hr_11 rfl (by rw [show os_l σ_7 45 0 = 1 from h45c.2]; decide) (by rw [show os_l σ_7 45 0 = 1 from h45c.2]; decide) d_Law_law_1038 ?_
            refine lv_iload hx hb d_Law_law_1039 (lv_at hl 0 rfl) ?_
            refine lv_i2l (v := Int32.toInt64 b9) hx hb d_Law_law_1041 rfl ?_
            refine W.eq (g2 := F0 m 1042 ls [.long (Int32.toInt64 b9), .long (Int32.toInt64 b9)]) (by rw [hout c_13]) ?_
            refine W.lcmpE hx hb d_Law_law_1042 ?_
            refine lv_if_eq (tgt := 1048) hx hb d_Law_law_1043 (by decide) (fun c_14 => ?_) (fun c_14 => ?_)
            · skip
              refine lv_goto (tgt := 1361) hx hb d_Law_law_1048 (by decide) ?_
              refine W.widen (k := KC + 21) (n := KS + 196) (by show KC + 21 ≤ KC + 21; omega) (by show KS + 196 ≤ KS + 196; omega) ?_
              exact kk _ _ ls H locs ⟨⟨z2, t2, nP2, hR3⟩, h45c⟩ hV (lv_sub hl [2, 3, 4, 5, 6] rfl)
            · exact absurd (by decide) c_14
        · exact absurd hcode c_12
      · exact absurd hp.2.2 (fun h => by cases h)
    · obtain ⟨_, _, _, h⟩ := e_pass hp; cases h
  · exact (hI.x hp).elim
set_option maxHeartbeats 4000000 in
set_option maxRecDepth 100000 in
theorem lc_acknowledge (l : Launch) (hlt : l.stackTraces = false) {p : Program} {e : Env} {s : State} {m : MethodId} {below : List Frame} {meth : Method} {c : Code} {b L i9 KC KS bs : Nat} {xs : Nat → Int32} {D : va_G} {cA : Nat → ClassId} {ad0 : Nat → Nat → Nat} {Q : State → Prop} (hx : p.tables.exec = Jvm.exec) (hb : c.code = code) (hml : c.maxLocals = 7) (hown : s.vm.findClass "RobotFaultsLaw" = some m.cls) (hE : os_EV D cA bs s) (hN : os_NC s) (hX : va_X b L xs s s.heap) (hbl : b < s.heap.size) (hL : L ≤ 2560) (hi5 : i9 + 5 ≤ L) (hkc : KC + 21 ≤ 601024) (hks : KS + 196 ≤ 7293034) (kk : lwK p l e s m b below meth c KC KS i9 D cA bs ad0 Q) {τ : os_S} {α : Nat → Nat → Nat} {ls : Array Slot} {H : Heap} {locs : List Loc} (hI9 : lwI τ) (hV : os_V D cA bs os_0 ad0 s τ α H locs) (hl : lv_has ls 7 [(0, .ref b), (1, .ref (α 0 0)), (2, .ref (α 13 0)), (3, .ref (α 45 0)), (4, .int (nI i9))]) : W p l e room_1 s m #[Value.ref b] below meth c H locs KC KS Q (F0 m 1051 ls []) := by
  have hts := hE.hts (args := #[Value.ref b])
  have hK := hE.2.1
  have hbs := hE.2.2.1
  obtain ⟨⟨z, t, nP, hRel⟩, h45⟩ := hI9
  have hr0 : 0 < os_n τ 0 := hRel.1.n 0 (by decide)
  have hr13 : 0 < os_n τ 13 := hRel.2.1.1.n 13 (by decide) (by decide)
  have hr45 : 0 < os_n τ 45 := h45.1
  refine lv_aload_n hx hb d_Law_law_1051 rfl (lv_at hl 1 rfl) ?_
  refine lv_aload_n hx hb d_Law_law_1052 rfl (lv_at hl 0 rfl) ?_
  refine lv_iload hx hb d_Law_law_1053 (lv_at hl 4 rfl) ?_
  refine lv_iconst (v := 1) hx hb d_Law_law_1055 (by decide) ?_
  refine lv_iadd hx hb d_Law_law_1056 ?_
  refine os_sld (n := (i9 + 1)) hx hb hX hbl hV hL (show nI i9 + 1 = nI (i9 + 1) from nI_add i9 1) (by omega) d_Law_law_1057 ?_
  refine lv_aload_n hx hb d_Law_law_1058 rfl (lv_at hl 0 rfl) ?_
  refine lv_iload hx hb d_Law_law_1059 (lv_at hl 4 rfl) ?_
  refine lv_iconst (v := 2) hx hb d_Law_law_1061 (by decide) ?_
  refine lv_iadd hx hb d_Law_law_1062 ?_
  refine os_sld (n := (i9 + 2)) hx hb hX hbl hV hL (show nI i9 + 2 = nI (i9 + 2) from nI_add i9 2) (by omega) d_Law_law_1063 ?_
  refine lv_aload_n hx hb d_Law_law_1064 rfl (lv_at hl 3 rfl) ?_
  refine os_callH (c_Law_acknowledge l hlt D cA bs τ α (xs (i9 + 1)) (xs (i9 + 2)) z t nP τ hRel h45) hE hN hV k_684 k_0 (os_inSW (n := 4) (bytes := method_18_code) (maxL := 5) (ret := (some .int)) hx hb hown (hts _ k_682) (hts _ k_683) (hts _ k_0) (hts _ k_684) (by decide +kernel) rfl rfl d_Law_law_1065) (hl.1.trans hml.symm) (Nat.le_of_ble_eq_true rfl) (Nat.le_of_ble_eq_true rfl) (Nat.le_of_ble_eq_true rfl) (by show KC + 3 ≤ 601024; omega) (by show KS + 18 ≤ 7293034; omega) (fun v σ1 ad1 H locs hp hext hV => ?_) (fun E q ce σ1 ad1 H locs hp hext hV hce hcv hcl => ?_)
  · obtain ⟨k9, rfl⟩ := hI.v hp
    have hm9 := hI.m hp (fun _ _ h => (r_acknowledge h).1)
    obtain ⟨σ_1, rfl⟩ : ∃ z, z = σ1 := ⟨_, rfl⟩
    obtain ⟨ad_2, rfl⟩ : ∃ z, z = ad1 := ⟨_, rfl⟩
    have he_3 := hext
    have hl : lv_has ls 7 [(0, .ref b), (1, .ref (ad_2 0 0)), (2, .ref (ad_2 13 0)), (3, .ref (ad_2 45 0)), (4, .int (nI i9))] := by rw [he_3.2.1 0 0 hr0, he_3.2.1 13 0 hr13, he_3.2.1 45 0 hr45]; exact hl
    refine W.eq (g2 := F0 m 1068 ls [.int k9]) rfl ?_
    have hr_4 : 0 < os_n σ_1 0 := Nat.lt_of_lt_of_le hr0 (he_3.1 0)
    have hr_5 : 0 < os_n σ_1 13 := Nat.lt_of_lt_of_le hr13 (he_3.1 13)
    have hr_6 : 0 < os_n σ_1 45 := Nat.lt_of_lt_of_le hr45 (he_3.1 45)
    have hR2 : Rel z t nP τ σ_1 := hRel.to rfl hm9.1
    have h45b : 0 < os_n σ_1 45 ∧ os_l σ_1 45 0 = 1 := ⟨by rw [hm9.2.1]; exact h45.1, by rw [hm9.2.2]; exact h45.2⟩
    have hpH := hp
    refine lv_istore (lv' := [(5, .int k9), (0, .ref b), (1, .ref (ad_2 0 0)), (2, .ref (ad_2 13 0)), (3, .ref (ad_2 45 0)), (4, .int (nI i9))]) hx hb d_Law_law_1068 hl (by decide) rfl (fun ls hl => ?_)
    refine lv_aload_n hx hb d_Law_law_1070 rfl (lv_at hl 3 rfl) ?_
    refine lv_aload_n hx hb d_Law_law_1071 rfl (lv_at hl 1 rfl) ?_
    refine lv_iload hx hb d_Law_law_1072 (lv_at hl 5 rfl) ?_
    refine lv_iconst (v := 1) hx hb d_Law_law_1074 (by decide) ?_
    refine lv_iadd hx hb d_Law_law_1075 ?_
    refine os_sld (n := (i9 + 1)) hx hb hX hbl hV hL (show nI i9 + 1 = nI (i9 + 1) from nI_add i9 1) (by omega) d_Law_law_1076 ?_
    refine lv_aload_n hx hb d_Law_law_1077 rfl (lv_at hl 1 rfl) ?_
    refine lv_iload hx hb d_Law_law_1078 (lv_at hl 5 rfl) ?_
    refine lv_iconst (v := 2) hx hb d_Law_law_1080 (by decide) ?_
    refine lv_iadd hx hb d_Law_law_1081 ?_
    refine os_sld (n := (i9 + 2)) hx hb hX hbl hV hL (show nI i9 + 2 = nI (i9 + 2) from nI_add i9 2) (by omega) d_Law_law_1082 ?_
    refine os_call (c_Model_acknowledge l hlt D cA bs σ_1 ad_2 (xs (i9 + 1)) (xs (i9 + 2)) hR2.2.1) hE hV k_962 k_4 (os_inV (C := "RobotFaultsModel") (n := 2) (bytes := prog_9_method_33_code) (maxL := 3) (ret := (some .int)) hx hb hown (hts _ k_959) (hts _ k_960) (hts _ k_961) (hts _ k_962) (by decide +kernel) rfl (os_recv hK hV rfl rfl hr_5) rfl d_Law_law_1083) (hl.1.trans hml.symm) (Nat.le_of_ble_eq_true rfl) (Nat.le_of_ble_eq_true rfl) (Nat.le_of_ble_eq_true rfl) (by show KC + 3 + 0 ≤ 601024; omega) (by show KS + 18 + 0 ≤ 7293034; omega) (fun v σ1 ad1 H locs hp hext hV => ?_) (fun E q ce σ1 ad1 H locs hp hext hV hce hcv hcl => ?_)
    · obtain ⟨rfl, hFC, b9, hb9⟩ := e_acknowledge hp
      cases hb9
      obtain ⟨σ_7, rfl⟩ : ∃ z, z = σ1 := ⟨_, rfl⟩
      have he_8 := hext
      have hr_9 : 0 < os_n σ_7 0 := Nat.lt_of_lt_of_le hr_4 (he_8.1 0)
      have hr_10 : 0 < os_n σ_7 13 := Nat.lt_of_lt_of_le hr_5 (he_8.1 13)
      have hr_11 : 0 < os_n σ_7 45 := Nat.lt_of_lt_of_le hr_6 (he_8.1 45)
      have hg := glI hpH (by decide) hFC (fun r0 σc hq => by obtain ⟨h1, h2⟩ := ok_acknowledge hR2 hq hp; exact ⟨⟨_, _, _, h1⟩, h2⟩)
      obtain ⟨⟨z2, t2, nP2, hR3⟩, hcode, hout⟩ := hg
      have h45c : 0 < os_n σ_7 45 ∧ os_l σ_7 45 0 = 1 := ⟨by rw [hFC.n45.1]; exact h45b.1, by rw [hFC.n45.2]; exact h45b.2⟩
      refine W.eq (g2 := F0 m 1086 ls [.int b9]) rfl ?_
      refine lv_istore (lv' := [(6, .int b9), (5, .int k9), (0, .ref b), (1, .ref (ad_2 0 0)), (2, .ref (ad_2 13 0)), (3, .ref (ad_2 45 0)), (4, .int (nI i9))]) hx hb d_Law_law_1086 hl (by decide) rfl (fun ls hl => ?_)
      refine lv_aload_n hx hb d_Law_law_1088 rfl (lv_at hl 4 rfl) ?_
      refine os_call (c_Model_thrown l hlt D cA bs σ_7 ad_2 hR3.2.1) hE hV k_844 k_4 (os_inV (C := "RobotFaultsModel") (n := 0) (bytes := prog_9_method_2_code) (maxL := 1) (ret := (some .int)) hx hb hown (hts _ k_841) (hts _ k_842) (hts _ k_843) (hts _ k_844) (by decide +kernel) rfl (os_recv hK hV rfl rfl hr_10) rfl d_Law_law_1089) (hl.1.trans hml.symm) (Nat.le_of_ble_eq_true rfl) (Nat.le_of_ble_eq_true rfl) (Nat.le_of_ble_eq_true rfl) (by show KC + 3 + 0 ≤ 601024; omega) (by show KS + 18 + 0 ≤ 7293034; omega) (fun v σ1 ad1 H locs hp hext hV => ?_) (fun E q ce σ1 ad1 H locs hp hext hV hce hcv hcl => ?_)
      · obtain ⟨rfl, rfl, hp⟩ := hp
        cases hp
        refine W.eq (g2 := F0 m 1092 ls [.int (os_g σ_7 13 0 0)]) rfl ?_
        refine lv_iload hx hb d_Law_law_1092 (lv_at hl 1 rfl) ?_
        refine lv_icmp_eq (tgt := 1099) hx hb d_Law_law_1094 (by decide) (fun c_12 => ?_) (fun c_12 => ?_)
        · skip
          refine lv_iload hx hb d_Law_law_1099 (lv_at hl 1 rfl) ?_
          refine lv_if_ne (tgt := 1116) hx hb d_Law_law_1101 (by decide) (fun c_13 => ?_) (fun c_13 => ?_)
          · skip
            refine lv_goto (tgt := 1361) hx hb d_Law_law_1116 (by decide) ?_
            refine W.widen (k := KC + 21) (n := KS + 196) (by show KC + 3 ≤ KC + 21; omega) (by show KS + 18 ≤ KS + 196; omega) ?_
            exact kk _ _ ls H locs ⟨⟨z2, t2, nP2, hR3⟩, h45c⟩ hV (lv_sub hl [2, 3, 4, 5, 6] rfl)
          · skip
            refine lv_aload_n hx hb d_Law_law_1104 rfl (lv_at hl 5 rfl) ?_
            refine lv_iconst (v := 0) hx hb d_Law_law_1105 (by decide) ?_
            refine os_laldN (K := 45) (i := 0) (t0 := 2) (n := 0) hx hb hK hV rfl rfl rfl hr_11 rfl (by rw [show os_l σ_7 45 0 = 1 from h45c.2]; decide) (by rw [show os_l σ_7 45 0 = 1 from h45c.2]; decide) d_Law_law_1106 ?_
            refine lv_iload hx hb d_Law_law_1107 (lv_at hl 0 rfl) ?_
            refine lv_i2l (v := Int32.toInt64 b9) hx hb d_Law_law_1109 rfl ?_
            refine W.eq (g2 := F0 m 1110 ls [.long (Int32.toInt64 b9), .long (Int32.toInt64 b9)]) (by rw [hout c_13]) ?_
            refine W.lcmpE hx hb d_Law_law_1110 ?_
            refine lv_if_eq (tgt := 1116) hx hb d_Law_law_1111 (by decide) (fun c_14 => ?_) (fun c_14 => ?_)
            · skip
              refine lv_goto (tgt := 1361) hx hb d_Law_law_1116 (by decide) ?_
              refine W.widen (k := KC + 21) (n := KS + 196) (by show KC + 3 ≤ KC + 21; omega) (by show KS + 18 ≤ KS + 196; omega) ?_
              exact kk _ _ ls H locs ⟨⟨z2, t2, nP2, hR3⟩, h45c⟩ hV (lv_sub hl [2, 3, 4, 5, 6] rfl)
            · exact absurd (by decide) c_14
        · exact absurd hcode c_12
      · exact absurd hp.2.2 (fun h => by cases h)
    · obtain ⟨_, _, _, h⟩ := e_acknowledge hp; cases h
  · exact (hI.x hp).elim
set_option maxHeartbeats 4000000 in
set_option maxRecDepth 100000 in
theorem lc_alarm (l : Launch) (hlt : l.stackTraces = false) {p : Program} {e : Env} {s : State} {m : MethodId} {below : List Frame} {meth : Method} {c : Code} {b L i9 KC KS bs : Nat} {xs : Nat → Int32} {D : va_G} {cA : Nat → ClassId} {ad0 : Nat → Nat → Nat} {Q : State → Prop} (hx : p.tables.exec = Jvm.exec) (hb : c.code = code) (hml : c.maxLocals = 7) (hown : s.vm.findClass "RobotFaultsLaw" = some m.cls) (hE : os_EV D cA bs s) (hN : os_NC s) (hX : va_X b L xs s s.heap) (hbl : b < s.heap.size) (hL : L ≤ 2560) (hi5 : i9 + 5 ≤ L) (hkc : KC + 21 ≤ 601024) (hks : KS + 196 ≤ 7293034) (kk : lwK p l e s m b below meth c KC KS i9 D cA bs ad0 Q) {τ : os_S} {α : Nat → Nat → Nat} {ls : Array Slot} {H : Heap} {locs : List Loc} (hI9 : lwI τ) (hV : os_V D cA bs os_0 ad0 s τ α H locs) (hl : lv_has ls 7 [(0, .ref b), (1, .ref (α 0 0)), (2, .ref (α 13 0)), (3, .ref (α 45 0)), (4, .int (nI i9))]) : W p l e room_1 s m #[Value.ref b] below meth c H locs KC KS Q (F0 m 1119 ls []) := by
  have hts := hE.hts (args := #[Value.ref b])
  have hK := hE.2.1
  have hbs := hE.2.2.1
  obtain ⟨⟨z, t, nP, hRel⟩, h45⟩ := hI9
  have hr0 : 0 < os_n τ 0 := hRel.1.n 0 (by decide)
  have hr13 : 0 < os_n τ 13 := hRel.2.1.1.n 13 (by decide) (by decide)
  have hr45 : 0 < os_n τ 45 := h45.1
  refine lv_aload_n hx hb d_Law_law_1119 rfl (lv_at hl 1 rfl) ?_
  refine lv_aload_n hx hb d_Law_law_1120 rfl (lv_at hl 0 rfl) ?_
  refine lv_iload hx hb d_Law_law_1121 (lv_at hl 4 rfl) ?_
  refine lv_iconst (v := 1) hx hb d_Law_law_1123 (by decide) ?_
  refine lv_iadd hx hb d_Law_law_1124 ?_
  refine os_sld (n := (i9 + 1)) hx hb hX hbl hV hL (show nI i9 + 1 = nI (i9 + 1) from nI_add i9 1) (by omega) d_Law_law_1125 ?_
  refine lv_aload_n hx hb d_Law_law_1126 rfl (lv_at hl 0 rfl) ?_
  refine lv_iload hx hb d_Law_law_1127 (lv_at hl 4 rfl) ?_
  refine lv_iconst (v := 2) hx hb d_Law_law_1129 (by decide) ?_
  refine lv_iadd hx hb d_Law_law_1130 ?_
  refine os_sld (n := (i9 + 2)) hx hb hX hbl hV hL (show nI i9 + 2 = nI (i9 + 2) from nI_add i9 2) (by omega) d_Law_law_1131 ?_
  refine lv_aload_n hx hb d_Law_law_1132 rfl (lv_at hl 3 rfl) ?_
  refine os_callH (c_Law_alarm l hlt D cA bs τ α (xs (i9 + 1)) (xs (i9 + 2)) z t nP τ hRel h45) hE hN hV k_697 k_0 (os_inSW (n := 4) (bytes := method_19_code) (maxL := 5) (ret := (some .int)) hx hb hown (hts _ k_695) (hts _ k_696) (hts _ k_0) (hts _ k_697) (by decide +kernel) rfl rfl d_Law_law_1133) (hl.1.trans hml.symm) (Nat.le_of_ble_eq_true rfl) (Nat.le_of_ble_eq_true rfl) (Nat.le_of_ble_eq_true rfl) (by show KC + 2 ≤ 601024; omega) (by show KS + 12 ≤ 7293034; omega) (fun v σ1 ad1 H locs hp hext hV => ?_) (fun E q ce σ1 ad1 H locs hp hext hV hce hcv hcl => ?_)
  · obtain ⟨k9, rfl⟩ := hI.v hp
    have hm9 := hI.m hp (fun _ _ h => (r_alarm h).1)
    obtain ⟨σ_1, rfl⟩ : ∃ z, z = σ1 := ⟨_, rfl⟩
    obtain ⟨ad_2, rfl⟩ : ∃ z, z = ad1 := ⟨_, rfl⟩
    have he_3 := hext
    have hl : lv_has ls 7 [(0, .ref b), (1, .ref (ad_2 0 0)), (2, .ref (ad_2 13 0)), (3, .ref (ad_2 45 0)), (4, .int (nI i9))] := by rw [he_3.2.1 0 0 hr0, he_3.2.1 13 0 hr13, he_3.2.1 45 0 hr45]; exact hl
    refine W.eq (g2 := F0 m 1136 ls [.int k9]) rfl ?_
    have hr_4 : 0 < os_n σ_1 0 := Nat.lt_of_lt_of_le hr0 (he_3.1 0)
    have hr_5 : 0 < os_n σ_1 13 := Nat.lt_of_lt_of_le hr13 (he_3.1 13)
    have hr_6 : 0 < os_n σ_1 45 := Nat.lt_of_lt_of_le hr45 (he_3.1 45)
    have hR2 : Rel z t nP τ σ_1 := hRel.to rfl hm9.1
    have h45b : 0 < os_n σ_1 45 ∧ os_l σ_1 45 0 = 1 := ⟨by rw [hm9.2.1]; exact h45.1, by rw [hm9.2.2]; exact h45.2⟩
    have hpH := hp
    refine lv_istore (lv' := [(5, .int k9), (0, .ref b), (1, .ref (ad_2 0 0)), (2, .ref (ad_2 13 0)), (3, .ref (ad_2 45 0)), (4, .int (nI i9))]) hx hb d_Law_law_1136 hl (by decide) rfl (fun ls hl => ?_)
    refine lv_aload_n hx hb d_Law_law_1138 rfl (lv_at hl 3 rfl) ?_
    refine lv_aload_n hx hb d_Law_law_1139 rfl (lv_at hl 1 rfl) ?_
    refine lv_iload hx hb d_Law_law_1140 (lv_at hl 5 rfl) ?_
    refine lv_iconst (v := 1) hx hb d_Law_law_1142 (by decide) ?_
    refine lv_iadd hx hb d_Law_law_1143 ?_
    refine os_sld (n := (i9 + 1)) hx hb hX hbl hV hL (show nI i9 + 1 = nI (i9 + 1) from nI_add i9 1) (by omega) d_Law_law_1144 ?_
    refine lv_aload_n hx hb d_Law_law_1145 rfl (lv_at hl 1 rfl) ?_
    refine lv_iload hx hb d_Law_law_1146 (lv_at hl 5 rfl) ?_
    refine lv_iconst (v := 2) hx hb d_Law_law_1148 (by decide) ?_
    refine lv_iadd hx hb d_Law_law_1149 ?_
    refine os_sld (n := (i9 + 2)) hx hb hX hbl hV hL (show nI i9 + 2 = nI (i9 + 2) from nI_add i9 2) (by omega) d_Law_law_1150 ?_
    refine os_call (c_Model_alarm l hlt D cA bs σ_1 ad_2 (xs (i9 + 1)) (xs (i9 + 2)) hR2.2.1) hE hV k_970 k_4 (os_inV (C := "RobotFaultsModel") (n := 2) (bytes := prog_9_method_34_code) (maxL := 3) (ret := (some .int)) hx hb hown (hts _ k_967) (hts _ k_968) (hts _ k_969) (hts _ k_970) (by decide +kernel) rfl (os_recv hK hV rfl rfl hr_5) rfl d_Law_law_1151) (hl.1.trans hml.symm) (Nat.le_of_ble_eq_true rfl) (Nat.le_of_ble_eq_true rfl) (Nat.le_of_ble_eq_true rfl) (by show KC + 2 + 0 ≤ 601024; omega) (by show KS + 12 + 0 ≤ 7293034; omega) (fun v σ1 ad1 H locs hp hext hV => ?_) (fun E q ce σ1 ad1 H locs hp hext hV hce hcv hcl => ?_)
    · obtain ⟨rfl, hFC, b9, hb9⟩ := e_alarm hp
      cases hb9
      obtain ⟨σ_7, rfl⟩ : ∃ z, z = σ1 := ⟨_, rfl⟩
      have he_8 := hext
      have hr_9 : 0 < os_n σ_7 0 := Nat.lt_of_lt_of_le hr_4 (he_8.1 0)
      have hr_10 : 0 < os_n σ_7 13 := Nat.lt_of_lt_of_le hr_5 (he_8.1 13)
      have hr_11 : 0 < os_n σ_7 45 := Nat.lt_of_lt_of_le hr_6 (he_8.1 45)
      have hg := glI hpH (by decide) hFC (fun r0 σc hq => by obtain ⟨h1, h2⟩ := ok_alarm hR2 hq hp; exact ⟨⟨_, _, _, h1⟩, h2⟩)
      obtain ⟨⟨z2, t2, nP2, hR3⟩, hcode, hout⟩ := hg
      have h45c : 0 < os_n σ_7 45 ∧ os_l σ_7 45 0 = 1 := ⟨by rw [hFC.n45.1]; exact h45b.1, by rw [hFC.n45.2]; exact h45b.2⟩
      refine W.eq (g2 := F0 m 1154 ls [.int b9]) rfl ?_
      refine lv_istore (lv' := [(6, .int b9), (5, .int k9), (0, .ref b), (1, .ref (ad_2 0 0)), (2, .ref (ad_2 13 0)), (3, .ref (ad_2 45 0)), (4, .int (nI i9))]) hx hb d_Law_law_1154 hl (by decide) rfl (fun ls hl => ?_)
      refine lv_aload_n hx hb d_Law_law_1156 rfl (lv_at hl 4 rfl) ?_
      refine os_call (c_Model_thrown l hlt D cA bs σ_7 ad_2 hR3.2.1) hE hV k_844 k_4 (os_inV (C := "RobotFaultsModel") (n := 0) (bytes := prog_9_method_2_code) (maxL := 1) (ret := (some .int)) hx hb hown (hts _ k_841) (hts _ k_842) (hts _ k_843) (hts _ k_844) (by decide +kernel) rfl (os_recv hK hV rfl rfl hr_10) rfl d_Law_law_1157) (hl.1.trans hml.symm) (Nat.le_of_ble_eq_true rfl) (Nat.le_of_ble_eq_true rfl) (Nat.le_of_ble_eq_true rfl) (by show KC + 2 + 0 ≤ 601024; omega) (by show KS + 12 + 0 ≤ 7293034; omega) (fun v σ1 ad1 H locs hp hext hV => ?_) (fun E q ce σ1 ad1 H locs hp hext hV hce hcv hcl => ?_)
      · obtain ⟨rfl, rfl, hp⟩ := hp
        cases hp
        refine W.eq (g2 := F0 m 1160 ls [.int (os_g σ_7 13 0 0)]) rfl ?_
        refine lv_iload hx hb d_Law_law_1160 (lv_at hl 1 rfl) ?_
        refine lv_icmp_eq (tgt := 1167) hx hb d_Law_law_1162 (by decide) (fun c_12 => ?_) (fun c_12 => ?_)
        · skip
          refine lv_iload hx hb d_Law_law_1167 (lv_at hl 1 rfl) ?_
          refine lv_if_ne (tgt := 1184) hx hb d_Law_law_1169 (by decide) (fun c_13 => ?_) (fun c_13 => ?_)
          · skip
            refine lv_goto (tgt := 1361) hx hb d_Law_law_1184 (by decide) ?_
            refine W.widen (k := KC + 21) (n := KS + 196) (by show KC + 2 ≤ KC + 21; omega) (by show KS + 12 ≤ KS + 196; omega) ?_
            exact kk _ _ ls H locs ⟨⟨z2, t2, nP2, hR3⟩, h45c⟩ hV (lv_sub hl [2, 3, 4, 5, 6] rfl)
          · skip
            refine lv_aload_n hx hb d_Law_law_1172 rfl (lv_at hl 5 rfl) ?_
            refine lv_iconst (v := 0) hx hb d_Law_law_1173 (by decide) ?_
            refine os_laldN (K := 45) (i := 0) (t0 := 2) (n := 0) hx hb hK hV rfl rfl rfl hr_11 rfl (by rw [show os_l σ_7 45 0 = 1 from h45c.2]; decide) (by rw [show os_l σ_7 45 0 = 1 from h45c.2]; decide) d_Law_law_1174 ?_
            refine lv_iload hx hb d_Law_law_1175 (lv_at hl 0 rfl) ?_
            refine lv_i2l (v := Int32.toInt64 b9) hx hb d_Law_law_1177 rfl ?_
            refine W.eq (g2 := F0 m 1178 ls [.long (Int32.toInt64 b9), .long (Int32.toInt64 b9)]) (by rw [hout c_13]) ?_
            refine W.lcmpE hx hb d_Law_law_1178 ?_
            refine lv_if_eq (tgt := 1184) hx hb d_Law_law_1179 (by decide) (fun c_14 => ?_) (fun c_14 => ?_)
            · skip
              refine lv_goto (tgt := 1361) hx hb d_Law_law_1184 (by decide) ?_
              refine W.widen (k := KC + 21) (n := KS + 196) (by show KC + 2 ≤ KC + 21; omega) (by show KS + 12 ≤ KS + 196; omega) ?_
              exact kk _ _ ls H locs ⟨⟨z2, t2, nP2, hR3⟩, h45c⟩ hV (lv_sub hl [2, 3, 4, 5, 6] rfl)
            · exact absurd (by decide) c_14
        · exact absurd hcode c_12
      · exact absurd hp.2.2 (fun h => by cases h)
    · obtain ⟨_, _, _, h⟩ := e_alarm hp; cases h
  · exact (hI.x hp).elim
set_option maxHeartbeats 4000000 in
set_option maxRecDepth 100000 in
theorem lc_known (l : Launch) (hlt : l.stackTraces = false) {p : Program} {e : Env} {s : State} {m : MethodId} {below : List Frame} {meth : Method} {c : Code} {b L i9 KC KS bs : Nat} {xs : Nat → Int32} {D : va_G} {cA : Nat → ClassId} {ad0 : Nat → Nat → Nat} {Q : State → Prop} (hx : p.tables.exec = Jvm.exec) (hb : c.code = code) (hml : c.maxLocals = 7) (hown : s.vm.findClass "RobotFaultsLaw" = some m.cls) (hE : os_EV D cA bs s) (hN : os_NC s) (hX : va_X b L xs s s.heap) (hbl : b < s.heap.size) (hL : L ≤ 2560) (hi5 : i9 + 5 ≤ L) (hkc : KC + 21 ≤ 601024) (hks : KS + 196 ≤ 7293034) (kk : lwK p l e s m b below meth c KC KS i9 D cA bs ad0 Q) {τ : os_S} {α : Nat → Nat → Nat} {ls : Array Slot} {H : Heap} {locs : List Loc} (hI9 : lwI τ) (hV : os_V D cA bs os_0 ad0 s τ α H locs) (hl : lv_has ls 7 [(0, .ref b), (1, .ref (α 0 0)), (2, .ref (α 13 0)), (3, .ref (α 45 0)), (4, .int (nI i9))]) : W p l e room_1 s m #[Value.ref b] below meth c H locs KC KS Q (F0 m 1187 ls []) := by
  have hts := hE.hts (args := #[Value.ref b])
  have hK := hE.2.1
  have hbs := hE.2.2.1
  obtain ⟨⟨z, t, nP, hRel⟩, h45⟩ := hI9
  have hr0 : 0 < os_n τ 0 := hRel.1.n 0 (by decide)
  have hr13 : 0 < os_n τ 13 := hRel.2.1.1.n 13 (by decide) (by decide)
  have hr45 : 0 < os_n τ 45 := h45.1
  refine lv_aload_n hx hb d_Law_law_1187 rfl (lv_at hl 1 rfl) ?_
  refine lv_aload_n hx hb d_Law_law_1188 rfl (lv_at hl 0 rfl) ?_
  refine lv_iload hx hb d_Law_law_1189 (lv_at hl 4 rfl) ?_
  refine lv_iconst (v := 1) hx hb d_Law_law_1191 (by decide) ?_
  refine lv_iadd hx hb d_Law_law_1192 ?_
  refine os_sld (n := (i9 + 1)) hx hb hX hbl hV hL (show nI i9 + 1 = nI (i9 + 1) from nI_add i9 1) (by omega) d_Law_law_1193 ?_
  refine lv_aload_n hx hb d_Law_law_1194 rfl (lv_at hl 0 rfl) ?_
  refine lv_iload hx hb d_Law_law_1195 (lv_at hl 4 rfl) ?_
  refine lv_iconst (v := 2) hx hb d_Law_law_1197 (by decide) ?_
  refine lv_iadd hx hb d_Law_law_1198 ?_
  refine os_sld (n := (i9 + 2)) hx hb hX hbl hV hL (show nI i9 + 2 = nI (i9 + 2) from nI_add i9 2) (by omega) d_Law_law_1199 ?_
  refine lv_aload_n hx hb d_Law_law_1200 rfl (lv_at hl 3 rfl) ?_
  refine os_callH (c_Law_known l hlt D cA bs τ α (xs (i9 + 1)) (xs (i9 + 2)) z t nP τ hRel h45) hE hN hV k_705 k_0 (os_inSW (n := 4) (bytes := method_20_code) (maxL := 5) (ret := (some .int)) hx hb hown (hts _ k_703) (hts _ k_704) (hts _ k_0) (hts _ k_705) (by decide +kernel) rfl rfl d_Law_law_1201) (hl.1.trans hml.symm) (Nat.le_of_ble_eq_true rfl) (Nat.le_of_ble_eq_true rfl) (Nat.le_of_ble_eq_true rfl) (by show KC + 2 ≤ 601024; omega) (by show KS + 12 ≤ 7293034; omega) (fun v σ1 ad1 H locs hp hext hV => ?_) (fun E q ce σ1 ad1 H locs hp hext hV hce hcv hcl => ?_)
  · obtain ⟨k9, rfl⟩ := hI.v hp
    have hm9 := hI.m hp (fun _ _ h => (r_known h).1)
    obtain ⟨σ_1, rfl⟩ : ∃ z, z = σ1 := ⟨_, rfl⟩
    obtain ⟨ad_2, rfl⟩ : ∃ z, z = ad1 := ⟨_, rfl⟩
    have he_3 := hext
    have hl : lv_has ls 7 [(0, .ref b), (1, .ref (ad_2 0 0)), (2, .ref (ad_2 13 0)), (3, .ref (ad_2 45 0)), (4, .int (nI i9))] := by rw [he_3.2.1 0 0 hr0, he_3.2.1 13 0 hr13, he_3.2.1 45 0 hr45]; exact hl
    refine W.eq (g2 := F0 m 1204 ls [.int k9]) rfl ?_
    have hr_4 : 0 < os_n σ_1 0 := Nat.lt_of_lt_of_le hr0 (he_3.1 0)
    have hr_5 : 0 < os_n σ_1 13 := Nat.lt_of_lt_of_le hr13 (he_3.1 13)
    have hr_6 : 0 < os_n σ_1 45 := Nat.lt_of_lt_of_le hr45 (he_3.1 45)
    have hR2 : Rel z t nP τ σ_1 := hRel.to rfl hm9.1
    have h45b : 0 < os_n σ_1 45 ∧ os_l σ_1 45 0 = 1 := ⟨by rw [hm9.2.1]; exact h45.1, by rw [hm9.2.2]; exact h45.2⟩
    have hpH := hp
    refine lv_istore (lv' := [(5, .int k9), (0, .ref b), (1, .ref (ad_2 0 0)), (2, .ref (ad_2 13 0)), (3, .ref (ad_2 45 0)), (4, .int (nI i9))]) hx hb d_Law_law_1204 hl (by decide) rfl (fun ls hl => ?_)
    refine lv_aload_n hx hb d_Law_law_1206 rfl (lv_at hl 3 rfl) ?_
    refine lv_aload_n hx hb d_Law_law_1207 rfl (lv_at hl 1 rfl) ?_
    refine lv_iload hx hb d_Law_law_1208 (lv_at hl 5 rfl) ?_
    refine lv_iconst (v := 1) hx hb d_Law_law_1210 (by decide) ?_
    refine lv_iadd hx hb d_Law_law_1211 ?_
    refine os_sld (n := (i9 + 1)) hx hb hX hbl hV hL (show nI i9 + 1 = nI (i9 + 1) from nI_add i9 1) (by omega) d_Law_law_1212 ?_
    refine lv_aload_n hx hb d_Law_law_1213 rfl (lv_at hl 1 rfl) ?_
    refine lv_iload hx hb d_Law_law_1214 (lv_at hl 5 rfl) ?_
    refine lv_iconst (v := 2) hx hb d_Law_law_1216 (by decide) ?_
    refine lv_iadd hx hb d_Law_law_1217 ?_
    refine os_sld (n := (i9 + 2)) hx hb hX hbl hV hL (show nI i9 + 2 = nI (i9 + 2) from nI_add i9 2) (by omega) d_Law_law_1218 ?_
    refine os_call (c_Model_known l hlt D cA bs σ_1 ad_2 (xs (i9 + 1)) (xs (i9 + 2)) hR2.2.1) hE hV k_978 k_4 (os_inV (C := "RobotFaultsModel") (n := 2) (bytes := prog_9_method_36_code) (maxL := 3) (ret := (some .int)) hx hb hown (hts _ k_975) (hts _ k_976) (hts _ k_977) (hts _ k_978) (by decide +kernel) rfl (os_recv hK hV rfl rfl hr_5) rfl d_Law_law_1219) (hl.1.trans hml.symm) (Nat.le_of_ble_eq_true rfl) (Nat.le_of_ble_eq_true rfl) (Nat.le_of_ble_eq_true rfl) (by show KC + 2 + 0 ≤ 601024; omega) (by show KS + 12 + 0 ≤ 7293034; omega) (fun v σ1 ad1 H locs hp hext hV => ?_) (fun E q ce σ1 ad1 H locs hp hext hV hce hcv hcl => ?_)
    · obtain ⟨rfl, hFC, b9, hb9⟩ := e_known hp
      cases hb9
      obtain ⟨σ_7, rfl⟩ : ∃ z, z = σ1 := ⟨_, rfl⟩
      have he_8 := hext
      have hr_9 : 0 < os_n σ_7 0 := Nat.lt_of_lt_of_le hr_4 (he_8.1 0)
      have hr_10 : 0 < os_n σ_7 13 := Nat.lt_of_lt_of_le hr_5 (he_8.1 13)
      have hr_11 : 0 < os_n σ_7 45 := Nat.lt_of_lt_of_le hr_6 (he_8.1 45)
      have hg := glI hpH (by decide) hFC (fun r0 σc hq => by obtain ⟨h1, h2⟩ := ok_known hR2 hq hp; exact ⟨⟨_, _, _, h1⟩, h2⟩)
      obtain ⟨⟨z2, t2, nP2, hR3⟩, hcode, hout⟩ := hg
      have h45c : 0 < os_n σ_7 45 ∧ os_l σ_7 45 0 = 1 := ⟨by rw [hFC.n45.1]; exact h45b.1, by rw [hFC.n45.2]; exact h45b.2⟩
      refine W.eq (g2 := F0 m 1222 ls [.int b9]) rfl ?_
      refine lv_istore (lv' := [(6, .int b9), (5, .int k9), (0, .ref b), (1, .ref (ad_2 0 0)), (2, .ref (ad_2 13 0)), (3, .ref (ad_2 45 0)), (4, .int (nI i9))]) hx hb d_Law_law_1222 hl (by decide) rfl (fun ls hl => ?_)
      refine lv_aload_n hx hb d_Law_law_1224 rfl (lv_at hl 4 rfl) ?_
      refine os_call (c_Model_thrown l hlt D cA bs σ_7 ad_2 hR3.2.1) hE hV k_844 k_4 (os_inV (C := "RobotFaultsModel") (n := 0) (bytes := prog_9_method_2_code) (maxL := 1) (ret := (some .int)) hx hb hown (hts _ k_841) (hts _ k_842) (hts _ k_843) (hts _ k_844) (by decide +kernel) rfl (os_recv hK hV rfl rfl hr_10) rfl d_Law_law_1225) (hl.1.trans hml.symm) (Nat.le_of_ble_eq_true rfl) (Nat.le_of_ble_eq_true rfl) (Nat.le_of_ble_eq_true rfl) (by show KC + 2 + 0 ≤ 601024; omega) (by show KS + 12 + 0 ≤ 7293034; omega) (fun v σ1 ad1 H locs hp hext hV => ?_) (fun E q ce σ1 ad1 H locs hp hext hV hce hcv hcl => ?_)
      · obtain ⟨rfl, rfl, hp⟩ := hp
        cases hp
        refine W.eq (g2 := F0 m 1228 ls [.int (os_g σ_7 13 0 0)]) rfl ?_
        refine lv_iload hx hb d_Law_law_1228 (lv_at hl 1 rfl) ?_
        refine lv_icmp_eq (tgt := 1235) hx hb d_Law_law_1230 (by decide) (fun c_12 => ?_) (fun c_12 => ?_)
        · skip
          refine lv_iload hx hb d_Law_law_1235 (lv_at hl 1 rfl) ?_
          refine lv_if_ne (tgt := 1252) hx hb d_Law_law_1237 (by decide) (fun c_13 => ?_) (fun c_13 => ?_)
          · skip
            refine lv_goto (tgt := 1361) hx hb d_Law_law_1252 (by decide) ?_
            refine W.widen (k := KC + 21) (n := KS + 196) (by show KC + 2 ≤ KC + 21; omega) (by show KS + 12 ≤ KS + 196; omega) ?_
            exact kk _ _ ls H locs ⟨⟨z2, t2, nP2, hR3⟩, h45c⟩ hV (lv_sub hl [2, 3, 4, 5, 6] rfl)
          · skip
            refine lv_aload_n hx hb d_Law_law_1240 rfl (lv_at hl 5 rfl) ?_
            refine lv_iconst (v := 0) hx hb d_Law_law_1241 (by decide) ?_
            refine os_laldN (K := 45) (i := 0) (t0 := 2) (n := 0) hx hb hK hV rfl rfl rfl hr_11 rfl (by rw [show os_l σ_7 45 0 = 1 from h45c.2]; decide) (by rw [show os_l σ_7 45 0 = 1 from h45c.2]; decide) d_Law_law_1242 ?_
            refine lv_iload hx hb d_Law_law_1243 (lv_at hl 0 rfl) ?_
            refine lv_i2l (v := Int32.toInt64 b9) hx hb d_Law_law_1245 rfl ?_
            refine W.eq (g2 := F0 m 1246 ls [.long (Int32.toInt64 b9), .long (Int32.toInt64 b9)]) (by rw [hout c_13]) ?_
            refine W.lcmpE hx hb d_Law_law_1246 ?_
            refine lv_if_eq (tgt := 1252) hx hb d_Law_law_1247 (by decide) (fun c_14 => ?_) (fun c_14 => ?_)
            · skip
              refine lv_goto (tgt := 1361) hx hb d_Law_law_1252 (by decide) ?_
              refine W.widen (k := KC + 21) (n := KS + 196) (by show KC + 2 ≤ KC + 21; omega) (by show KS + 12 ≤ KS + 196; omega) ?_
              exact kk _ _ ls H locs ⟨⟨z2, t2, nP2, hR3⟩, h45c⟩ hV (lv_sub hl [2, 3, 4, 5, 6] rfl)
            · exact absurd (by decide) c_14
        · exact absurd hcode c_12
      · exact absurd hp.2.2 (fun h => by cases h)
    · obtain ⟨_, _, _, h⟩ := e_known hp; cases h
  · exact (hI.x hp).elim
set_option maxHeartbeats 4000000 in
set_option maxRecDepth 100000 in
theorem lc_told (l : Launch) (hlt : l.stackTraces = false) {p : Program} {e : Env} {s : State} {m : MethodId} {below : List Frame} {meth : Method} {c : Code} {b L i9 KC KS bs : Nat} {xs : Nat → Int32} {D : va_G} {cA : Nat → ClassId} {ad0 : Nat → Nat → Nat} {Q : State → Prop} (hx : p.tables.exec = Jvm.exec) (hb : c.code = code) (hml : c.maxLocals = 7) (hown : s.vm.findClass "RobotFaultsLaw" = some m.cls) (hE : os_EV D cA bs s) (hN : os_NC s) (hX : va_X b L xs s s.heap) (hbl : b < s.heap.size) (hL : L ≤ 2560) (hi5 : i9 + 5 ≤ L) (hkc : KC + 21 ≤ 601024) (hks : KS + 196 ≤ 7293034) (kk : lwK p l e s m b below meth c KC KS i9 D cA bs ad0 Q) {τ : os_S} {α : Nat → Nat → Nat} {ls : Array Slot} {H : Heap} {locs : List Loc} (hI9 : lwI τ) (hV : os_V D cA bs os_0 ad0 s τ α H locs) (hl : lv_has ls 7 [(0, .ref b), (1, .ref (α 0 0)), (2, .ref (α 13 0)), (3, .ref (α 45 0)), (4, .int (nI i9))]) : W p l e room_1 s m #[Value.ref b] below meth c H locs KC KS Q (F0 m 1255 ls []) := by
  have hts := hE.hts (args := #[Value.ref b])
  have hK := hE.2.1
  have hbs := hE.2.2.1
  obtain ⟨⟨z, t, nP, hRel⟩, h45⟩ := hI9
  have hr0 : 0 < os_n τ 0 := hRel.1.n 0 (by decide)
  have hr13 : 0 < os_n τ 13 := hRel.2.1.1.n 13 (by decide) (by decide)
  have hr45 : 0 < os_n τ 45 := h45.1
  refine lv_aload_n hx hb d_Law_law_1255 rfl (lv_at hl 1 rfl) ?_
  refine lv_aload_n hx hb d_Law_law_1256 rfl (lv_at hl 0 rfl) ?_
  refine lv_iload hx hb d_Law_law_1257 (lv_at hl 4 rfl) ?_
  refine lv_iconst (v := 1) hx hb d_Law_law_1259 (by decide) ?_
  refine lv_iadd hx hb d_Law_law_1260 ?_
  refine os_sld (n := (i9 + 1)) hx hb hX hbl hV hL (show nI i9 + 1 = nI (i9 + 1) from nI_add i9 1) (by omega) d_Law_law_1261 ?_
  refine lv_aload_n hx hb d_Law_law_1262 rfl (lv_at hl 0 rfl) ?_
  refine lv_iload hx hb d_Law_law_1263 (lv_at hl 4 rfl) ?_
  refine lv_iconst (v := 2) hx hb d_Law_law_1265 (by decide) ?_
  refine lv_iadd hx hb d_Law_law_1266 ?_
  refine os_sld (n := (i9 + 2)) hx hb hX hbl hV hL (show nI i9 + 2 = nI (i9 + 2) from nI_add i9 2) (by omega) d_Law_law_1267 ?_
  refine lv_aload_n hx hb d_Law_law_1268 rfl (lv_at hl 3 rfl) ?_
  refine os_callH (c_Law_told l hlt D cA bs τ α (xs (i9 + 1)) (xs (i9 + 2)) z t nP τ hRel h45) hE hN hV k_713 k_0 (os_inSW (n := 4) (bytes := method_21_code) (maxL := 5) (ret := (some .int)) hx hb hown (hts _ k_711) (hts _ k_712) (hts _ k_0) (hts _ k_713) (by decide +kernel) rfl rfl d_Law_law_1269) (hl.1.trans hml.symm) (Nat.le_of_ble_eq_true rfl) (Nat.le_of_ble_eq_true rfl) (Nat.le_of_ble_eq_true rfl) (by show KC + 2 ≤ 601024; omega) (by show KS + 12 ≤ 7293034; omega) (fun v σ1 ad1 H locs hp hext hV => ?_) (fun E q ce σ1 ad1 H locs hp hext hV hce hcv hcl => ?_)
  · obtain ⟨k9, rfl⟩ := hI.v hp
    have hm9 := hI.m hp (fun _ _ h => (r_told h).1)
    obtain ⟨σ_1, rfl⟩ : ∃ z, z = σ1 := ⟨_, rfl⟩
    obtain ⟨ad_2, rfl⟩ : ∃ z, z = ad1 := ⟨_, rfl⟩
    have he_3 := hext
    have hl : lv_has ls 7 [(0, .ref b), (1, .ref (ad_2 0 0)), (2, .ref (ad_2 13 0)), (3, .ref (ad_2 45 0)), (4, .int (nI i9))] := by rw [he_3.2.1 0 0 hr0, he_3.2.1 13 0 hr13, he_3.2.1 45 0 hr45]; exact hl
    refine W.eq (g2 := F0 m 1272 ls [.int k9]) rfl ?_
    have hr_4 : 0 < os_n σ_1 0 := Nat.lt_of_lt_of_le hr0 (he_3.1 0)
    have hr_5 : 0 < os_n σ_1 13 := Nat.lt_of_lt_of_le hr13 (he_3.1 13)
    have hr_6 : 0 < os_n σ_1 45 := Nat.lt_of_lt_of_le hr45 (he_3.1 45)
    have hR2 : Rel z t nP τ σ_1 := hRel.to rfl hm9.1
    have h45b : 0 < os_n σ_1 45 ∧ os_l σ_1 45 0 = 1 := ⟨by rw [hm9.2.1]; exact h45.1, by rw [hm9.2.2]; exact h45.2⟩
    have hpH := hp
    refine lv_istore (lv' := [(5, .int k9), (0, .ref b), (1, .ref (ad_2 0 0)), (2, .ref (ad_2 13 0)), (3, .ref (ad_2 45 0)), (4, .int (nI i9))]) hx hb d_Law_law_1272 hl (by decide) rfl (fun ls hl => ?_)
    refine lv_aload_n hx hb d_Law_law_1274 rfl (lv_at hl 3 rfl) ?_
    refine lv_aload_n hx hb d_Law_law_1275 rfl (lv_at hl 1 rfl) ?_
    refine lv_iload hx hb d_Law_law_1276 (lv_at hl 5 rfl) ?_
    refine lv_iconst (v := 1) hx hb d_Law_law_1278 (by decide) ?_
    refine lv_iadd hx hb d_Law_law_1279 ?_
    refine os_sld (n := (i9 + 1)) hx hb hX hbl hV hL (show nI i9 + 1 = nI (i9 + 1) from nI_add i9 1) (by omega) d_Law_law_1280 ?_
    refine lv_aload_n hx hb d_Law_law_1281 rfl (lv_at hl 1 rfl) ?_
    refine lv_iload hx hb d_Law_law_1282 (lv_at hl 5 rfl) ?_
    refine lv_iconst (v := 2) hx hb d_Law_law_1284 (by decide) ?_
    refine lv_iadd hx hb d_Law_law_1285 ?_
    refine os_sld (n := (i9 + 2)) hx hb hX hbl hV hL (show nI i9 + 2 = nI (i9 + 2) from nI_add i9 2) (by omega) d_Law_law_1286 ?_
    refine os_call (c_Model_told l hlt D cA bs σ_1 ad_2 (xs (i9 + 1)) (xs (i9 + 2)) hR2.2.1) hE hV k_982 k_4 (os_inV (C := "RobotFaultsModel") (n := 2) (bytes := prog_9_method_37_code) (maxL := 3) (ret := (some .int)) hx hb hown (hts _ k_979) (hts _ k_980) (hts _ k_981) (hts _ k_982) (by decide +kernel) rfl (os_recv hK hV rfl rfl hr_5) rfl d_Law_law_1287) (hl.1.trans hml.symm) (Nat.le_of_ble_eq_true rfl) (Nat.le_of_ble_eq_true rfl) (Nat.le_of_ble_eq_true rfl) (by show KC + 2 + 0 ≤ 601024; omega) (by show KS + 12 + 0 ≤ 7293034; omega) (fun v σ1 ad1 H locs hp hext hV => ?_) (fun E q ce σ1 ad1 H locs hp hext hV hce hcv hcl => ?_)
    · obtain ⟨rfl, hFC, b9, hb9⟩ := e_told hp
      cases hb9
      obtain ⟨σ_7, rfl⟩ : ∃ z, z = σ1 := ⟨_, rfl⟩
      have he_8 := hext
      have hr_9 : 0 < os_n σ_7 0 := Nat.lt_of_lt_of_le hr_4 (he_8.1 0)
      have hr_10 : 0 < os_n σ_7 13 := Nat.lt_of_lt_of_le hr_5 (he_8.1 13)
      have hr_11 : 0 < os_n σ_7 45 := Nat.lt_of_lt_of_le hr_6 (he_8.1 45)
      have hg := glI hpH (by decide) hFC (fun r0 σc hq => by obtain ⟨h1, h2⟩ := ok_told hR2 hq hp; exact ⟨⟨_, _, _, h1⟩, h2⟩)
      obtain ⟨⟨z2, t2, nP2, hR3⟩, hcode, hout⟩ := hg
      have h45c : 0 < os_n σ_7 45 ∧ os_l σ_7 45 0 = 1 := ⟨by rw [hFC.n45.1]; exact h45b.1, by rw [hFC.n45.2]; exact h45b.2⟩
      refine W.eq (g2 := F0 m 1290 ls [.int b9]) rfl ?_
      refine lv_istore (lv' := [(6, .int b9), (5, .int k9), (0, .ref b), (1, .ref (ad_2 0 0)), (2, .ref (ad_2 13 0)), (3, .ref (ad_2 45 0)), (4, .int (nI i9))]) hx hb d_Law_law_1290 hl (by decide) rfl (fun ls hl => ?_)
      refine lv_aload_n hx hb d_Law_law_1292 rfl (lv_at hl 4 rfl) ?_
      refine os_call (c_Model_thrown l hlt D cA bs σ_7 ad_2 hR3.2.1) hE hV k_844 k_4 (os_inV (C := "RobotFaultsModel") (n := 0) (bytes := prog_9_method_2_code) (maxL := 1) (ret := (some .int)) hx hb hown (hts _ k_841) (hts _ k_842) (hts _ k_843) (hts _ k_844) (by decide +kernel) rfl (os_recv hK hV rfl rfl hr_10) rfl d_Law_law_1293) (hl.1.trans hml.symm) (Nat.le_of_ble_eq_true rfl) (Nat.le_of_ble_eq_true rfl) (Nat.le_of_ble_eq_true rfl) (by show KC + 2 + 0 ≤ 601024; omega) (by show KS + 12 + 0 ≤ 7293034; omega) (fun v σ1 ad1 H locs hp hext hV => ?_) (fun E q ce σ1 ad1 H locs hp hext hV hce hcv hcl => ?_)
      · obtain ⟨rfl, rfl, hp⟩ := hp
        cases hp
        refine W.eq (g2 := F0 m 1296 ls [.int (os_g σ_7 13 0 0)]) rfl ?_
        refine lv_iload hx hb d_Law_law_1296 (lv_at hl 1 rfl) ?_
        refine lv_icmp_eq (tgt := 1303) hx hb d_Law_law_1298 (by decide) (fun c_12 => ?_) (fun c_12 => ?_)
        · skip
          refine lv_iload hx hb d_Law_law_1303 (lv_at hl 1 rfl) ?_
          refine lv_if_ne (tgt := 1320) hx hb d_Law_law_1305 (by decide) (fun c_13 => ?_) (fun c_13 => ?_)
          · skip
            refine lv_goto (tgt := 1361) hx hb d_Law_law_1320 (by decide) ?_
            refine W.widen (k := KC + 21) (n := KS + 196) (by show KC + 2 ≤ KC + 21; omega) (by show KS + 12 ≤ KS + 196; omega) ?_
            exact kk _ _ ls H locs ⟨⟨z2, t2, nP2, hR3⟩, h45c⟩ hV (lv_sub hl [2, 3, 4, 5, 6] rfl)
          · skip
            refine lv_aload_n hx hb d_Law_law_1308 rfl (lv_at hl 5 rfl) ?_
            refine lv_iconst (v := 0) hx hb d_Law_law_1309 (by decide) ?_
            refine os_laldN (K := 45) (i := 0) (t0 := 2) (n := 0) hx hb hK hV rfl rfl rfl hr_11 rfl (by rw [show os_l σ_7 45 0 = 1 from h45c.2]; decide) (by rw [show os_l σ_7 45 0 = 1 from h45c.2]; decide) d_Law_law_1310 ?_
            refine lv_iload hx hb d_Law_law_1311 (lv_at hl 0 rfl) ?_
            refine lv_i2l (v := Int32.toInt64 b9) hx hb d_Law_law_1313 rfl ?_
            refine W.eq (g2 := F0 m 1314 ls [.long (Int32.toInt64 b9), .long (Int32.toInt64 b9)]) (by rw [hout c_13]) ?_
            refine W.lcmpE hx hb d_Law_law_1314 ?_
            refine lv_if_eq (tgt := 1320) hx hb d_Law_law_1315 (by decide) (fun c_14 => ?_) (fun c_14 => ?_)
            · skip
              refine lv_goto (tgt := 1361) hx hb d_Law_law_1320 (by decide) ?_
              refine W.widen (k := KC + 21) (n := KS + 196) (by show KC + 2 ≤ KC + 21; omega) (by show KS + 12 ≤ KS + 196; omega) ?_
              exact kk _ _ ls H locs ⟨⟨z2, t2, nP2, hR3⟩, h45c⟩ hV (lv_sub hl [2, 3, 4, 5, 6] rfl)
            · exact absurd (by decide) c_14
        · exact absurd hcode c_12
      · exact absurd hp.2.2 (fun h => by cases h)
    · obtain ⟨_, _, _, h⟩ := e_told hp; cases h
  · exact (hI.x hp).elim
set_option maxHeartbeats 4000000 in
set_option maxRecDepth 100000 in
theorem lc_first (l : Launch) (hlt : l.stackTraces = false) {p : Program} {e : Env} {s : State} {m : MethodId} {below : List Frame} {meth : Method} {c : Code} {b L i9 KC KS bs : Nat} {xs : Nat → Int32} {D : va_G} {cA : Nat → ClassId} {ad0 : Nat → Nat → Nat} {Q : State → Prop} (hx : p.tables.exec = Jvm.exec) (hb : c.code = code) (hml : c.maxLocals = 7) (hown : s.vm.findClass "RobotFaultsLaw" = some m.cls) (hE : os_EV D cA bs s) (hN : os_NC s) (hX : va_X b L xs s s.heap) (hbl : b < s.heap.size) (hL : L ≤ 2560) (hi5 : i9 + 5 ≤ L) (hkc : KC + 21 ≤ 601024) (hks : KS + 196 ≤ 7293034) (kk : lwK p l e s m b below meth c KC KS i9 D cA bs ad0 Q) {τ : os_S} {α : Nat → Nat → Nat} {ls : Array Slot} {H : Heap} {locs : List Loc} (hI9 : lwI τ) (hV : os_V D cA bs os_0 ad0 s τ α H locs) (hl : lv_has ls 7 [(0, .ref b), (1, .ref (α 0 0)), (2, .ref (α 13 0)), (3, .ref (α 45 0)), (4, .int (nI i9))]) : W p l e room_1 s m #[Value.ref b] below meth c H locs KC KS Q (F0 m 1323 ls []) := by
  have hts := hE.hts (args := #[Value.ref b])
  have hK := hE.2.1
  have hbs := hE.2.2.1
  obtain ⟨⟨z, t, nP, hRel⟩, h45⟩ := hI9
  have hr0 : 0 < os_n τ 0 := hRel.1.n 0 (by decide)
  have hr13 : 0 < os_n τ 13 := hRel.2.1.1.n 13 (by decide) (by decide)
  have hr45 : 0 < os_n τ 45 := h45.1
  refine lv_aload_n hx hb d_Law_law_1323 rfl (lv_at hl 1 rfl) ?_
  refine os_call (c_RF_first l hlt D cA bs τ α hRel.1 hRel.2.2.2.2.1) hE hV k_105 k_1 (os_inV (C := "RobotFaults") (n := 0) (bytes := prog_1_method_21_code) (maxL := 5) (ret := (some .int)) hx hb hown (hts _ k_102) (hts _ k_103) (hts _ k_104) (hts _ k_105) (by decide +kernel) rfl (os_recv hK hV rfl rfl hr0) rfl d_Law_law_1324) (hl.1.trans hml.symm) (Nat.le_of_ble_eq_true rfl) (Nat.le_of_ble_eq_true rfl) (Nat.le_of_ble_eq_true rfl) (by show KC + 0 ≤ 601024; omega) (by show KS + 0 ≤ 7293034; omega) (fun v σ1 ad1 H locs hp hext hV => ?_) (fun E q ce σ1 ad1 H locs hp hext hV hce hcv hcl => ?_)
  · obtain ⟨rfl, rfl, hp⟩ := hp
    cases hp
    refine W.eq (g2 := F0 m 1327 ls [.int (obI (fiF τ 40))]) rfl ?_
    refine lv_aload_n hx hb d_Law_law_1327 rfl (lv_at hl 2 rfl) ?_
    refine os_call (c_Model_first l hlt D cA bs τ α hRel.2.1) hE hV k_974 k_4 (os_inV (C := "RobotFaultsModel") (n := 0) (bytes := prog_9_method_35_code) (maxL := 3) (ret := (some .int)) hx hb hown (hts _ k_971) (hts _ k_972) (hts _ k_973) (hts _ k_974) (by decide +kernel) rfl (os_recv hK hV rfl rfl hr13) rfl d_Law_law_1328) (hl.1.trans hml.symm) (Nat.le_of_ble_eq_true rfl) (Nat.le_of_ble_eq_true rfl) (Nat.le_of_ble_eq_true rfl) (by show KC + 0 ≤ 601024; omega) (by show KS + 0 ≤ 7293034; omega) (fun v σ1 ad1 H locs hp hext hV => ?_) (fun E q ce σ1 ad1 H locs hp hext hV hce hcv hcl => ?_)
    · obtain ⟨zs_1, rfl, hp⟩ := hp
      cases hp
      obtain ⟨σ_2, rfl⟩ : ∃ z, z = σ1 := ⟨_, rfl⟩
      have he_3 := hext
      have hr_4 : 0 < os_n σ_2 0 := Nat.lt_of_lt_of_le hr0 (he_3.1 0)
      have hr_5 : 0 < os_n σ_2 13 := Nat.lt_of_lt_of_le hr13 (he_3.1 13)
      have hr_6 : 0 < os_n σ_2 45 := Nat.lt_of_lt_of_le hr45 (he_3.1 45)
      refine W.eq (g2 := F0 m 1331 ls [.int (obI (mfi τ (iN (os_g τ 13 24 0)))), .int (obI (fiF τ 40))]) rfl ?_
      refine lv_icmp_eq (tgt := 1361) hx hb d_Law_law_1331 (by decide) (fun c_7 => ?_) (fun c_7 => ?_)
      · skip
        refine W.widen (k := KC + 21) (n := KS + 196) (by show KC ≤ KC + 21; omega) (by show KS ≤ KS + 196; omega) ?_
        exact kk _ _ ls H locs ⟨⟨z, t, nP, by rw [← zs_1]; exact (hRel.c (v := 0)).to (cuC_sg (by decide)).symm rfl⟩, by rw [← zs_1]; exact h45⟩ hV (lv_sub hl [0, 1, 2, 3, 4] rfl)
      · exact absurd (congrArg obI (fi_end hRel)) c_7
    · exact absurd hp.2.2 (fun h => by cases h)
  · exact absurd hp.2.2 (fun h => by cases h)
set_option maxHeartbeats 4000000 in
set_option maxRecDepth 100000 in
theorem lc_count (l : Launch) (hlt : l.stackTraces = false) {p : Program} {e : Env} {s : State} {m : MethodId} {below : List Frame} {meth : Method} {c : Code} {b L i9 KC KS bs : Nat} {xs : Nat → Int32} {D : va_G} {cA : Nat → ClassId} {ad0 : Nat → Nat → Nat} {Q : State → Prop} (hx : p.tables.exec = Jvm.exec) (hb : c.code = code) (hml : c.maxLocals = 7) (hown : s.vm.findClass "RobotFaultsLaw" = some m.cls) (hE : os_EV D cA bs s) (hN : os_NC s) (hX : va_X b L xs s s.heap) (hbl : b < s.heap.size) (hL : L ≤ 2560) (hi5 : i9 + 5 ≤ L) (hkc : KC + 21 ≤ 601024) (hks : KS + 196 ≤ 7293034) (kk : lwK p l e s m b below meth c KC KS i9 D cA bs ad0 Q) {τ : os_S} {α : Nat → Nat → Nat} {ls : Array Slot} {H : Heap} {locs : List Loc} (hI9 : lwI τ) (hV : os_V D cA bs os_0 ad0 s τ α H locs) (hl : lv_has ls 7 [(0, .ref b), (1, .ref (α 0 0)), (2, .ref (α 13 0)), (3, .ref (α 45 0)), (4, .int (nI i9))]) : W p l e room_1 s m #[Value.ref b] below meth c H locs KC KS Q (F0 m 1336 ls []) := by
  have hts := hE.hts (args := #[Value.ref b])
  have hK := hE.2.1
  have hbs := hE.2.2.1
  obtain ⟨⟨z, t, nP, hRel⟩, h45⟩ := hI9
  have hr0 : 0 < os_n τ 0 := hRel.1.n 0 (by decide)
  have hr13 : 0 < os_n τ 13 := hRel.2.1.1.n 13 (by decide) (by decide)
  have hr45 : 0 < os_n τ 45 := h45.1
  refine lv_aload_n hx hb d_Law_law_1336 rfl (lv_at hl 1 rfl) ?_
  refine lv_aload_n hx hb d_Law_law_1337 rfl (lv_at hl 0 rfl) ?_
  refine lv_iload hx hb d_Law_law_1338 (lv_at hl 4 rfl) ?_
  refine lv_iconst (v := 1) hx hb d_Law_law_1340 (by decide) ?_
  refine lv_iadd hx hb d_Law_law_1341 ?_
  refine os_sld (n := (i9 + 1)) hx hb hX hbl hV hL (show nI i9 + 1 = nI (i9 + 1) from nI_add i9 1) (by omega) d_Law_law_1342 ?_
  refine os_call (c_RF_count l hlt D cA bs τ α (xs (i9 + 1)) hRel.1 hRel.2.2.2.1 hRel.2.2.2.2.1) hE hV k_117 k_1 (os_inV (C := "RobotFaults") (n := 1) (bytes := prog_1_method_22_code) (maxL := 2) (ret := (some .int)) hx hb hown (hts _ k_114) (hts _ k_115) (hts _ k_116) (hts _ k_117) (by decide +kernel) rfl (os_recv hK hV rfl rfl hr0) rfl d_Law_law_1343) (hl.1.trans hml.symm) (Nat.le_of_ble_eq_true rfl) (Nat.le_of_ble_eq_true rfl) (Nat.le_of_ble_eq_true rfl) (by show KC + 0 ≤ 601024; omega) (by show KS + 0 ≤ 7293034; omega) (fun v σ1 ad1 H locs hp hext hV => ?_) (fun E q ce σ1 ad1 H locs hp hext hV hce hcv hcl => ?_)
  · have hpH := hp
    obtain ⟨rfl, rfl, k9, hk9⟩ := count_v hp
    cases hk9
    refine W.eq (g2 := F0 m 1346 ls [.int k9]) rfl ?_
    refine lv_aload_n hx hb d_Law_law_1346 rfl (lv_at hl 2 rfl) ?_
    refine lv_aload_n hx hb d_Law_law_1347 rfl (lv_at hl 0 rfl) ?_
    refine lv_iload hx hb d_Law_law_1348 (lv_at hl 4 rfl) ?_
    refine lv_iconst (v := 1) hx hb d_Law_law_1350 (by decide) ?_
    refine lv_iadd hx hb d_Law_law_1351 ?_
    refine os_sld (n := (i9 + 1)) hx hb hX hbl hV hL (show nI i9 + 1 = nI (i9 + 1) from nI_add i9 1) (by omega) d_Law_law_1352 ?_
    refine os_call (c_Model_count l hlt D cA bs τ α (xs (i9 + 1)) hRel.2.1) hE hV k_986 k_4 (os_inV (C := "RobotFaultsModel") (n := 1) (bytes := prog_9_method_38_code) (maxL := 4) (ret := (some .int)) hx hb hown (hts _ k_983) (hts _ k_984) (hts _ k_985) (hts _ k_986) (by decide +kernel) rfl (os_recv hK hV rfl rfl hr13) rfl d_Law_law_1353) (hl.1.trans hml.symm) (Nat.le_of_ble_eq_true rfl) (Nat.le_of_ble_eq_true rfl) (Nat.le_of_ble_eq_true rfl) (by show KC + 0 ≤ 601024; omega) (by show KS + 0 ≤ 7293034; omega) (fun v σ1 ad1 H locs hp hext hV => ?_) (fun E q ce σ1 ad1 H locs hp hext hV hce hcv hcl => ?_)
    · obtain ⟨zs_1, rfl, hp⟩ := hp
      cases hp
      obtain ⟨σ_2, rfl⟩ : ∃ z, z = σ1 := ⟨_, rfl⟩
      have he_3 := hext
      have hr_4 : 0 < os_n σ_2 0 := Nat.lt_of_lt_of_le hr0 (he_3.1 0)
      have hr_5 : 0 < os_n σ_2 13 := Nat.lt_of_lt_of_le hr13 (he_3.1 13)
      have hr_6 : 0 < os_n σ_2 45 := Nat.lt_of_lt_of_le hr45 (he_3.1 45)
      refine W.eq (g2 := F0 m 1356 ls [.int (mCt τ (xs (i9 + 1))), .int k9]) rfl ?_
      refine lv_icmp_eq (tgt := 1361) hx hb d_Law_law_1356 (by decide) (fun c_7 => ?_) (fun c_7 => ?_)
      · skip
        refine W.widen (k := KC + 21) (n := KS + 196) (by show KC ≤ KC + 21; omega) (by show KS ≤ KS + 196; omega) ?_
        exact kk _ _ ls H locs ⟨⟨z, t, nP, by rw [← zs_1]; exact (hRel.c (v := 0)).to (cuC_sg (by decide)).symm rfl⟩, by rw [← zs_1]; exact h45⟩ hV (lv_sub hl [0, 1, 2, 3, 4] rfl)
      · exact absurd (count_eq hRel hpH) c_7
    · exact absurd hp.2.2 (fun h => by cases h)
  · obtain ⟨_, _, _, h⟩ := count_v hp; cases h
