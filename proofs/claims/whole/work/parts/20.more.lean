/-! array rows at a place that is a number; throws: the words -/
section OSN
variable {p : Program} {l : Launch} {e : Env} {R : Room} {s : State} {m : MethodId} {args : Array Value} {below : List Frame} {meth : Method} {c : Code} {H : Heap} {locs : List Loc} {cells slots : Nat} {Q : State → Prop}
variable {cc : ByteArray} {pc : Nat} {ls : Array Slot} {rest : List Value} {D : va_G} {cA : Nat → ClassId} {bs : Nat} {σ σ0 : os_S} {ad ad0 : Nat → Nat → Nat} {tys : List (ClassId × FieldType)}
theorem os_ialdN (hx : p.tables.exec = Jvm.exec) (hb : c.code = cc) {K i t t0 n : Nat} {ix : Int32} (hK : va_K D os_cl tys s) (hV : os_V D cA bs σ0 ad0 s σ ad H locs) (hs : os_sc K = .inr (t, none)) (hlg : os_lg K = false) (ht : tys[t0]? = some (cA t, .int)) (hi : i < os_n σ K) (hix : ix = nI n) (hlt : n < os_l σ K i) (hsz : os_l σ K i < 2 ^ 31) (hdg : decode cc pc = .ok (.iaload, 1))
    (kk : W p l e R s m args below meth c H locs cells slots Q (F0 m (pc + 1) ls (.int (os_g σ K n i) :: rest))) : W p l e R s m args below meth c H locs cells slots Q (F0 m pc ls (.int ix :: .ref (ad K i) :: rest)) := by
  subst hix
  have hc : (nI n).toNatClampNeg = n := nI_clamp (by omega)
  exact os_iald hx hb hK hV hs hlg ht hi (vp_in_nI hlt hsz) hdg (by rw [hc]; exact kk)
theorem os_zaldN (hx : p.tables.exec = Jvm.exec) (hb : c.code = cc) {K i t t0 n : Nat} {ix : Int32} (hK : va_K D os_cl tys s) (hV : os_V D cA bs σ0 ad0 s σ ad H locs) (hs : os_sc K = .inr (t, none)) (hlg : os_lg K = false) (ht : tys[t0]? = some (cA t, .boolean)) (hi : i < os_n σ K) (hix : ix = nI n) (hlt : n < os_l σ K i) (hsz : os_l σ K i < 2 ^ 31) (hdg : decode cc pc = .ok (.baload, 1))
    (kk : W p l e R s m args below meth c H locs cells slots Q (F0 m (pc + 1) ls (.int (os_g σ K n i) :: rest))) : W p l e R s m args below meth c H locs cells slots Q (F0 m pc ls (.int ix :: .ref (ad K i) :: rest)) := by
  subst hix
  have hc : (nI n).toNatClampNeg = n := nI_clamp (by omega)
  exact os_zald hx hb hK hV hs hlg ht hi (vp_in_nI hlt hsz) hdg (by rw [hc]; exact kk)
theorem os_laldN (hx : p.tables.exec = Jvm.exec) (hb : c.code = cc) {K i t t0 n : Nat} {ix : Int32} (hK : va_K D os_cl tys s) (hV : os_V D cA bs σ0 ad0 s σ ad H locs) (hs : os_sc K = .inr (t, none)) (hlg : os_lg K = true) (ht : tys[t0]? = some (cA t, .long)) (hi : i < os_n σ K) (hix : ix = nI n) (hlt : n < os_l σ K i) (hsz : os_l σ K i < 2 ^ 31) (hdg : decode cc pc = .ok (.laload, 1))
    (kk : W p l e R s m args below meth c H locs cells slots Q (F0 m (pc + 1) ls (.long (os_g σ K n i).toInt64 :: rest))) : W p l e R s m args below meth c H locs cells slots Q (F0 m pc ls (.int ix :: .ref (ad K i) :: rest)) := by
  subst hix
  have hc : (nI n).toNatClampNeg = n := nI_clamp (by omega)
  exact os_lald hx hb hK hV hs hlg ht hi (vp_in_nI hlt hsz) hdg (by rw [hc]; exact kk)
theorem os_aaldN (hx : p.tables.exec = Jvm.exec) (hb : c.code = cc) {K i t t0 n kt : Nat} {ix : Int32} {C : String} (hK : va_K D os_cl tys s) (hV : os_V D cA bs σ0 ad0 s σ ad H locs) (hs : os_sc K = .inr (t, some kt)) (ht : tys[t0]? = some (cA t, .object C)) (hi : i < os_n σ K) (hix : ix = nI n) (hlt : n < os_l σ K i) (hsz : os_l σ K i < 2 ^ 31) (hdg : decode cc pc = .ok (.aaload, 1))
    (kk : W p l e R s m args below meth c H locs cells slots Q (F0 m (pc + 1) ls (va_rf ((os_r σ K n i).map (ad kt)) :: rest))) : W p l e R s m args below meth c H locs cells slots Q (F0 m pc ls (.int ix :: .ref (ad K i) :: rest)) := by
  subst hix
  have hc : (nI n).toNatClampNeg = n := nI_clamp (by omega)
  exact os_aald hx hb hK hV hs ht hi (vp_in_nI hlt hsz) hdg (by rw [hc]; exact kk)
theorem os_iastN (hx : p.tables.exec = Jvm.exec) (hb : c.code = cc) {K i t t0 n : Nat} {ix v : Int32} (hK : va_K D os_cl tys s) (hV : os_V D cA bs σ0 ad0 s σ ad H locs) (hs : os_sc K = .inr (t, none)) (hlg : os_lg K = false) (ht : tys[t0]? = some (cA t, .int)) (hi : i < os_n σ K) (hix : ix = nI n) (hlt : n < os_l σ K i) (hsz : os_l σ K i < 2 ^ 31) (hdg : decode cc pc = .ok (.iastore, 1))
    (kk : ∀ (H1 : Heap) (locs1 : List Loc), os_V D cA bs σ0 ad0 s (os_sg σ K n i v) ad H1 locs1 → W p l e R s m args below meth c H1 locs1 cells slots Q (F0 m (pc + 1) ls rest)) : W p l e R s m args below meth c H locs cells slots Q (F0 m pc ls (.int v :: .int ix :: .ref (ad K i) :: rest)) := by
  subst hix
  have hc : (nI n).toNatClampNeg = n := nI_clamp (by omega)
  refine os_iast hx hb hK hV hs hlg ht hi (vp_in_nI hlt hsz) hdg (fun H1 locs1 h => ?_)
  rw [hc] at h
  exact kk H1 locs1 h
theorem os_zastN (hx : p.tables.exec = Jvm.exec) (hb : c.code = cc) {K i t t0 n : Nat} {ix v : Int32} (hK : va_K D os_cl tys s) (hV : os_V D cA bs σ0 ad0 s σ ad H locs) (hs : os_sc K = .inr (t, none)) (hlg : os_lg K = false) (ht : tys[t0]? = some (cA t, .boolean)) (hi : i < os_n σ K) (hix : ix = nI n) (hlt : n < os_l σ K i) (hsz : os_l σ K i < 2 ^ 31) (hv : narrow .boolean (.int v) = .int v) (hdg : decode cc pc = .ok (.bastore, 1))
    (kk : ∀ (H1 : Heap) (locs1 : List Loc), os_V D cA bs σ0 ad0 s (os_sg σ K n i v) ad H1 locs1 → W p l e R s m args below meth c H1 locs1 cells slots Q (F0 m (pc + 1) ls rest)) : W p l e R s m args below meth c H locs cells slots Q (F0 m pc ls (.int v :: .int ix :: .ref (ad K i) :: rest)) := by
  subst hix
  have hc : (nI n).toNatClampNeg = n := nI_clamp (by omega)
  refine os_zast hx hb hK hV hs hlg ht hi (vp_in_nI hlt hsz) hv hdg (fun H1 locs1 h => ?_)
  rw [hc] at h
  exact kk H1 locs1 h
theorem os_lastN (hx : p.tables.exec = Jvm.exec) (hb : c.code = cc) {K i t t0 n : Nat} {ix v : Int32} (hK : va_K D os_cl tys s) (hV : os_V D cA bs σ0 ad0 s σ ad H locs) (hs : os_sc K = .inr (t, none)) (hlg : os_lg K = true) (ht : tys[t0]? = some (cA t, .long)) (hi : i < os_n σ K) (hix : ix = nI n) (hlt : n < os_l σ K i) (hsz : os_l σ K i < 2 ^ 31) (hdg : decode cc pc = .ok (.lastore, 1))
    (kk : ∀ (H1 : Heap) (locs1 : List Loc), os_V D cA bs σ0 ad0 s (os_sg σ K n i v) ad H1 locs1 → W p l e R s m args below meth c H1 locs1 cells slots Q (F0 m (pc + 1) ls rest)) : W p l e R s m args below meth c H locs cells slots Q (F0 m pc ls (.long v.toInt64 :: .int ix :: .ref (ad K i) :: rest)) := by
  subst hix
  have hc : (nI n).toNatClampNeg = n := nI_clamp (by omega)
  refine os_last hx hb hK hV hs hlg ht hi (vp_in_nI hlt hsz) hdg (fun H1 locs1 h => ?_)
  rw [hc] at h
  exact kk H1 locs1 h
theorem os_aastNN (hx : p.tables.exec = Jvm.exec) (hb : c.code = cc) {K i t t0 n kt : Nat} {ix : Int32} {C : String} (hK : va_K D os_cl tys s) (hV : os_V D cA bs σ0 ad0 s σ ad H locs) (hs : os_sc K = .inr (t, some kt)) (ht : tys[t0]? = some (cA t, .object C)) (hi : i < os_n σ K) (hix : ix = nI n) (hlt : n < os_l σ K i) (hsz : os_l σ K i < 2 ^ 31) (hdg : decode cc pc = .ok (.aastore, 1))
    (kk : ∀ (H1 : Heap) (locs1 : List Loc), os_V D cA bs σ0 ad0 s (os_sr σ K n i none) ad H1 locs1 → W p l e R s m args below meth c H1 locs1 cells slots Q (F0 m (pc + 1) ls rest)) : W p l e R s m args below meth c H locs cells slots Q (F0 m pc ls (.null :: .int ix :: .ref (ad K i) :: rest)) := by
  subst hix
  have hc : (nI n).toNatClampNeg = n := nI_clamp (by omega)
  refine os_aastN hx hb hK hV hs ht hi (vp_in_nI hlt hsz) hdg (fun H1 locs1 h => ?_)
  rw [hc] at h
  exact kk H1 locs1 h
theorem os_aastK (hx : p.tables.exec = Jvm.exec) (hb : c.code = cc) {K i t t0 n kt ck x : Nat} {r : vw_C} {fds : List (Option Nat)} {ix : Int32} (hK : va_K D os_cl tys s) (hV : os_V D cA bs σ0 ad0 s σ ad H locs) (hs : os_sc K = .inr (t, some kt)) (hsk : os_sc kt = .inl (ck, fds)) (hc : os_cl[ck]? = some r) (ht : tys[t0]? = some (cA t, .object r.1)) (hi : i < os_n σ K) (hxt : x < os_n σ kt) (hix : ix = nI n) (hlt : n < os_l σ K i) (hsz : os_l σ K i < 2 ^ 31) (hdg : decode cc pc = .ok (.aastore, 1))
    (kk : ∀ (H1 : Heap) (locs1 : List Loc), os_V D cA bs σ0 ad0 s (os_sr σ K n i (some x)) ad H1 locs1 → W p l e R s m args below meth c H1 locs1 cells slots Q (F0 m (pc + 1) ls rest)) : W p l e R s m args below meth c H locs cells slots Q (F0 m pc ls (.ref (ad kt x) :: .int ix :: .ref (ad K i) :: rest)) := by
  subst hix
  have hcl : (nI n).toNatClampNeg = n := nI_clamp (by omega)
  refine os_aast hx hb hK hV hs hsk hc ht hi hxt (vp_in_nI hlt hsz) hdg (fun H1 locs1 h => ?_)
  rw [hcl] at h
  exact kk H1 locs1 h
end OSN
theorem th_IllegalArgumentException : ∀ w ∈ (Bundle.ownAtoms "RobotFaults" 70 "java/lang/IllegalArgumentException" ["java/lang/RuntimeException", "java/lang/Exception"]).filter os_no, w ∈ os_tb := os_sub (by decide +kernel) (by decide +kernel)
theorem th_IllegalStateException : ∀ w ∈ (Bundle.ownAtoms "RobotFaults" 108 "java/lang/IllegalStateException" ["java/lang/RuntimeException", "java/lang/Exception"]).filter os_no, w ∈ os_tb := os_sub (by decide +kernel) (by decide +kernel)
theorem th_UnsupportedOperationException : ∀ w ∈ (Bundle.ownAtoms "RobotFaults" 55 "java/lang/UnsupportedOperationException" ["java/lang/RuntimeException", "java/lang/Exception"]).filter os_no, w ∈ os_tb := os_sub (by decide +kernel) (by decide +kernel)
section OSW
variable {p : Program} {l : Launch} {e : Env} {R : Room} {s : State} {m : MethodId} {args : Array Value} {below : List Frame} {meth : Method} {c : Code} {H : Heap} {locs : List Loc} {cells slots : Nat} {Q : State → Prop}
variable {cc : ByteArray} {pc : Nat} {ls : Array Slot} {rest st0 : List Value} {D : va_G} {cA : Nat → ClassId} {bs : Nat} {σ σ0 : os_S} {ad ad0 : Nat → Nat → Nat} {tys : List (ClassId × FieldType)}
variable {rm : Room} {Post : os_O → os_S → (Nat → Nat → Nat) → Prop}
/-- 'throw new E("text")': new; dup; ldc; invokespecial; athrow, in a body without handlers; the text by a wide index -/
theorem os_throwW {own cls text : String} {names : List String} {ik is ic : Nat} (hx : p.tables.exec = Jvm.exec) (hb : c.code = cc) (hl : l.stackTraces = false) (hown : s.vm.findClass own = some m.cls) (hcls : Bundle.fit cls = true) (hnames : ∀ n ∈ names, Bundle.fit n = true)
    (hE : os_EV D cA bs s) (hV : os_V D cA bs σ0 ad0 s σ ad H locs) (hk : Cond.classLink own ik cls ∈ os_tb) (hini : Cond.initialized cls ∈ os_tb) (hstr : (own, is, text) ∈ os_str) (hat : ∀ w ∈ (Bundle.ownAtoms own ic cls names).filter os_no, w ∈ os_tb)
    (hsize : ls.size = c.maxLocals) (d0 : decode cc pc = .ok (.new ik, 3)) (d3 : decode cc (pc + 3) = .ok (.dup, 1)) (d4 : decode cc (pc + 4) = .ok (.ldc_w is, 3)) (d6 : decode cc (pc + 7) = .ok (.invokespecial ic, 3)) (d9 : decode cc (pc + 10) = .ok (.athrow, 1))
    (hout : ∀ x ∈ c.exceptionTable.toList, False) (hlocks : meth.locks = false) (hRf : names.length + 3 < R.frames) (hRl : (rest.map fun v => v.category).sum + (13 * (names.length + 1) + 43) ≤ R.locals) (hRc : cells + 1 ≤ R.cells) (hRs : slots + 6 ≤ R.slots) (hc : cells + 1 ≤ rm.cells) (hs : slots + 6 ≤ rm.slots) (hp : Post (.inr cls) σ ad) :
    W p l e R s m args below meth c H locs cells slots (os_End D cA bs below s σ0 ad0 rm Post) (F0 m pc ls rest) := by
  intro T hT X
  have htr : e.platform.stackTraces = false := (show e.platform.stackTraces = l.stackTraces by rw [X.admits.platform]).trans hl
  have Y := os_rebase X (R' := { frames := R.frames, locals := R.locals, cells := 1, slots := 6 }) (Nat.le_refl _) (Nat.le_refl _) hRc hRs
  obtain ⟨s', hA⟩ : ∃ z, z = (T.setVm s.vm).setFrames (.invoking m args :: below) := ⟨_, rfl⟩
  rw [← hA] at Y
  have hvm : s'.vm = s.vm := by rw [hA]; rfl
  have hhp : s'.heap = H := by rw [hA]; exact hT
  have hW0 : s.WarmedH s'.vm := by rw [hvm]; exact State.WarmedH.refl s
  have hE' : os_EV D cA bs s' := hE.moved hW0 (by rw [hhp]; exact hV.2.2.1) (fun q hq => by rw [hhp]; exact hV.low hE.2.2.1 q hq)
  have h : ∀ w ∈ Bundle.ownAtoms own ic cls names, w.before args s' = true := os_own hE' hat
  have hown' : s'.vm.findClass own = some m.cls := by rw [hvm]; exact hown
  have hins : (Cond.instantiable cls 6).before args s' = true := h _ (by simp [Bundle.ownAtoms])
  obtain ⟨vm₁, cX, kX, hfX, hkX, -, -, X₁, st1⟩ := Y.newCold hx (own := own) (C := cls) (index := ik) (n := 6) hown' (hE'.hts _ hk) hins (hE'.hts _ hini)
    (g := F0 m pc ls rest) rfl (by rw [hb]; exact d0) (Nat.le_refl _) (Nat.le_refl _)
  generalize hT1 : (T.setVm vm₁).pushCell { cls := cX, slots := kX.instanceTypes.map defaultValue, vm := .none } = T1 at X₁ st1
  have hcat : (Value.ref T.heap.size).category = 1 := rfl
  have hcellA : T1.heap[T.heap.size]? = some (freshCell cX kX) := by rw [← hT1]; exact State.heap_pushCell_size _ _
  have d3' : decode c.code (pc + 3) = .ok (.dup, 1) := by rw [hb]; exact d3
  have d4' : decode c.code (pc + 4) = .ok (.ldc_w is, 3) := by rw [hb]; exact d4
  obtain ⟨sa, hstr'⟩ := hE'.2.2.2.2.2 _ hstr
  obtain ⟨U, hsteps, hrun, hend, hW, hsame, ce, hce, hO⟩ := X₁.ctorThrowS hx htr (own := own) (cls := cls) (names := names) (ic := ic) hown' hcls hnames h (fun x hx => nomatch hx) hfX hkX hcellA (by rw [hhp, hT]; exact Nat.le_refl _) (msg := .ref sa) rfl
    (g := { method := m, pc := pc + 7, locals := ls, stack := .ref sa :: .ref T.heap.size :: .ref T.heap.size :: rest, locked := none }) rfl hsize rfl rfl (rest := rest) rfl
    (by rw [hb]; exact d6) (by rw [hb]; exact d9) (fun x hx => (hout x hx).elim) hRf (by simp only [List.map_cons, List.sum_cons, hcat]; omega) hlocks
  obtain ⟨f1, f2⟩ := os_frame hsame
  rw [hhp] at f1 f2
  have hWs : s.WarmedH U.vm := State.WarmedH.trans hW0 hW
  have hcl : s.vm.findClass cls = some ce.cls := by
    have h9 := hO.cls
    rw [hvm] at h9
    exact h9
  have hall : s.sameButNew ({ U with vm := s.vm } : State) locs rm.cells rm.slots := by
    subst hA
    obtain ⟨e1, e2⟩ := hsame
    rw [State.setFrames_setFrames] at e1
    have h2 : (T.setVm s.vm).sameButNew ({ U with vm := s.vm } : State) [] (0 + 1) (0 + 6) := ⟨e1, e2⟩
    have h3 := X.same.trans h2
    rw [List.append_nil] at h3
    exact h3.mono hc hs
  have hWU : os_W D cA bs σ ad U.heap := by
    obtain ⟨w1, w2, w3, w4⟩ := hV.1
    exact ⟨fun K i hi => (w1 K i hi).to rfl (f2 _ (w1 K i hi).lt (fun z hz => nomatch hz)) rfl (fun _ => rfl), w2, w3, w4⟩
  refine ⟨U, ?_, .threw T.heap.size, hrun, hend, .inr cls, σ, ad, ⟨T.heap.size, ce, rfl, hce, hO.vm, hcl⟩, hp, hWU, hV.2.1, hWs, locs, hall, hV.2.2.2.2⟩
  refine st1 _ ?_
  show Steps p.tables e below (T1.setTop { method := m, pc := pc + 3, locals := ls, stack := .ref T.heap.size :: rest, locked := none }) _
  jvm_step X₁.here [X₁.here.top, hx, d3', Value.category]
  exact X₁.ldcStringW hx (own := own) (text := text) (index := is) (a := sa) hown' hstr'.1 hstr'.2
    (g := { method := m, pc := pc + 4, locals := ls, stack := .ref T.heap.size :: .ref T.heap.size :: rest, locked := none }) rfl d4' _ hsteps
end OSW
