/-! METHODS WITH HANDLERS -/
def os_ncl : List (String × String) := [("java/lang/IllegalArgumentException", "java/util/NoSuchElementException"), ("java/lang/IllegalStateException", "java/util/NoSuchElementException"), ("java/lang/IllegalStateException", "java/lang/IllegalArgumentException"), ("java/lang/UnsupportedOperationException", "java/util/NoSuchElementException"), ("java/lang/UnsupportedOperationException", "java/lang/IllegalArgumentException"), ("java/lang/UnsupportedOperationException", "java/lang/IllegalStateException")]
/-- what is no subclass of what -/
def os_NC (U : State) : Prop := ∀ q ∈ os_ncl, va_Nc q.1 q.2 U
theorem os_NC.moved {u U : State} (h : os_NC u) (hvm : u.vm.Alike U.vm) : os_NC U := fun q hq => va_Nc.moved hvm (h q hq)
def os_MetH (l : Launch) (y : MethodName) (b : ByteArray) (nL : Nat) (ret : Option FieldType) (tab : List (Nat × Nat × Nat × Nat)) (rm : Room) (D : va_G) (cA : Nat → ClassId) (bs : Nat) (av : List Value) (σ : os_S) (ad : Nat → Nat → Nat) (Post : os_O → os_S → (Nat → Nat → Nat) → Prop) : Prop :=
  MetFree l y (headSpec [Cond.codeWith y b nL ret tab] rm) (fun args U => args = av.toArray ∧ os_EV D cA bs U ∧ os_NC U ∧ os_W D cA bs σ ad U.heap) (fun _ _ _ _ _ => True) (fun _ st o t => os_Q D cA bs σ ad rm Post st o t)
def os_row (x : ExceptionTableEntry) : Nat × Nat × Nat × Nat := (x.startPc, x.endPc, x.handlerPc, x.catchType)
theorem os_cov {x : ExceptionTableEntry} {a b c d pc : Nat} (h : os_row x = (a, b, c, d)) (h1 : a ≤ pc) (h2 : pc < b) : covers x pc = true := by
  simp only [os_row, Prod.mk.injEq] at h
  simp [covers, h.1, h.2.1, h1, h2]
theorem os_hpc {x : ExceptionTableEntry} {a b c d : Nat} (h : os_row x = (a, b, c, d)) : x.handlerPc = c := by
  simp only [os_row, Prod.mk.injEq] at h
  exact h.2.2.1
theorem os_ct {x : ExceptionTableEntry} {a b c d : Nat} (h : os_row x = (a, b, c, d)) : x.catchType = d := by
  simp only [os_row, Prod.mk.injEq] at h
  exact h.2.2.2
section OSG
variable {l : Launch}
theorem os_ofWH {y : MethodName} {rm : Room} {D : va_G} {cA : Nat → ClassId} {bs : Nat} {av : List Value} {σ : os_S} {ad : Nat → Nat → Nat} {Post : os_O → os_S → (Nat → Nat → Nat) → Prop} {cc : ByteArray} {maxL : Nat} {ret : Option FieldType} {tab : List (Nat × Nat × Nat × Nat)}
    (hy : plainName y.cls = true)
    (body : ∀ p e s m below meth c, p.tables.exec = Jvm.exec → c.code = cc → meth.sig.returnType = ret → c.maxLocals = maxL → s.vm.findClass y.cls = some m.cls → meth.locks = false → meth.name = y.name → c.exceptionTable.toList.map os_row = tab → os_EV D cA bs s → os_NC s → os_V D cA bs σ ad s σ ad s.heap [] →
      W p l e rm s m av.toArray below meth c s.heap [] 0 0 (os_End D cA bs below s σ ad rm Post) (entryFrame m av.toArray maxL)) : os_MetH l y cc maxL ret tab rm D cA bs av σ ad Post := by
  refine MetFree.of_bodyS (code := cc) (maxLocals := maxL) (ret := ret) hy ?_ ?_
  · intro args s m h hn
    obtain ⟨m9, meth, c, hn9, h1, h2, h3, h4, -, h5, h6, -⟩ := Cond.codeWith_spec (atoms_spec (ws := [Cond.codeWith y cc maxL ret tab]) h _ List.mem_cons_self)
    cases hn.symm.trans hn9
    exact ⟨meth, c, h1, h2, h3, h4, h5, h6⟩
  · intro p e s m args below meth c s₁ B hml hP _
    obtain ⟨rfl, hE, hN, hW⟩ := hP
    have hh0 : s₁.heap = s.heap := by rw [B.state]; rfl
    have ht : c.exceptionTable.toList.map os_row = tab := by
      obtain ⟨m9, meth9, c9, hn9, h1, h2, -, -, h7, -, -, -⟩ := Cond.codeWith_spec (atoms_spec (ws := [Cond.codeWith y cc maxL ret tab]) B.pre _ List.mem_cons_self)
      cases B.named.symm.trans hn9
      cases Option.some.inj (h1.symm.trans B.method)
      cases Option.some.inj (h2.symm.trans (Stand.of_body B).code)
      exact h7
    obtain ⟨t, a1, o, b1, b2, b3⟩ := body p e s m below meth c B.exec B.bytes B.returns hml (findClass_of_methodNamed B.named) B.notSynchronized (name_of_methodNamed B.named B.method).1 ht hE hN (os_V.rf hW) s₁ hh0 (Stand.of_body B)
    exact ⟨t, o, a1, b1, b2, b3⟩
end OSG
section OSH
variable {p : Program} {l : Launch} {e : Env} {R : Room} {s : State} {m : MethodId} {args : Array Value} {below : List Frame} {meth : Method} {c : Code} {H : Heap} {locs : List Loc} {cells slots : Nat} {Q : State → Prop}
variable {cc : ByteArray} {pc : Nat} {ls : Array Slot} {rest st0 : List Value} {D : va_G} {cA : Nat → ClassId} {bs : Nat} {σ σ0 : os_S} {ad ad0 : Nat → Nat → Nat}
variable {rm : Room} {Post : os_O → os_S → (Nat → Nat → Nat) → Prop}
theorem os_callH {y : MethodName} {b : ByteArray} {nL' : Nat} {ret' : Option FieldType} {tab : List (Nat × Nat × Nat × Nat)} {rm' : Room} {av : List Value} {Post' : os_O → os_S → (Nat → Nat → Nat) → Prop} (hM : os_MetH l y b nL' ret' tab rm' D cA bs av σ ad Post') (hE : os_EV D cA bs s) (hN : os_NC s) (hV : os_V D cA bs σ0 ad0 s σ ad H locs)
    (hcode : Cond.codeWith y b nL' ret' tab ∈ os_tb) (hini : Cond.initialized y.cls ∈ os_tb) (hIn : os_In p l e R s m args below meth c H locs cells slots (F0 m pc ls st0) rest y av)
    (hsize : ls.size = c.maxLocals) (hst : (rest.map fun v => v.category).sum ≤ 8) (hf : rm'.frames + 1 ≤ R.frames) (hlo : 8 + (nL' + 11) + rm'.locals ≤ R.locals) (hcc : cells + rm'.cells ≤ R.cells) (hss : slots + rm'.slots ≤ R.slots)
    (kr : ∀ (v : Option Value) (σ' : os_S) (ad' : Nat → Nat → Nat) (H1 : Heap) (locs1 : List Loc), Post' (.inl v) σ' ad' → os_ext σ ad σ' ad' H.size → os_V D cA bs σ0 ad0 s σ' ad' H1 locs1 → W p l e R s m args below meth c H1 locs1 (cells + rm'.cells) (slots + rm'.slots) Q (F0 m (pc + 3) ls (v.toList ++ rest)))
    (kx : ∀ (E : String) (q : Addr) (ce : Cell) (σ' : os_S) (ad' : Nat → Nat → Nat) (H1 : Heap) (locs1 : List Loc), Post' (.inr E) σ' ad' → os_ext σ ad σ' ad' H.size → os_V D cA bs σ0 ad0 s σ' ad' H1 locs1 → H1[q]? = some ce → ce.vm = .none → s.vm.findClass E = some ce.cls →
      os_WX p l e R s m args below meth c H1 locs1 (cells + rm'.cells) (slots + rm'.slots) Q (F0 m pc ls rest) q) : W p l e R s m args below meth c H locs cells slots Q (F0 m pc ls st0) := by
  intro T hT X
  obtain ⟨vm₁, mk, ig, X₁, hn, hdg, hstep⟩ := hIn T hT X
  generalize hU : T.setVm vm₁ = U at X₁ hn hstep
  have hUh : U.heap = H := by rw [← hU]; exact hT
  have hstep : ∀ target, Steps p.tables e below (doInvoke e (U.setTop (F0 m pc ls rest)) [] mk av.toArray).1 target → Steps p.tables e below (T.setTop (F0 m pc ls st0)) target := hstep
  obtain ⟨g, hgd⟩ : ∃ z, z = F0 m pc ls rest := ⟨_, rfl⟩
  have hgm : g.method = m := by rw [hgd]
  have hgl : g.locals.size = c.maxLocals := by rw [hgd]; exact hsize
  have hgp : g.pc = pc := by rw [hgd]
  have hgs : 2 * g.monitorRoom + (g.stack.map fun v => v.category).sum ≤ 8 := by
    rw [hgd]
    show 2 * 0 + (rest.map fun v => v.category).sum ≤ 8
    omega
  rw [← hgd] at hstep
  have hEU : os_EV D cA bs U := hE.moved X₁.warmed (by rw [hUh]; exact hV.2.2.1) (fun q hq => by rw [hUh]; exact hV.low hE.2.2.1 q hq)
  have h1 : (headSpec [Cond.codeWith y b nL' ret' tab] rm').pre.before av.toArray U = true := atoms_intro fun w hw => by
    rw [List.mem_singleton] at hw
    subst hw
    exact hEU.hts _ hcode
  have h2 : (Cond.codeWith y b nL' ret' tab).before av.toArray U = true := hEU.hts _ hcode
  have h3 : (Cond.initialized y.cls).before av.toArray U = true := hEU.hts _ hini
  obtain ⟨m9, methY, cY, hn9, hmY, hcY, -, hlY, -, -, -, -⟩ := Cond.codeWith_spec h2
  cases hn.symm.trans hn9
  obtain ⟨kY, hkY, -⟩ := className_of_methodNamed hn
  have hinitY : kY.init = .initialized := Cond.initialized_spec (findClass_of_methodNamed hn) hkY h3
  have h : At U g.method c below := by rw [hgm]; exact X₁.here
  have hdg' : decode c.code g.pc = .ok (ig, 3) := by rw [hgp]; exact hdg
  have happ : (headSpec [Cond.codeWith y b nL' ret' tab] rm').appliesLoose y e.platform (U.calling g mk av.toArray) = true :=
    Spec.appliesLoose_calling (g := g) h hdg' hn hkY hinitY
      (X₁.room_calling (g := g) (R' := (headSpec [Cond.codeWith y b nL' ret' tab] rm').room) hgl hmY hcY hf (by rw [hlY]; show _ + rm'.locals ≤ R.locals; omega) hcc hss) h1
  obtain ⟨mid, hmid⟩ := h.above
  have hfr : (U.setTop g).frames = (.java g :: mid) ++ below := by rw [State.frames_setTop' g h.top, hmid]; rfl
  have hEc : os_EV D cA bs (U.calling g mk av.toArray) := hEU.moved (U := U.calling g mk av.toArray) (State.WarmedH.refl U) (Nat.le_refl _) (fun _ _ => rfl)
  have hNc : os_NC (U.calling g mk av.toArray) := (hN.moved X₁.warmed.alike).moved (Vm.Alike.refl _)
  have hWc : os_W D cA bs σ ad (U.calling g mk av.toArray).heap := by
    show os_W D cA bs σ ad U.heap
    rw [hUh]; exact hV.1
  obtain ⟨o, s₂, hsteps, -, hend, hq⟩ := Steps.callFree hM p X₁.admits X₁.cas X₁.clock (acts := []) hfr happ ⟨rfl, hEc, hNc, hWc⟩ trivial
  have hq' : os_Q D cA bs σ ad rm' Post' (U.calling g mk av.toArray) o s₂ := hq
  rw [State.frames_setTop' g h.top] at hend
  obtain ⟨g₀, hg0⟩ := Option.isSome_iff_exists.mp h.top
  obtain ⟨r, hr⟩ := State.topJava?_eq_some.mp hg0
  have hr' : (({ U with heap := s₂.heap, slotsUsed := s₂.slotsUsed } : State).setVm s₂.vm).frames = .java g₀ :: r := hr
  obtain ⟨ro, σ', ad', hres, hpost, hW', hext, hW₂, L, hsm, hL⟩ := hq'
  have hext' : os_ext σ ad σ' ad' H.size := by rw [← hUh]; exact hext
  have hWs : U.WarmedH s₂.vm := hW₂
  obtain ⟨fr1, fr2⟩ := os_frame hsm
  have fr1 : U.heap.size ≤ s₂.heap.size := fr1
  have fr2 : ∀ q : Nat, q < U.heap.size → (∀ z ∈ L, z.base ≠ q) → s₂.heap[q]? = U.heap[q]? := fr2
  obtain ⟨e2, q2, q3, q4, q5, q6⟩ := id hsm
  have e3 : s₂ = ({ (U.calling g mk av.toArray).setFrames s₂.frames with heap := s₂.heap, slotsUsed := s₂.slotsUsed } : State).setVm s₂.vm := by
    have : s₂ = ({ s₂ with vm := (U.calling g mk av.toArray).vm } : State).setVm s₂.vm := rfl
    rw [e2] at this
    exact this
  have hsame : U.sameButNew ({ U with heap := s₂.heap, slotsUsed := s₂.slotsUsed } : State) L rm'.cells rm'.slots := by
    refine ⟨?_, q2, q3, q4, q5, q6⟩
    obtain ⟨t, ht, -⟩ := State.frames_cons hr
    show ({ U with heap := s₂.heap, slotsUsed := s₂.slotsUsed } : State) = { U.setFrames U.frames with heap := s₂.heap, slotsUsed := s₂.slotsUsed }
    rw [State.setFrames_self ht]
  have XB : Stand p l e R s m args below meth c (({ U with heap := s₂.heap, slotsUsed := s₂.slotsUsed } : State).setVm s₂.vm) (locs ++ L) (cells + rm'.cells) (slots + rm'.slots) :=
    ⟨X₁.admits, X₁.cas, X₁.clock, X₁.frames, X₁.room, X₁.hears, X₁.method, X₁.code, (X₁.here.setHeapUsed s₂.heap s₂.slotsUsed).setVm hWs.alike, X₁.tail, State.WarmedH.trans X₁.warmed hWs, X₁.limits, X₁.bytes, X₁.same.trans (hsame.setVm s.vm)⟩
  have hA1 : ∀ q, os_A σ ad U.heap.size q → os_A σ0 ad0 s.heap.size q := fun q hq => hV.2.1.A (by rw [hUh]; exact hV.2.2.1) hq
  have hV' : os_V D cA bs σ0 ad0 s σ' ad' s₂.heap (locs ++ L) := by
    refine ⟨hW', hV.2.1.trans hext' hV.2.2.1, Nat.le_trans hV.2.2.1 (by rw [← hUh]; exact fr1), fun q h1 h2 => ?_, fun q hq => ?_⟩
    · rw [fr2 q (by rw [hUh]; exact Nat.lt_of_lt_of_le h1 hV.2.2.1) (fun z hz hzq => h2 (by rw [← hzq]; exact hA1 _ (hL z hz))), hUh]
      exact hV.2.2.2.1 q h1 h2
    · rcases List.mem_append.mp hq with h | h
      · exact hV.2.2.2.2 q h
      · exact hA1 _ (hL q h)
  cases ro with
  | inl v =>
    have ho : o = .returned v := hres
    subst ho
    obtain ⟨c₂, i₂, len₂, hc₂, hd₂, hf₂⟩ := hend
    have hccq : c₂ = c := by
      have h1 : s₂.code? g.method = U.code? g.method := by
        rw [State.code?_eq, State.code?_eq, hWs.alike.method?]
      exact Option.some.inj (hc₂.symm.trans (h1.trans h.code))
    subst hccq
    have hlen : len₂ = 3 := by rw [hdg'] at hd₂; cases hd₂; rfl
    subst hlen
    have hs₂ : s₂ = (({ U with heap := s₂.heap, slotsUsed := s₂.slotsUsed } : State).setVm s₂.vm).setTop { g with pc := g.pc + 3, stack := v.toList ++ g.stack } := by
      refine e3.trans ?_
      rw [hf₂, State.calling_eq h.top, State.setFrames_setFrames, State.setTop_of_frames _ hr', hr]
      rfl
    obtain ⟨t2, a1, b1⟩ := kr v σ' ad' s₂.heap (locs ++ L) hpost hext' hV' (({ U with heap := s₂.heap, slotsUsed := s₂.slotsUsed } : State).setVm s₂.vm) rfl XB
    refine ⟨t2, hstep t2 ?_, b1⟩
    refine hsteps.trans ?_
    rw [hs₂]
    rw [hgd]
    exact a1
  | inr E =>
    obtain ⟨q, ce, ho, hce, hcv, hcl⟩ := hres
    subst ho
    have hf₂ : s₂.frames = .throwing q :: .java g :: U.frames.tail := hend
    have hs₂ : s₂ = ((({ U with heap := s₂.heap, slotsUsed := s₂.slotsUsed } : State).setVm s₂.vm).setTop g).pushFrame (.throwing q) := by
      refine e3.trans ?_
      rw [hf₂, State.calling_eq h.top, State.setFrames_setFrames, State.pushFrame, State.frames_setTop _ hr', State.setTop_of_frames _ hr', State.setFrames_setFrames, hr]
      rfl
    have hcl' : s.vm.findClass E = some ce.cls := by
      have h9 : U.vm.findClass E = some ce.cls := hcl
      rw [X₁.warmed.alike.findClass] at h9
      exact h9
    obtain ⟨t2, a1, b1⟩ := kx E q ce σ' ad' s₂.heap (locs ++ L) hpost hext' hV' hce hcv hcl' (({ U with heap := s₂.heap, slotsUsed := s₂.slotsUsed } : State).setVm s₂.vm) rfl XB
    refine ⟨t2, hstep t2 ?_, b1⟩
    refine hsteps.trans ?_
    rw [hs₂]
    rw [hgd]
    exact a1
theorem os_inSW {own : String} {index : Nat} {y : MethodName} {bytes : ByteArray} {maxL : Nat} {ret : Option FieldType} {tab : List (Nat × Nat × Nat × Nat)} {As : List Value} {n : Nat} (hx : p.tables.exec = Jvm.exec) (hb : c.code = cc) (hown : s.vm.findClass own = some m.cls)
    (hlink : (Cond.methodLink own index y).before args s = true) (hstat : (Cond.static y).before args s = true) (hinit : (Cond.initialized y.cls).before args s = true) (hcode : (Cond.codeWith y bytes maxL ret tab).before args s = true)
    (hy : y.cls ≠ "java/lang/invoke/MethodHandle" ∧ y.cls ≠ "java/lang/invoke/VarHandle" ∧ (parseMethodDescriptor y.desc).map (fun d => d.parameters.length) = some n) (hn : As.length = n)
    (hst : st0 = As.reverse ++ rest) (hdg : decode cc pc = .ok (.invokestatic index, 3)) :
    os_In p l e R s m args below meth c H locs cells slots (F0 m pc ls st0) rest y As := by
  intro T hT X
  obtain ⟨mk, methM, cM, hnamed, hmethM, -, -, -, -, -, -, hsigM⟩ := Cond.codeWith_spec hcode
  have hstatic : methM.isStatic = true := Cond.static_spec hnamed hmethM hstat
  obtain ⟨kP, hkP, -⟩ := className_of_methodNamed hnamed
  have hinitP : kP.init = .initialized := Cond.initialized_spec (findClass_of_methodNamed hnamed) hkP hinit
  have hlen : As.length = methM.sig.parameters.length := by
    have h2 := hy.2.2
    rw [hsigM] at h2
    exact hn.trans (Option.some.inj h2).symm
  obtain ⟨vm₁, X₁, hstep₁⟩ := X.invokestatic hx hown hlink hnamed hmethM hstatic hkP hinitP ⟨hy.1, hy.2.1⟩ (g := F0 m pc ls st0) rfl (argsL := As) (rest := rest) hlen hst (by rw [hb]; exact hdg)
  exact ⟨vm₁, mk, _, X₁, X₁.named hnamed, by rw [hb]; exact hdg, fun target h => hstep₁ _ fun acts => by rw [doInvoke_state]; exact h⟩
theorem W.lcmpE {a : Int64} (hx : p.tables.exec = Jvm.exec) (hb : c.code = cc) (hdg : decode cc pc = .ok (.lcmp, 1)) (kk : W p l e R s m args below meth c H locs cells slots Q (F0 m (pc + 1) ls (.int 0 :: rest))) : W p l e R s m args below meth c H locs cells slots Q (F0 m pc ls (.long a :: .long a :: rest)) := fun T hT X => by
  obtain ⟨t, h1, h2⟩ := kk T hT X
  refine ⟨t, ?_, h2⟩
  have hdg' : decode c.code pc = .ok (.lcmp, 1) := by rw [hb]; exact hdg
  jvm_step X.here [X.here.top, hx, hdg']
  exact h1
end OSH
