/-! CONTRACTS OVER THE STORE: a method returns or throws -/
/-- how a method ended: with a value or nothing, or with an exception of a class -/
abbrev os_O : Type := Option Value ⊕ String
def os_res (st : State) (o : Outcome) (t : State) (r : os_O) : Prop := match r with
  | .inl v => o = .returned v
  | .inr E => ∃ (q : Addr) (ce : Cell), o = .threw q ∧ t.heap[q]? = some ce ∧ ce.vm = .none ∧ st.vm.findClass E = some ce.cls
def os_Q (D : va_G) (cA : Nat → ClassId) (bs : Nat) (σ : os_S) (ad : Nat → Nat → Nat) (rm : Room) (Post : os_O → os_S → (Nat → Nat → Nat) → Prop) (st : State) (o : Outcome) (t : State) : Prop :=
  ∃ (r : os_O) (σ' : os_S) (ad' : Nat → Nat → Nat), os_res st o t r ∧ Post r σ' ad' ∧ os_W D cA bs σ' ad' t.heap ∧ os_ext σ ad σ' ad' st.heap.size ∧ st.WarmedH t.vm ∧
    ∃ L, st.sameButNew ({ t with vm := st.vm } : State) L rm.cells rm.slots ∧ ∀ q ∈ L, os_A σ ad st.heap.size q.base
def os_Met (l : Launch) (y : MethodName) (b : ByteArray) (nL : Nat) (ret : Option FieldType) (rm : Room) (D : va_G) (cA : Nat → ClassId) (bs : Nat) (av : List Value) (σ : os_S) (ad : Nat → Nat → Nat) (Post : os_O → os_S → (Nat → Nat → Nat) → Prop) : Prop :=
  MetFree l y (headSpec [Cond.code y b nL ret] rm) (fun args U => args = av.toArray ∧ os_EV D cA bs U ∧ os_W D cA bs σ ad U.heap) (fun _ _ _ _ _ => True) (fun _ st o t => os_Q D cA bs σ ad rm Post st o t)
def os_End (D : va_G) (cA : Nat → ClassId) (bs : Nat) (below : List Frame) (s : State) (σ0 : os_S) (ad0 : Nat → Nat → Nat) (rm : Room) (Post : os_O → os_S → (Nat → Nat → Nat) → Prop) : State → Prop := fun t =>
  ∃ o, t.status = .running ∧ Ended t below o ∧ os_Q D cA bs σ0 ad0 rm Post s o t
theorem os_frame {s U : State} {locs : List Loc} {k n : Nat} (h : s.sameButNew ({ U with vm := s.vm } : State) locs k n) : s.heap.size ≤ U.heap.size ∧ ∀ q : Nat, q < s.heap.size → (∀ z ∈ locs, z.base ≠ q) → U.heap[q]? = s.heap[q]? := by
  obtain ⟨-, h2, -, -, -, h6⟩ := h
  refine ⟨h2, fun q hq hz => ?_⟩
  obtain ⟨c9, e1, e2, e3, e4⟩ := h6 q _ (Array.getElem?_eq_getElem hq)
  have hs : c9.slots = (s.heap[q]).slots := Array.ext_getElem? fun i => e4 i fun hm => hz _ hm rfl
  have h9 : c9 = s.heap[q] := by
    rw [hs] at e2
    exact e2
  have e5 : U.heap[q]? = some c9 := e1
  rw [e5, h9, Array.getElem?_eq_getElem hq]
theorem os_L.moved {C n d : String} {bs : Nat} {u U : State} (hvm : u.vm.Alike U.vm) (hh : ∀ q : Nat, q < bs → U.heap[q]? = u.heap[q]?) (h : os_L C n d bs u) : os_L C n d bs U := by
  obtain ⟨c, k, i, f, a, cell, v, h1, h2, h3, h4, h5, h6, h7, h8, h9, h10, h11, h12⟩ := h
  obtain ⟨k', hi', he⟩ := State.fieldFound?_setVm hvm h2
  exact ⟨c, k', i, f, a, cell, v, by rw [hvm.findClass]; exact h1, hi', h3, by rw [he]; exact h4, by rw [hh a h10]; exact h5, h6, h7, h8, by rw [he]; exact h9, h10, h11, h12⟩
theorem os_L.lays {C n d : String} {bs : Nat} {s : State} {args : Array Value} (h : os_L C n d bs s) : (Cond.laysStatic C n d).before args s = true := by
  obtain ⟨c, k, i, f, a, cell, v, h1, h2, h3, h4, h5, h6, h7, h8, h9, -⟩ := h
  show (Cond.laysStatic C n d).holds args s none s [] = true
  exact Cond.laysStatic_of h1 h2 h3 h4 h5 h6 h7 h8 h9
theorem os_L.isRef {C n d : String} {bs : Nat} {s : State} {args : Array Value} (h : os_L C n d bs s) : (Cond.isRef (.static C n d)).before args s = true := by
  obtain ⟨c, k, i, f, a, cell, v, h1, h2, h3, h4, h5, h6, h7, h8, h9, h10, h11, h12⟩ := h
  have he : (Term.static C n d).eval args s none [] s = some v := by
    simp [Term.eval, State.fieldNamed?, h2, h3, h4, h5, h6, h11]
  simp only [Cond.before, Cond.holds, Cond.value, he]
  cases v <;> simp_all [Value.isRef]
theorem os_okw {w : Cond} (h : os_ok w = true) {a a' : Array Value} {s U : State} (hW : s.WarmedH U.vm) (hb : w.before a s = true) : w.before a' U = true := by
  unfold os_ok at h
  rw [Bool.or_eq_true] at h
  rcases h with h | h
  · exact word_at hW (good_of_word h) hb
  · cases w with
    | fieldLinkNest x i b n d z => exact va_Nw.use rfl (va_Nw.warmF hW (va_Nw.of rfl hb))
    | methodLinkNest x i b z => exact va_Nw.use rfl (va_Nw.warmM hW (va_Nw.of rfl hb))
    | castable x y => exact va_Nw.use rfl (va_Nw.warmC hW (va_Nw.of rfl hb))
    | declares x => exact va_Nw.use rfl (va_Nw.warmD hW (va_Nw.of rfl hb))
    | arrayOver t =>
      cases t with
      | object C => exact va_AO.use (va_AO.moved hW.alike (va_AO.of hb))
      | _ => simp at h
    | _ => simp at h
theorem os_EV.moved {D : va_G} {cA : Nat → ClassId} {bs : Nat} {u U : State} (h : os_EV D cA bs u) (hW : u.WarmedH U.vm) (hz : u.heap.size ≤ U.heap.size) (hh : ∀ q : Nat, q < bs → U.heap[q]? = u.heap[q]?) : os_EV D cA bs U := by
  obtain ⟨h1, h2, h3, h4, h5, h6⟩ := h
  refine ⟨fun w hw => os_okw (os_tb_ok w hw) hW (h1 w hw), va_K.moved hW.alike h2, Nat.le_trans h3 hz, h4.moved hW.alike hh, h5.moved hW.alike hh, fun q hq => ?_⟩
  obtain ⟨a, ha⟩ := h6 q hq
  exact ⟨a, vk_R.warm hW ha⟩
theorem os_EV.hts {D : va_G} {cA : Nat → ClassId} {bs : Nat} {u : State} (h : os_EV D cA bs u) {args : Array Value} : ∀ w ∈ os_tb, w.before args u = true := fun w hw => os_okw (os_tb_ok w hw) (State.WarmedH.refl u) (h.1 w hw)
theorem os_V.rf {D : va_G} {cA : Nat → ClassId} {bs : Nat} {s : State} {σ : os_S} {ad : Nat → Nat → Nat} (h : os_W D cA bs σ ad s.heap) : os_V D cA bs σ ad s σ ad s.heap [] := ⟨h, os_ext.rf, va_S.rf⟩
/-- the cells below bs stay -/
theorem os_V.low {D : va_G} {cA : Nat → ClassId} {bs : Nat} {s : State} {σ σ0 : os_S} {ad ad0 : Nat → Nat → Nat} {H : Heap} {locs : List Loc} (hV : os_V D cA bs σ0 ad0 s σ ad H locs) (hb : bs ≤ s.heap.size) : ∀ q : Nat, q < bs → H[q]? = s.heap[q]? := by
  intro q hq
  refine hV.2.2.2.1 q (Nat.lt_of_lt_of_le hq hb) (fun hA => ?_)
  rcases hA with ⟨K, i, hi, rfl⟩ | hA
  · have h1 := hV.2.1.2.1 K i hi
    have h2 := hV.1.2.2.2 K i (Nat.lt_of_lt_of_le hi (hV.2.1.1 K))
    omega
  · omega
section OSB
variable {l : Launch}
theorem os_ofW {y : MethodName} {rm : Room} {D : va_G} {cA : Nat → ClassId} {bs : Nat} {av : List Value} {σ : os_S} {ad : Nat → Nat → Nat} {Post : os_O → os_S → (Nat → Nat → Nat) → Prop} {cc : ByteArray} {maxL : Nat} {ret : Option FieldType}
    (hy : plainName y.cls = true)
    (body : ∀ p e s m below meth c, p.tables.exec = Jvm.exec → c.code = cc → meth.sig.returnType = ret → c.maxLocals = maxL → s.vm.findClass y.cls = some m.cls → meth.locks = false → meth.name = y.name → (∀ x ∈ c.exceptionTable.toList, False) → os_EV D cA bs s → os_V D cA bs σ ad s σ ad s.heap [] →
      W p l e rm s m av.toArray below meth c s.heap [] 0 0 (os_End D cA bs below s σ ad rm Post) (entryFrame m av.toArray maxL)) : os_Met l y cc maxL ret rm D cA bs av σ ad Post := by
  refine MetFree.of_bodyS (code := cc) (maxLocals := maxL) (ret := ret) hy ?_ ?_
  · intro args s m h hn
    obtain ⟨meth, c, h1, h2, h3, h4, h5, h6, -, -⟩ := Cond.code_spec hn (atoms_spec (ws := [Cond.code y cc maxL ret]) h _ List.mem_cons_self)
    exact ⟨meth, c, h1, h2, h3, h4, h5, h6⟩
  · intro p e s m args below meth c s₁ B hml hP _
    obtain ⟨rfl, hE, hW⟩ := hP
    have hh0 : s₁.heap = s.heap := by rw [B.state]; rfl
    have ht : ∀ x ∈ c.exceptionTable.toList, False := by
      obtain ⟨meth9, c9, h1, h2, -, -, -, -, h7, -⟩ := Cond.code_spec B.named (atoms_spec (ws := [Cond.code y cc maxL ret]) B.pre _ List.mem_cons_self)
      cases Option.some.inj (h1.symm.trans B.method)
      cases Option.some.inj (h2.symm.trans (Stand.of_body B).code)
      intro x hx
      rw [Array.isEmpty_iff.mp h7] at hx
      cases hx
    obtain ⟨t, a1, o, b1, b2, b3⟩ := body p e s m below meth c B.exec B.bytes B.returns hml (findClass_of_methodNamed B.named) B.notSynchronized (name_of_methodNamed B.named B.method).1 ht hE (os_V.rf hW) s₁ hh0 (Stand.of_body B)
    exact ⟨t, o, a1, b1, b2, b3⟩
end OSB
section OSC
variable {p : Program} {l : Launch} {e : Env} {R : Room} {s : State} {m : MethodId} {args : Array Value} {below : List Frame} {meth : Method} {c : Code} {H : Heap} {locs : List Loc} {cells slots : Nat} {Q : State → Prop}
variable {cc : ByteArray} {pc : Nat} {ls : Array Slot} {rest st0 : List Value} {D : va_G} {cA : Nat → ClassId} {bs : Nat} {σ σ0 : os_S} {ad ad0 : Nat → Nat → Nat}
variable {rm : Room} {Post : os_O → os_S → (Nat → Nat → Nat) → Prop}
/-- the ends -/
theorem os_fin {v : Option Value} {g : JFrame} (hV : os_V D cA bs σ0 ad0 s σ ad H locs) (hp : Post (.inl v) σ ad) (hc : cells ≤ rm.cells) (hs : slots ≤ rm.slots)
    (k : W p l e R s m args below meth c H locs cells slots (MQ below (fun _ st o t => o = .returned v ∧ t.heap = H ∧ st.WarmedH t.vm) args s cells slots (os_A σ0 ad0 s.heap.size)) g) : W p l e R s m args below meth c H locs cells slots (os_End D cA bs below s σ0 ad0 rm Post) g := by
  intro T hT X
  obtain ⟨t, a1, o, b1, b2, ⟨rfl, b4, b5⟩, L, b6, b7⟩ := k T hT X
  exact ⟨t, a1, _, b1, b2, .inl v, σ, ad, rfl, hp, by rw [b4]; exact hV.1, hV.2.1, b5, L, b6.2.2.mono hc hs, b7⟩
theorem os_iret {v : Int32} (hx : p.tables.exec = Jvm.exec) (hb : c.code = cc) (hr : meth.sig.returnType = some .int) (hlocks : meth.locks = false) (hV : os_V D cA bs σ0 ad0 s σ ad H locs) (hc : cells ≤ rm.cells) (hs : slots ≤ rm.slots) (hdg : decode cc pc = .ok (.ireturn, 1)) (hp : Post (.inl (some (.int v))) σ ad) : W p l e R s m args below meth c H locs cells slots (os_End D cA bs below s σ0 ad0 rm Post) (F0 m pc ls [.int v]) :=
  os_fin hV hp hc hs (W.iret hx hb hr (fun t h1 h2 => ⟨rfl, h1, h2⟩) hV.2.2.2.2 hdg hlocks)
theorem os_zret {v : Int32} {ty : FieldType} (hx : p.tables.exec = Jvm.exec) (hb : c.code = cc) (hr : meth.sig.returnType = some ty) (hn : narrow ty (.int v) = .int v) (hlocks : meth.locks = false) (hV : os_V D cA bs σ0 ad0 s σ ad H locs) (hc : cells ≤ rm.cells) (hs : slots ≤ rm.slots) (hdg : decode cc pc = .ok (.ireturn, 1)) (hp : Post (.inl (some (.int v))) σ ad) : W p l e R s m args below meth c H locs cells slots (os_End D cA bs below s σ0 ad0 rm Post) (F0 m pc ls [.int v]) :=
  os_fin hV hp hc hs (W.zret hx hb hr hn (fun t h1 h2 => ⟨rfl, h1, h2⟩) hV.2.2.2.2 hdg hlocks)
theorem os_vret (hx : p.tables.exec = Jvm.exec) (hb : c.code = cc) (hr : meth.sig.returnType = none) (hlocks : meth.locks = false) (hV : os_V D cA bs σ0 ad0 s σ ad H locs) (hc : cells ≤ rm.cells) (hs : slots ≤ rm.slots) (hdg : decode cc pc = .ok (.return_, 1)) (hp : Post (.inl none) σ ad) : W p l e R s m args below meth c H locs cells slots (os_End D cA bs below s σ0 ad0 rm Post) (F0 m pc ls []) :=
  os_fin hV hp hc hs (W.vret hx hb hr (fun t h1 h2 => ⟨rfl, h1, h2⟩) hV.2.2.2.2 hdg hlocks)
theorem os_aret {v : Value} {rt : FieldType} (hx : p.tables.exec = Jvm.exec) (hb : c.code = cc) (hr : meth.sig.returnType = some rt) (hrt : (∃ n, rt = .object n) ∨ ∃ t, rt = .array t) (hv : v = .null ∨ ∃ a, v = .ref a) (hlocks : meth.locks = false) (hV : os_V D cA bs σ0 ad0 s σ ad H locs) (hc : cells ≤ rm.cells) (hs : slots ≤ rm.slots) (hdg : decode cc pc = .ok (.areturn, 1)) (hp : Post (.inl (some v)) σ ad) : W p l e R s m args below meth c H locs cells slots (os_End D cA bs below s σ0 ad0 rm Post) (F0 m pc ls [v]) :=
  os_fin hV hp hc hs (W.aret hx hb hr hrt hv (fun t h1 h2 => ⟨rfl, h1, h2⟩) hV.2.2.2.2 hdg hlocks)
end OSC
