-- contracts of methods that end by a throw: what they say, how they are walked, how a caller with a handler goes on
def tm_Th (X : String) (st : State) (o : Outcome) (t : State) : Prop := ∃ (x : Addr) (cell : Cell), o = .threw x ∧ st.heap.size ≤ x ∧ t.heap[x]? = some cell ∧ cell.vm.isStatics = false ∧ st.vm.findClass X = some cell.cls ∧ st.vm.assignable cell.cls cell.cls = true
def tm_End (st : State) (t : State) (k n : Nat) : Prop := st.WarmedH t.vm ∧ st.sameButNew ({ t with vm := st.vm } : State) [] k n
def tm_Met (l : Launch) (y : MethodName) (ws : List Cond) (rm : Room) (Pc : Array Value → State → Prop) (X : String) (k n : Nat) : Prop :=
  MetFree l y (headSpec ws rm) Pc (fun _ _ _ _ _ => True) (fun _ st o t => tm_Th X st o t ∧ tm_End st t k n)
def tm_Q (below : List Frame) (X : String) (s : State) (k n : Nat) : State → Prop := fun t => ∃ o, t.status = .running ∧ Ended t below o ∧ tm_Th X s o t ∧ tm_End s t k n
/-- nothing old has changed -/
theorem tm_old {s u : State} {k n : Nat} (h : s.sameButNew u [] k n) {q : Nat} (hq : q < s.heap.size) : u.heap[q]? = s.heap[q]? := by
  obtain ⟨c1, h1, h2, h3, h4⟩ := h.2.2.2.2.2 q _ (Array.getElem?_eq_getElem hq)
  rw [h1, Array.getElem?_eq_getElem hq, h2]
  have e : c1.slots = (s.heap[q]).slots := by
    apply Array.ext_getElem?
    intro i
    exact h4 i (by simp)
  rw [e]
theorem tm_ofW {l : Launch} {y : MethodName} {ws ws' : List Cond} {rm : Room} {Pc : Array Value → State → Prop} {X : String} {mc ms : Nat} {cc : ByteArray} {maxL : Nat} {ret : Option FieldType}
    (hy : plainName y.cls = true) (hw : ws = Cond.code y cc maxL ret :: ws')
    (body : ∀ p e s m args below meth c s₁, BodyLoose p l y (headSpec ws rm) cc maxL ret e s m args below meth c s₁ → c.maxLocals = maxL → Pc args s →
      W p l e (headSpec ws rm).room s m args below meth c s.heap [] 0 0 (tm_Q below X s mc ms) (entryFrame m args maxL)) : tm_Met l y ws rm Pc X mc ms := by
  refine MetFree.of_bodyS (code := cc) (maxLocals := maxL) (ret := ret) hy ?_ ?_
  · intro args s m h hn
    obtain ⟨meth, c, h1, h2, h3, h4, h5, h6, -, -⟩ := Cond.code_spec hn (atoms_spec (ws := ws) h _ (by rw [hw]; exact List.mem_cons_self))
    exact ⟨meth, c, h1, h2, h3, h4, h5, h6⟩
  · intro p e s m args below meth c s₁ B hml hP _
    have hh0 : s₁.heap = s.heap := by rw [B.state]; rfl
    obtain ⟨t, a1, o, b1, b2, b3⟩ := body p e s m args below meth c s₁ B hml hP s₁ hh0 (Stand.of_body B)
    exact ⟨t, o, a1, b1, b2, b3⟩
section TMW
variable {p : Program} {l : Launch} {e : Env} {R : Room} {s : State} {m : MethodId} {args : Array Value} {below : List Frame} {meth : Method} {c : Code} {H : Heap} {locs : List Loc} {cells slots : Nat} {Q : State → Prop}
/-- new X; dup; invokespecial X.<init>(); athrow: in a method without handlers, where nothing has been written yet -/
theorem tm_throwNew {cc : ByteArray} {pc : Nat} {ls : Array Slot} {rest : List Value} (hexec : p.tables.exec = Jvm.exec) (hb : c.code = cc) (htr : e.platform.stackTraces = false) {own X : String} {names : List String} {i0 ic : Nat}
    (hown : s.vm.findClass own = some m.cls) (hX : Bundle.fit X = true) (hns : ∀ n ∈ names, Bundle.fit n = true) (hw : ∀ w ∈ Bundle.ownAtoms0 own ic X names, w.before args s = true)
    (hcl : (Cond.classLink own i0 X).before args s = true) (hini : (Cond.initialized X).before args s = true)
    (hls : ls.size = c.maxLocals) (hd0 : decode cc pc = .ok (.new i0, 3)) (hd3 : decode cc (pc + 3) = .ok (.dup, 1)) (hd4 : decode cc (pc + 4) = .ok (.invokespecial ic, 3)) (hd7 : decode cc (pc + 7) = .ok (.athrow, 1))
    (hne : c.exceptionTable.isEmpty = true) (hlocks : meth.locks = false) (hrf : names.length + 3 < R.frames)
    (hrl : 2 * (F0 m (pc + 4) ls (.ref s.heap.size :: .ref s.heap.size :: rest)).monitorRoom + ((Value.ref s.heap.size :: rest).map fun v => v.category).sum + (13 * (names.length + 1) + 41) ≤ R.locals)
    (hrc : 1 ≤ R.cells) (hrs : 6 ≤ R.slots) : W p l e R s m args below meth c s.heap [] 0 0 (tm_Q below X s 1 6) (F0 m pc ls rest) := by
  have hins : (Cond.instantiable X 6).before args s = true := hw _ (by simp [Bundle.ownAtoms0])
  refine W.newc hexec hb hown hcl hins hini rfl hd0 (by omega) (by omega) (fun cC kC h1 h2 h3 h4 => ?_)
  refine W.eq (g2 := F0 m (pc + 3) ls (.ref s.heap.size :: rest)) rfl ?_
  refine lv_dup hexec hb hd3 rfl ?_
  intro T hT Xs
  have hcell : T.heap[s.heap.size]? = some (freshCell cC kC) := by rw [hT]; simp
  have hout : ∀ x ∈ c.exceptionTable.toList, covers x (pc + 4 + 3) = false := by
    intro x hx
    have h0 : c.exceptionTable = #[] := by simpa using hne
    rw [h0] at hx
    simp at hx
  obtain ⟨U, hst, hrun, hend, hWU, hsame, ce, hce, ho⟩ := Xs.ctorThrow0 hexec htr hown hX hns hw (fun x hx => by cases hx) h1 h2 hcell (Nat.le_refl _)
    (g := F0 m (pc + 4) ls (.ref s.heap.size :: .ref s.heap.size :: rest)) rfl hls rfl rfl (rest := rest) rfl (by rw [hb]; exact hd4) (by rw [hb]; exact hd7) hout hrf hrl hlocks
  exact ⟨U, hst, .threw s.heap.size, hrun, hend, ⟨s.heap.size, ce, rfl, Nat.le_refl _, hce, by rw [ho.vm]; rfl, ho.cls, ho.self⟩, hWU, hsame⟩
end TMW
theorem tm_step {e : Env} {u : State} {a : Addr} {f : JFrame} {r : List Frame} {pc : Nat} {vm' : Vm} (hfind : ∀ (Q : Handler → Pre) (E : CtlPost) (d : Bool) (acts : List Action), wp (findHandler f a) Q E e d acts u ↔ Q (.found pc) d acts (u.setVm vm')) :
    (stepThrowing e u a (.java f :: r)).1 = (u.setVm vm').setFrames (.java { f with pc := pc, stack := [.ref a] } :: r) := by
  simp only [stepThrowing, searchFrame, vmDo]
  generalize hr : Sem.go _ e false [] u = res
  obtain ⟨as, rfl, ha⟩ := Sem.eq_ok_of hr (a := Handler.found pc) (s' := u.setVm vm') (acts' := []) (by simp [hfind _ _ _ _])
  rfl
theorem tm_frames (u : State) (vm' : Vm) (F G : List Frame) : ((u.setFrames F).setVm vm').setFrames G = (u.setVm vm').setFrames G := by
  have h1 : (u.setFrames F).setVm vm' = (u.setVm vm').setFrames F := rfl
  rw [h1, State.setFrames_setFrames]
section TMC
variable {p : Program} {l : Launch} {e : Env} {R : Room} {s : State} {m : MethodId} {args : Array Value} {below : List Frame} {meth : Method} {c : Code} {T : State} {locs : List Loc} {cells slots : Nat}
/-- one row of the table, which covers the place and whose type may still be open -/
theorem tm_find {u : State} {f : JFrame} {a : Addr} {mt : Method} {cd : Code} (hm : u.vm.method? f.method = some mt) (hc : mt.code = some cd) {x : ExceptionTableEntry} (htab : cd.exceptionTable.toList = [x])
    (hx : covers x f.pc = true) (h0 : x.catchType ≠ 0) {t : ClassId} {cell : Cell} (hl : u.vm.ClassLinks e.platform f.method.cls x.catchType t) (hcell : u.heap[a]? = some cell) (hobj : ∀ k, cell.vm ≠ .statics k)
    (hk : ∃ k, u.vm.classes[cell.cls]? = some k) (ht : ∃ k, u.vm.classes[t]? = some k) (hfit : u.vm.assignable cell.cls t = true) (Q : Handler → Pre) (E : CtlPost) (d : Bool) (acts : List Action) :
    wp (findHandler f a) Q E e d acts u ↔ Q (.found x.handlerPc) d acts (u.setVm (u.vm.noted f.method.cls x.catchType (.cls t))) := by
  rw [Jvm.W.findHandler_eq hm hc, htab]
  simp only [covers] at hx
  obtain ⟨ha, hb⟩ := (resolveClass_links e.toSetting hl).op (op := VmOp.resolveClass f.method.cls x.catchType) rfl
  have hal : u.vm.Alike (u.vm.noted f.method.cls x.catchType (.cls t)) := (Vm.Alike.refl u.vm).noted _ _ _
  obtain ⟨k1, hk1⟩ := hk
  obtain ⟨k2, hk2⟩ := ht
  obtain ⟨k3, hk3, -⟩ := hal.2.2 _ _ hk1
  obtain ⟨k4, hk4, -⟩ := hal.2.2 _ _ hk2
  have hf2 : (u.vm.noted f.method.cls x.catchType (.cls t)).assignable cell.cls t = true := by rw [hal.assignable]; exact hfit
  simp [findHandler.go, hx, h0, ha, hb, hcell, hobj, hk3, hk4, hf2, VmOp.dirties, VmOp.acts]
theorem tm_caught (X : Stand p l e R s m args below meth c T locs cells slots) (a : Addr) {g : JFrame} (hg : g.method = m) {own N : String} (hown : s.vm.findClass own = some m.cls) {x : ExceptionTableEntry} (htab : c.exceptionTable.toList = [x])
    (hx : covers x g.pc = true) (h0 : x.catchType ≠ 0) (hlink : (Cond.classLink own x.catchType N).before args s = true) {cell : Cell} (hcT : s.vm.findClass N = some cell.cls) (hcell : T.heap[a]? = some cell) (hobj : cell.vm.isStatics = false) (hfit : s.vm.assignable cell.cls cell.cls = true) :
    ∃ vm', Stand p l e R s m args below meth c (T.setVm vm') locs cells slots ∧
      ∀ tg, Steps p.tables e below ((T.setVm vm').setTop { g with pc := x.handlerPc, stack := [.ref a] }) tg → Steps p.tables e below ((T.setTop g).pushFrame (.throwing a)) tg := by
  have hpl : e.platform.magicAccessors = ({} : Platform).magicAccessors := by rw [X.admits.platform]
  obtain ⟨t, ht, hcl⟩ := Cond.classLink_spec hown hlink e.platform hpl
  cases hcT.symm.trans ht
  obtain ⟨dk, _, _, kt, hd, _, _, _, _, hkt, _, hopen⟩ := hcl.here
  have hcl0 := X.warmed.classLinks hcl
  have hW : s.WarmedH (T.vm.noted m.cls x.catchType (.cls cell.cls)) := X.warmed.noted hd hopen (State.rightAt_cls hcl)
  have hal := X.warmed.alike
  obtain ⟨kt', hkt', -⟩ := hal.2.2 _ _ hkt
  have hfit' : T.vm.assignable cell.cls cell.cls = true := by rw [hal.assignable]; exact hfit
  refine ⟨_, X.noted hW, fun tg hrest => ?_⟩
  subst hg
  obtain ⟨hgo, hwi⟩ := X.here.throwing a
  refine Steps.head hgo hwi ?_
  have hfd := fun Q E d acts => tm_find (e := e) (u := (T.setTop g).pushFrame (.throwing a)) (f := g) (a := a) (mt := meth) (cd := c) X.method' X.code htab hx h0 (t := cell.cls) (cell := cell) hcl0 hcell (VmData.ne_statics_of hobj) ⟨kt', hkt'⟩ ⟨kt', hkt'⟩ hfit' Q E d acts
  rw [stepThread_throwing (frames_entered X.here.top _), tm_step hfd]
  obtain ⟨g0, hfr⟩ := X.frames_eq
  have hfr' : (T.setVm (T.vm.noted g.method.cls x.catchType (.cls cell.cls))).frames = .java g0 :: below := hfr
  rw [State.setTop_of_frames _ hfr'] at hrest
  rw [hfr, List.tail_cons, State.pushFrame, tm_frames, State.setTop_of_frames _ hfr, tm_frames]
  exact hrest
/-- a call by invokevirtual of a method that throws N, where the place is covered by the one row of the table: the walk goes on at the handler -/
theorem tm_catchV {H : Heap} {Q : State → Prop} {y : MethodName} {bytes cc : ByteArray} {maxL nL n index : Nat} {ret : Option FieldType} {ws Ts : List Cond} {rm : Room} {Pc : Array Value → State → Prop} {own C N : String} {b : Addr} {As rest : List Value} {pc : Nat} {ls : Array Slot} {st0 : List Value} {mc ms : Nat}
    (S : CallFix p m c cc nL s args Ts own) (hM : tm_Met l y ws rm Pc N mc ms) (cw : CallW R s args own C index y bytes maxL ret ws rm mc ms n) (hp : PreV s H C b Pc As)
    (hn : As.length = n) (hsize : ls.size = nL) (hstack : st0 = As.reverse ++ .ref b :: rest) (hW : 2 * (F0 m pc ls rest).monitorRoom + (rest.map fun v => v.category).sum ≤ 8) (hdg : decode cc pc = .ok (.invokevirtual index, 3)) (hf : cells + mc ≤ R.cells ∧ slots + ms ≤ R.slots)
    {x : ExceptionTableEntry} (htab : c.exceptionTable.toList = [x]) (hx : covers x pc = true) (h0 : x.catchType ≠ 0) (hlink : (Cond.classLink own x.catchType N).before args s = true)
    (kk : ∀ (H1 : Heap) (q : Nat), H.size ≤ H1.size → (∀ z : Nat, z < H.size → H1[z]? = H[z]?) → W p l e R s m args below meth c H1 locs (cells + mc) (slots + ms) Q (F0 m x.handlerPc ls [.ref q])) :
    W p l e R s m args below meth c H locs cells slots Q (F0 m pc ls st0) := by
  obtain ⟨⟨hrc, hrs, hfr, hlo, hws, hcw, hcode, hini, hy, hlen, hl⟩, hin, hse⟩ := cw
  obtain ⟨hex, hb, hml, ho, -⟩ := S
  obtain ⟨hbl, ⟨cellB, hcB, hoB, hclB⟩, hPc⟩ := hp
  intro T hT X
  obtain ⟨mk, methM, hnamed, hmethM, hstM, habM⟩ := Cond.instanceMethod_spec hin
  obtain ⟨methM', cM, hmethM', hcM, -, hlM, -, -, -, hsigM⟩ := Cond.code_spec hnamed hcode
  cases hmethM.symm.trans hmethM'
  obtain ⟨c2, r2, m2, q1, q2, q3, q4, kP, hkP, hkPi⟩ := Cond.selects_spec hse
  cases hclB.symm.trans q1
  cases (State.methodFound?_of_named hnamed hy).symm.trans q2
  cases hnamed.symm.trans q3
  have hselP : selectMethod e.platform s.vm cellB.cls mk = .method mk := by rw [Launch.admits_selectMethod X.admits]; exact q4
  obtain ⟨vm₁, X₁, hstep₁⟩ := X.invokevirtual hex ho hl hnamed hmethM hstM hkP hkPi hy (a := b) (cell := cellB) (by rw [hT]; exact hcB)
    (fun z h => by rw [h] at hoB; cases hoB) hselP hmethM habM hkP hkPi (g := F0 m pc ls st0) rfl (argsL := As) (rest := rest) (hn.trans (hlen _ hsigM)) hstack (by rw [hb]; exact hdg)
  have hAt : At (T.setVm vm₁) (F0 m pc ls rest).method c below := X₁.here
  have hnm : (T.setVm vm₁).methodNamed? y = some mk := X₁.named hnamed
  obtain ⟨kY, hkY, -⟩ := className_of_methodNamed hnm
  have hinitY : kY.init = .initialized := Cond.initialized_spec (findClass_of_methodNamed hnm) hkY (word_at (a' := #[]) X₁.warmed (Or.inl (by first | rfl | simp [Cond.onTables, Cond.keeps, Cond.steady])) hini)
  have hpre : (headSpec ws rm).pre.before (Value.ref b :: As).toArray (T.setVm vm₁) = true := atoms_intro fun w hw => hws w hw _ _ X₁.warmed
  have hmM : (T.setVm vm₁).vm.method? mk = some methM := by rw [X₁.warmed.alike.method?]; exact hmethM
  have happ : (headSpec ws rm).appliesLoose y e.platform ((T.setVm vm₁).calling (F0 m pc ls rest) mk (Value.ref b :: As).toArray) = true :=
    Spec.appliesLoose_calling (g := F0 m pc ls rest) hAt (by rw [hb]; exact hdg) hnm hkY hinitY
      (X₁.room_calling (g := F0 m pc ls rest) (R' := (headSpec ws rm).room) (hsize.trans hml.symm) hmM hcM hfr (by rw [hlM]; have h8 : (headSpec ws rm).room.locals = rm.locals := rfl; have h9 : 2 * (F0 m pc ls rest).monitorRoom + ((F0 m pc ls rest).stack.map fun v => v.category).sum ≤ 8 := hW; omega)
        (by rw [show (headSpec ws rm).room.cells = mc from hrc]; exact hf.1) (by rw [show (headSpec ws rm).room.slots = ms from hrs]; exact hf.2)) hpre
  obtain ⟨mid, hmid⟩ := hAt.above
  have hfrm : ((T.setVm vm₁).setTop (F0 m pc ls rest)).frames = (.java (F0 m pc ls rest) :: mid) ++ below := by rw [State.frames_setTop' _ hAt.top, hmid]; rfl
  obtain ⟨o, s₂, hsteps, -, hend, hq⟩ := Steps.callFree hM p X.admits X.cas X.clock (acts := []) hfrm happ (hbl _ _ _ _ (hPc _ hT X₁.warmed)) trivial
  obtain ⟨⟨q, cell, rfl, hqn, hqc, hqs, hqf, hqa⟩, hW2, hsame⟩ := hq
  rw [State.frames_setTop' _ hAt.top, X₁.tail] at hend
  obtain ⟨T', X', hWT, hsm, rfl⟩ := X₁.outOfThrown (g := F0 m pc ls rest) rfl hend hW2 hsame
  have hheap : ∀ z : Nat, z < H.size → T'.heap[z]? = H[z]? := by
    intro z hz
    have h9 := tm_old hsm (q := z) (by show z < T.heap.size; rw [hT]; exact hz)
    rw [← hT]; exact h9
  have hsz : H.size ≤ T'.heap.size := by rw [← hT]; exact hsm.2.1
  obtain ⟨vm₂, X₂, hstep₂⟩ := tm_caught X' q (g := F0 m pc ls rest) rfl ho htab hx h0 hlink (cell := cell) (by rw [← X₁.warmed.alike.findClass]; exact hqf) hqc hqs (by rw [← X₁.warmed.alike.assignable]; exact hqa)
  rw [List.append_nil] at X₂
  obtain ⟨t, a1, b1⟩ := kk T'.heap q hsz hheap (T'.setVm vm₂) rfl X₂
  exact ⟨t, hstep₁ _ (fun acts => by rw [doInvoke_state]; exact hsteps.trans (hstep₂ _ a1)), b1⟩
end TMC
