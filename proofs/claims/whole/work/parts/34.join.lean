-- worlds side by side
theorem wP_mem {D : va_G} {cl : List vw_C} {w : va_W} {H : Heap} : va_P D cl w H ↔ ∀ q ∈ w, va_at D cl q H :=
  ⟨fun h q hq => by obtain ⟨i, hi⟩ := List.getElem?_of_mem hq; exact h i q hi, fun h k q hk => h q (List.mem_of_getElem? hk)⟩
theorem wP_l {D : va_G} {cl : List vw_C} {w0 wr : va_W} {H : Heap} (h : va_P D cl (w0 ++ wr) H) : va_P D cl w0 H := wP_mem.mpr (fun q hq => wP_mem.mp h q (List.mem_append_left _ hq))
theorem wP_r {D : va_G} {cl : List vw_C} {w0 wr : va_W} {H : Heap} (h : va_P D cl (w0 ++ wr) H) : va_P D cl wr H := wP_mem.mpr (fun q hq => wP_mem.mp h q (List.mem_append_right _ hq))
theorem wP_s {D : va_G} {cl : List vw_C} {w0 wr : va_W} {H : Heap} (h : va_P D cl (w0 ++ wr) H) : va_P D cl (wr ++ w0) H := (wP_r h).app (wP_l h)
theorem w_lt {w : va_W} {i : Nat} {p : Nat × va_E} (h : w[i]? = some p) : i < w.length := (List.getElem?_eq_some_iff.mp h).1
theorem wD_l {A : Nat → Prop} {w0 wr : va_W} (h : va_D A (w0 ++ wr)) : va_D A w0 :=
  ⟨fun i j p q hi hj e => h.1 i j p q (by rw [List.getElem?_append_left (w_lt hi)]; exact hi) (by rw [List.getElem?_append_left (w_lt hj)]; exact hj) e, fun k q hk => h.2 k q (by rw [List.getElem?_append_left (w_lt hk)]; exact hk)⟩
theorem w_rt {w0 wr : va_W} {i : Nat} {p : Nat × va_E} (h : wr[i]? = some p) : (w0 ++ wr)[w0.length + i]? = some p := by
  rw [List.getElem?_append_right (by omega), Nat.add_sub_cancel_left]
  exact h
theorem wD_r {A : Nat → Prop} {w0 wr : va_W} (h : va_D A (w0 ++ wr)) : va_D A wr :=
  ⟨fun i j p q hi hj e => by have := h.1 _ _ p q (w_rt hi) (w_rt hj) e; omega, fun k q hk => h.2 _ q (w_rt hk)⟩
theorem wD_x {A : Nat → Prop} {w0 wr : va_W} (h : va_D A (w0 ++ wr)) : ∀ (i j : Nat) (p q : Nat × va_E), w0[i]? = some p → wr[j]? = some q → p.1 ≠ q.1 := fun i j p q hi hj e => by
  have h1 := w_lt hi
  have := h.1 _ _ p q (by rw [List.getElem?_append_left h1]; exact hi) (w_rt hj) e
  omega
theorem wD_s {A : Nat → Prop} {w0 wr : va_W} (h : va_D A (w0 ++ wr)) : va_D A (wr ++ w0) := (wD_r h).app (wD_l h) (fun i j p q hi hj e => wD_x h j i q p hj hi e.symm)
theorem w_join {A : Nat → Prop} {D : va_G} {cl : List vw_C} {w0 wr w1 : va_W} {H H1 : Heap} (hP : va_P D cl (w0 ++ wr) H) (hD : va_D A (w0 ++ wr)) (hk : ∀ q : Nat, q < H.size → ¬ va_A w0 H.size q → H1[q]? = H[q]?) (hF : ∀ q, va_A w0 H.size q → A q) (hP1 : va_P D cl w1 H1) (hD1 : va_D (va_A w0 H.size) w1) : va_P D cl (w1 ++ wr) H1 ∧ va_D A (w1 ++ wr) := by
  have hno : ∀ (j : Nat) (q : Nat × va_E), wr[j]? = some q → ¬ va_A w0 H.size q.1 := by
    intro j q hj h
    rcases h with ⟨k, e, h⟩ | h
    · exact wD_x hD k j (q.1, e) q h hj rfl
    · have := va_at.lt (wP_r hP j q hj)
      omega
  refine ⟨hP1.app (fun j q hj => va_at.kept (wP_r hP j q hj) (hk q.1 (va_at.lt (wP_r hP j q hj)) (hno j q hj))), (hD1.weaken (fun _ q _ h => hF q.1 h)).app (wD_r hD) (fun i j p q hi hj e => hno j q hj ?_)⟩
  rw [← e]
  exact hD1.2 i p hi
section ZBA
variable {p : Program} {l : Launch} {e : Env} {R : Room} {s : State} {m : MethodId} {args : Array Value} {below : List Frame} {meth : Method} {c : Code} {H : Heap} {locs : List Loc} {cells slots : Nat} {Q : State → Prop}
variable {pc : Nat} {ls : Array Slot} {rest st0 : List Value} {a : Array Value}
variable {D : va_G} {cl : List vw_C} {A : Nat → Prop} {w0 wr w1 : va_W} {mc ms : Nat}
/-- a post of any kind that leaves a world; the caller's other cells stay -/
def zb_G {X : Type} (r : X → Option Value) (D : va_G) (cl : List vw_C) (Wd : X → va_W) (Rx : X → Prop) (A : Nat → Prop) : Array Value → State → Outcome → State → Prop := fun _ st o t => ∃ x, Rx x ∧ o = .returned (r x) ∧ va_P D cl (Wd x) t.heap ∧ va_D A (Wd x) ∧ va_F A st t
theorem zb_cg {X : Type} {r : X → Option Value} {Wd : X → va_W} {Rx : X → Prop} {Qa : State → Outcome → State → Prop} (hr : va_Run p l e R s m args below meth c H locs cells slots mc ms (F0 m pc ls st0) rest Qa (va_A w0 H.size)) (hq : ∀ st o t, Qa st o t → zb_G r D cl Wd Rx (va_A w0 H.size) a st o t) (hP : va_P D cl (w0 ++ wr) H) (hD : va_D A (w0 ++ wr)) (hS : va_S A s.heap H locs) (hA : ∀ q, s.heap.size ≤ q → A q)
    (kk : ∀ x, Rx x → ∀ (H1 : Heap) (locs1 : List Loc), va_P D cl (Wd x ++ wr) H1 → va_D A (Wd x ++ wr) → va_S A s.heap H1 locs1 → W p l e R s m args below meth c H1 locs1 (cells + mc) (slots + ms) Q (F0 m (pc + 3) ls ((r x).toList ++ rest))) : W p l e R s m args below meth c H locs cells slots Q (F0 m pc ls st0) := by
  have hF := zb_A (D := D) (cl := cl) (wD_l hD) hS hA
  intro T hT X
  obtain ⟨v, st₀, t, T', L, h0, X', hL, e1, e2, hqa, st⟩ := hr T hT X
  obtain ⟨x, hx, hv, hP1, hD1, hz, hk⟩ := hq _ _ _ hqa
  cases hv
  rw [h0] at hz hk
  obtain ⟨hP2, hD2⟩ := w_join hP hD (H1 := T'.heap) (fun q h1 h2 => by rw [e1]; exact hk q h1 h2) hF (by rw [e1]; exact hP1) hD1
  obtain ⟨t2, a1, b1⟩ := kk x hx T'.heap (locs ++ L) hP2 hD2
    ⟨Nat.le_trans hS.1 (by rw [e1]; exact hz), fun q h1 h2 => by rw [e1, hk q (Nat.lt_of_lt_of_le h1 hS.1) (fun z => h2 (hF q z))]; exact hS.2.1 q h1 h2, fun q hq => by
      rcases List.mem_append.mp hq with h | h
      · exact hS.2.2 q h
      · exact hF _ (hL q h)⟩ T' rfl X'
  exact ⟨t2, st t2 a1, b1⟩
theorem zb_cvA (hr : va_Run p l e R s m args below meth c H locs cells slots mc ms (F0 m pc ls st0) rest (zb_Vv D cl w1 (va_A w0 H.size) a) (va_A w0 H.size)) (hP : va_P D cl (w0 ++ wr) H) (hD : va_D A (w0 ++ wr)) (hS : va_S A s.heap H locs) (hA : ∀ q, s.heap.size ≤ q → A q)
    (kk : ∀ (H1 : Heap) (locs1 : List Loc), va_P D cl (w1 ++ wr) H1 → va_D A (w1 ++ wr) → va_S A s.heap H1 locs1 → W p l e R s m args below meth c H1 locs1 (cells + mc) (slots + ms) Q (F0 m (pc + 3) ls rest)) : W p l e R s m args below meth c H locs cells slots Q (F0 m pc ls st0) :=
  zb_cg (X := Unit) (r := fun _ => none) (Wd := fun _ => w1) (Rx := fun _ => True) (a := a) hr (fun _ _ _ h => ⟨(), trivial, h.1, h.2.1, h.2.2.1, h.2.2.2⟩) hP hD hS hA (fun _ _ H1 locs1 h1 h2 h3 => kk H1 locs1 h1 h2 h3)
theorem zb_cviA {r : Int32} (hr : va_Run p l e R s m args below meth c H locs cells slots mc ms (F0 m pc ls st0) rest (zb_Vi r D cl w1 (va_A w0 H.size) a) (va_A w0 H.size)) (hP : va_P D cl (w0 ++ wr) H) (hD : va_D A (w0 ++ wr)) (hS : va_S A s.heap H locs) (hA : ∀ q, s.heap.size ≤ q → A q)
    (kk : ∀ (H1 : Heap) (locs1 : List Loc), va_P D cl (w1 ++ wr) H1 → va_D A (w1 ++ wr) → va_S A s.heap H1 locs1 → W p l e R s m args below meth c H1 locs1 (cells + mc) (slots + ms) Q (F0 m (pc + 3) ls (.int r :: rest))) : W p l e R s m args below meth c H locs cells slots Q (F0 m pc ls st0) :=
  zb_cg (X := Unit) (r := fun _ => some (.int r)) (Wd := fun _ => w1) (Rx := fun _ => True) (a := a) hr (fun _ _ _ h => ⟨(), trivial, h.1, h.2.1, h.2.2.1, h.2.2.2⟩) hP hD hS hA (fun _ _ H1 locs1 h1 h2 h3 => kk H1 locs1 h1 h2 h3)
theorem zb_ceiA {r : Int32} {Wd : RX → va_W} {Rx : RX → Prop} (hr : va_Run p l e R s m args below meth c H locs cells slots mc ms (F0 m pc ls st0) rest (zb_E (some (.int r)) D cl Wd Rx (va_A w0 H.size) a) (va_A w0 H.size)) (hP : va_P D cl (w0 ++ wr) H) (hD : va_D A (w0 ++ wr)) (hS : va_S A s.heap H locs) (hA : ∀ q, s.heap.size ≤ q → A q)
    (kk : ∀ x, Rx x → ∀ (H1 : Heap) (locs1 : List Loc), va_P D cl (Wd x ++ wr) H1 → va_D A (Wd x ++ wr) → va_S A s.heap H1 locs1 → W p l e R s m args below meth c H1 locs1 (cells + mc) (slots + ms) Q (F0 m (pc + 3) ls (.int r :: rest))) : W p l e R s m args below meth c H locs cells slots Q (F0 m pc ls st0) :=
  zb_cg (r := fun _ => some (.int r)) (Wd := Wd) (Rx := Rx) (a := a) hr (fun _ _ _ h => by obtain ⟨h1, x, h2, h3, h4, h5⟩ := h; exact ⟨x, h2, h1, h3, h4, h5⟩) hP hD hS hA (fun x hx H1 locs1 h1 h2 h3 => kk x hx H1 locs1 h1 h2 h3)
/-- an array of the class that is known -/
theorem zb_newa {cc : ByteArray} {tys : List (ClassId × FieldType)} (hexec : p.tables.exec = Jvm.exec) (hb : c.code = cc) {atype : ArrayType} (harr : (Cond.arrayClass (newarray.typeOf atype)).before args s = true) {ty : FieldType} (hty : newarray.typeOf atype = ty) {cA : ClassId} (hfA : s.vm.findClass ("[" ++ ty.toString) = some cA) (hP : va_P D cl w0 H) (hD : va_D A w0) (hS : va_S A s.heap H locs) (hA : ∀ q, s.heap.size ≤ q → A q)
    {n : Int32} {N' : Nat} {a0 : vp_A} (ha : ∀ cA : ClassId, vp_cell cA a0 = arrV cA N' (fun _ => defaultValue ty)) (hn : ¬ n < 0) (hN : n.toNatClampNeg = N') (hbytes : N' * componentBytes ty ≤ 536870912) (hcells : cells + 1 ≤ R.cells) (hslots : slots + N' ≤ R.slots) (hdg : decode cc pc = .ok (.newarray atype, 2))
    (kk : ∀ (q : Nat) (H1 : Heap), va_P D cl (w0 ++ [(q, .inl (cA, a0))]) H1 → va_D A (w0 ++ [(q, .inl (cA, a0))]) → va_S A s.heap H1 locs → W p l e R s m args below meth c H1 locs (cells + 1) (slots + N') Q (F0 m (pc + 2) ls (.ref q :: rest))) : W p l e R s m args below meth c H locs cells slots Q (F0 m pc ls (.int n :: rest)) := by
  subst hty
  refine va_newaK hexec hb harr (g := F0 m pc ls (.int n :: rest)) rfl hdg rfl hn hN hbytes hcells hslots rfl (fun H1 cA' h1 h2 h3 h4 h5 => ?_)
  obtain rfl : cA' = cA := Option.some.inj (h5.symm.trans hfA)
  have hlt : ∀ (k : Nat) (q : Nat × va_E), w0[k]? = some q → q.1 < H.size := fun k q hk => va_at.lt (hP k q hk)
  refine kk H.size H1 (va_P.app (fun k q hk => va_at.kept (hP k q hk) (h3 q.1 (hlt k q hk))) (wP_mem.mpr (fun q hq => ?_))) (hD.app ⟨fun i j p q hi hj _ => by have := w_lt hi; have := w_lt hj; simp at *; omega, fun k q hk => ?_⟩ (fun i j p q hi hj e => ?_)) ⟨by have := hS.1; omega, fun q h6 h7 => by rw [h3 q (Nat.lt_of_lt_of_le h6 hS.1)]; exact hS.2.1 q h6 h7, hS.2.2⟩
  · rw [List.mem_singleton.mp hq]
    show H1[H.size]? = some (vp_cell cA' a0)
    rw [ha, h1]
  · rw [List.mem_singleton.mp (List.mem_of_getElem? hk)]
    exact hA _ hS.1
  · have h8 := hlt i p hi
    rw [e, List.mem_singleton.mp (List.mem_of_getElem? hj)] at h8
    exact absurd h8 (Nat.lt_irrefl _)
end ZBA
