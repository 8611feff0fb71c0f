/-- where a static field lies, its class's statics cell in H -/
def vx_L (C n d : String) (A : Nat → Prop) (U : State) (H : Heap) : Prop := ∃ (c : ClassId) (k : Class) (i : Nat) (f : Field) (a : Nat) (cell : Cell), U.vm.findClass C = some c ∧ U.fieldFound? C n d = some (c, k, i, f) ∧ f.isStatic = true ∧ k.statics = some a ∧ H[a]? = some cell ∧ cell.vm.isStatics = true ∧ cell.cls = c ∧ f.slot < cell.slots.size ∧ k.staticTypes[f.slot]? = some f.type ∧ ¬ A a
theorem vx_L.moved {C n d : String} {A : Nat → Prop} {u U : State} {H : Heap} (hvm : u.vm.Alike U.vm) (h : vx_L C n d A u H) : vx_L C n d A U H := by
  obtain ⟨c, k, i, f, a, cell, h1, h2, h3, h4, h5, h6, h7, h8, h9, h10⟩ := h
  obtain ⟨k', hi', he⟩ := State.fieldFound?_setVm hvm h2
  exact ⟨c, k', i, f, a, cell, by rw [hvm.findClass]; exact h1, hi', h3, by rw [he]; exact h4, h5, h6, h7, h8, by rw [he]; exact h9, h10⟩
theorem vx_L.kept {C n d : String} {A : Nat → Prop} {U : State} {H H1 : Heap} (h : vx_L C n d A U H) (hq : ∀ a : Nat, a < H.size → ¬ A a → H1[a]? = H[a]?) : vx_L C n d A U H1 := by
  obtain ⟨c, k, i, f, a, cell, h1, h2, h3, h4, h5, h6, h7, h8, h9, h10⟩ := h
  exact ⟨c, k, i, f, a, cell, h1, h2, h3, h4, by rw [hq a (Array.getElem?_eq_some_iff.mp h5).1 h10]; exact h5, h6, h7, h8, h9, h10⟩
theorem vx_L.narrow {C n d : String} {A B : Nat → Prop} {U : State} {H : Heap} (h : vx_L C n d A U H) (hAB : ∀ q, B q → A q) : vx_L C n d B U H := by
  obtain ⟨c, k, i, f, a, cell, h1, h2, h3, h4, h5, h6, h7, h8, h9, h10⟩ := h
  exact ⟨c, k, i, f, a, cell, h1, h2, h3, h4, h5, h6, h7, h8, h9, fun z => h10 (hAB _ z)⟩
theorem vx_L.word {C n d : String} {A : Nat → Prop} {s : State} {args : Array Value} (h : vx_L C n d A s s.heap) : (Cond.laysStatic C n d).before args s = true := by
  obtain ⟨c, k, i, f, a, cell, h1, h2, h3, h4, h5, h6, h7, h8, h9, -⟩ := h
  show (Cond.laysStatic C n d).holds args s none s [] = true
  exact Cond.laysStatic_of h1 h2 h3 h4 h5 h6 h7 h8 h9
/-- .. and what it holds: null or some reference -/
def vx_Zq (C n d : String) (A : Nat → Prop) (U : State) (H : Heap) : Prop := va_Zq C n d A U H ∧ vx_L C n d A U H
theorem vx_Zq.moved {C n d : String} {A : Nat → Prop} {u U : State} {H : Heap} (hvm : u.vm.Alike U.vm) (h : vx_Zq C n d A u H) : vx_Zq C n d A U H := ⟨va_Zq.moved hvm h.1, vx_L.moved hvm h.2⟩
theorem vx_Zq.kept {C n d : String} {A : Nat → Prop} {U : State} {H H1 : Heap} (h : vx_Zq C n d A U H) (hq : ∀ a : Nat, a < H.size → ¬ A a → H1[a]? = H[a]?) : vx_Zq C n d A U H1 := ⟨va_Zq.kept h.1 hq, vx_L.kept h.2 hq⟩
theorem vx_Zq.narrow {C n d : String} {A B : Nat → Prop} {U : State} {H : Heap} (h : vx_Zq C n d A U H) (hAB : ∀ q, B q → A q) : vx_Zq C n d B U H := ⟨va_Zq.narrow h.1 hAB, vx_L.narrow h.2 hAB⟩
theorem vx_Zqof {args : Array Value} {s : State} {C n d : String} {A : Nat → Prop} (hl : (Cond.laysStatic C n d).before args s = true) (hini : (Cond.initialized C).before args s = true) (h : (Cond.isRef (.static C n d)).before args s = true) (hA : ∀ a : Nat, a < s.heap.size → ¬ A a) : vx_Zq C n d A s s.heap := by
  refine ⟨va_Zqof hl hini h hA, ?_⟩
  obtain ⟨c, k, i, f, a, cell, h1, h2, h3, h4, h5, h6, h7, h8, h9⟩ := Cond.laysStatic_spec hl
  exact ⟨c, k, i, f, a, cell, h1, h2, h3, h4, h5, h6, h7, h8, h9, hA a (Array.getElem?_eq_some_iff.mp h5).1⟩
theorem vx_isRef {C n d : String} {v : Value} {A : Nat → Prop} {s : State} {args : Array Value} (h : va_Z C n d v A s s.heap) (hv : v.isRef = true) : (Cond.isRef (.static C n d)).before args s = true := by
  obtain ⟨cf, kf, fi, f, a, cell, h1, h2, h3, h4, h5, h6, h7, -⟩ := h
  have he : (Term.static C n d).eval args s none [] s = some v := by
    simp [Term.eval, State.fieldNamed?, h1, h2, h4, h5, h6, h7]
  simp only [Cond.before, Cond.holds, Cond.value, he]
  cases v <;> simp_all [Value.isRef]
theorem vx_isRefq {C n d : String} {A : Nat → Prop} {s : State} {args : Array Value} (h : va_Zq C n d A s s.heap) : (Cond.isRef (.static C n d)).before args s = true := by
  rcases h with h | ⟨t, h⟩
  · exact vx_isRef h rfl
  · exact vx_isRef h rfl
-- the two static tables of the dictionary, as they lie
def tabT : List Int32 := [4096, 0, 4, 1, 0, 4097, 0, 1, 5, 4, 4119, 0, 2, 3, 5, 5632, 0, 1, 3, 7, 5632, 1, 4, 3, 8, 5632, 2, 4, 3, 12, 5632, 3, 4, 3, 16, 5632, 4, 4, 3, 20, 6144, 2, 1, 3, 24, 6656, 0, 1, 3, 25, 6656, 1, 4, 3, 26, 6656, 2, 4, 3, 30, 6656, 3, 4, 3, 34, 6656, 4, 4, 3, 38, 8192, 0, 1, 7, 42, 8193, 0, 2, 7, 43, 8194, 0, 4, 7, 45, 8195, 0, 4, 5, 49, 8196, 0, 12, 3, 53, 8197, 0, 8, 7, 65, 8198, 0, 2, 6, 73, 8199, 0, 20, 1, 75]
def tabF : List Int32 := [145, 1, 2, 0, 0, 0, 0, 0, 0, 0, 0, 0, 0, 0, 0, 0, 0, 0, 0, 0, 0, 0, 0, 0, 255, 0, 0, 0, 0, 0, 0, 0, 0, 0, 0, 0, 0, 0, 0, 0, 0, 0, 0, 0, 0, 0, 0, 0, 0, 0, 0, 0, 0, 0, 0, 0, 0, 0, 0, 0, 0, 0, 0, 0, 0, 0, 0, 0, 0, 0, 0, 0, 0, 0, 0, 65, 66, 67, 68, 69, 70, 71, 72, 73, 74, 75, 76, 77, 78, 79, 80, 81, 82, 83, 84]
def tT (j : Nat) : Int32 := tabT.getD j 0
def tF (j : Nat) : Int32 := tabF.getD j 0
theorem tT_at : ∀ e, e < 22 → tT (5 * e) = nI (xI e) ∧ tT (5 * e + 1) = nI (xS e) ∧ tT (5 * e + 2) = nI (xZ e) ∧ tT (5 * e + 3) = nI (xR e) ∧ tT (5 * e + 4) = nI (xP e) := by decide +kernel
-- what is carried of the statics: the two tables, and the two of Throwable
def cSt (A : Nat → Prop) (U : State) (H : Heap) : Prop := ∃ t f : Nat, va_Z RX0 "TABLE" "[I" (.ref t) A U H ∧ va_T .int t 110 (fun j => .int (tT j)) A U H ∧ va_Z RX0 "FIRST" "[I" (.ref f) A U H ∧ va_T .int f 95 (fun j => .int (tF j)) A U H
def xSt (A : Nat → Prop) (U : State) (H : Heap) : Prop := vx_Zq Bundle.tN "UNASSIGNED_STACK" Bundle.steD A U H ∧ vx_Zq Bundle.tN "SUPPRESSED_SENTINEL" Bundle.listD A U H
def gSt (A : Nat → Prop) (U : State) (H : Heap) : Prop := cSt A U H ∧ xSt A U H
theorem gSt.moved {A : Nat → Prop} {u U : State} {H : Heap} (hvm : u.vm.Alike U.vm) (h : gSt A u H) : gSt A U H := by
  obtain ⟨⟨t, f, h1, h2, h3, h4⟩, h5, h6⟩ := h
  exact ⟨⟨t, f, va_Z.moved hvm h1, va_T.moved hvm h2, va_Z.moved hvm h3, va_T.moved hvm h4⟩, vx_Zq.moved hvm h5, vx_Zq.moved hvm h6⟩
theorem gSt.kept {A : Nat → Prop} {U : State} {H H1 : Heap} (h : gSt A U H) (hq : ∀ a : Nat, a < H.size → ¬ A a → H1[a]? = H[a]?) : gSt A U H1 := by
  obtain ⟨⟨t, f, h1, h2, h3, h4⟩, h5, h6⟩ := h
  exact ⟨⟨t, f, va_Z.kept h1 hq, va_T.kept h2 hq, va_Z.kept h3 hq, va_T.kept h4 hq⟩, vx_Zq.kept h5 hq, vx_Zq.kept h6 hq⟩
theorem gSt.narrow {A B : Nat → Prop} {U : State} {H : Heap} (h : gSt A U H) (hAB : ∀ q, B q → A q) : gSt B U H := by
  obtain ⟨⟨t, f, h1, h2, h3, h4⟩, h5, h6⟩ := h
  exact ⟨⟨t, f, va_Z.narrow h1 hAB, va_T.narrow h2 hAB, va_Z.narrow h3 hAB, va_T.narrow h4 hAB⟩, vx_Zq.narrow h5 hAB, vx_Zq.narrow h6 hAB⟩
-- the words across the nest
def nw (U : State) : Prop := ∀ w ∈ nwL, va_Nw w U
def nestWord : Cond → Bool
  | .fieldLinkNest .. => true
  | .methodLinkNest .. => true
  | _ => false
theorem nwL_kind : ∀ w ∈ nwL, nestWord w = true := by decide +kernel
theorem nw_on {w : Cond} (h : nestWord w = true) : w.onTables = true := by
  cases w <;> first | rfl | (simp [nestWord] at h)
theorem nw.same {u U : State} (h : u.vm = U.vm) (hz : nw u) : nw U := fun w hw => va_Nw.same (nw_on (nwL_kind w hw)) h (hz w hw)
theorem nw.warm {s U : State} (hW : s.WarmedH U.vm) (hz : nw s) : nw U := fun w hw => by
  have hk := nwL_kind w hw
  have h1 := hz w hw
  cases w with
  | fieldLinkNest a i b n d h => exact va_Nw.warmF hW h1
  | methodLinkNest a i x h => exact va_Nw.warmM hW h1
  | _ => simp [nestWord] at hk
-- a read-only method's start; a writing one's
def zPu (D : va_G) (tys : List (ClassId × FieldType)) (w : va_W) (U : State) : Prop := va_P D vwCl w U.heap ∧ va_K D vwCl tys U ∧ gSt (fun _ => False) U U.heap ∧ nw U
def zPre (D : va_G) (tys : List (ClassId × FieldType)) (w : va_W) (sz : Nat) (U : State) : Prop := U.heap.size = sz ∧ va_P D vwCl w U.heap ∧ va_K D vwCl tys U ∧ va_D (fun _ => True) w ∧ gSt (va_A w sz) U U.heap ∧ nw U
theorem zPu_blind {D : va_G} {tys : List (ClassId × FieldType)} {w : va_W} {av : List Value} : FrameBlind (va_Pc av (zPu D tys w)) := fun a U g mk h => by
  obtain ⟨h0, h1, h2, h3, h4⟩ := h
  exact ⟨h0, h1, va_K.moved (u := U) (U := U.calling g mk a) (Vm.Alike.refl U.vm) h2, gSt.moved (u := U) (U := U.calling g mk a) (Vm.Alike.refl U.vm) h3, nw.same (u := U) rfl h4⟩
theorem zPre_blind {D : va_G} {tys : List (ClassId × FieldType)} {w : va_W} {sz : Nat} {av : List Value} : FrameBlind (va_Pc av (zPre D tys w sz)) := fun a U g mk h => by
  obtain ⟨h0, h1, h2, h3, h4, h5, h6⟩ := h
  exact ⟨h0, h1, h2, va_K.moved (u := U) (U := U.calling g mk a) (Vm.Alike.refl U.vm) h3, h4, gSt.moved (u := U) (U := U.calling g mk a) (Vm.Alike.refl U.vm) h5, nw.same (u := U) rfl h6⟩
section ZP
variable {s : State} {H : Heap} {locs : List Loc} {A : Nat → Prop} {D : va_G} {tys tys' : List (ClassId × FieldType)} {w : va_W} {As : List Value} {b : Nat}
theorem zp_at (hP : va_P D vwCl w H) (hK : va_K D vwCl tys' s) (hSt : gSt A s s.heap) (hS : va_S A s.heap H locs) (hnw : nw s) : ∀ U : State, U.heap = H → s.WarmedH U.vm → zPu D tys' w U := fun U hU hW =>
  ⟨by rw [hU]; exact hP, va_K.moved hW.alike hK, by rw [hU]; exact gSt.moved hW.alike ((hSt.kept hS.2.1).narrow (fun _ h => h.elim)), nw.warm hW hnw⟩
theorem zp_atW (hP : va_P D vwCl w H) (hD : va_D A w) (hK : va_K D vwCl tys' s) (hSt : gSt A s s.heap) (hS : va_S A s.heap H locs) (hA : ∀ q, s.heap.size ≤ q → A q) (hnw : nw s) : ∀ U : State, U.heap = H → s.WarmedH U.vm → zPre D tys' w H.size U := fun U hU hW =>
  ⟨by rw [hU], by rw [hU]; exact hP, va_K.moved hW.alike hK, hD.weaken (fun _ _ _ _ => trivial), by rw [hU]; exact gSt.moved hW.alike ((hSt.kept hS.2.1).narrow (zb_A (D := D) (cl := vwCl) hD hS hA)), nw.warm hW hnw⟩
theorem zp_V (q0 : Nat) {ci : Nat} {fs : List Value} {C : String} {T : u_T} {N : Nat} (he : w[q0]? = some (b, .inr (ci, fs))) (hc : vwCl[ci]? = some (C, T, N)) (hP : va_P D vwCl w H) (hK : va_K D vwCl tys' s) (hSt : gSt A s s.heap) (hS : va_S A s.heap H locs) (hnw : nw s) :
    PreV s H C b (va_Pc (.ref b :: As) (zPu D tys' w)) As := ⟨zPu_blind, va_recv hK hP hc he, fun U hU hW => ⟨rfl, zp_at hP hK hSt hS hnw U hU hW⟩⟩
theorem zp_S (hP : va_P D vwCl w H) (hK : va_K D vwCl tys' s) (hSt : gSt A s s.heap) (hS : va_S A s.heap H locs) (hnw : nw s) :
    PreS s H (va_Pc As (zPu D tys' w)) As := ⟨zPu_blind, fun U hU hW => ⟨rfl, zp_at hP hK hSt hS hnw U hU hW⟩⟩
theorem zp_VW (q0 : Nat) {ci : Nat} {fs : List Value} {C : String} {T : u_T} {N : Nat} (he : w[q0]? = some (b, .inr (ci, fs))) (hc : vwCl[ci]? = some (C, T, N)) (hP : va_P D vwCl w H) (hD : va_D A w) (hK : va_K D vwCl tys' s) (hSt : gSt A s s.heap) (hS : va_S A s.heap H locs) (hA : ∀ q, s.heap.size ≤ q → A q) (hnw : nw s) :
    PreV s H C b (va_Pc (.ref b :: As) (zPre D tys' w H.size)) As := ⟨zPre_blind, va_recv hK hP hc he, fun U hU hW => ⟨rfl, zp_atW hP hD hK hSt hS hA hnw U hU hW⟩⟩
theorem zp_SW (hP : va_P D vwCl w H) (hD : va_D A w) (hK : va_K D vwCl tys' s) (hSt : gSt A s s.heap) (hS : va_S A s.heap H locs) (hA : ∀ q, s.heap.size ≤ q → A q) (hnw : nw s) :
    PreS s H (va_Pc As (zPre D tys' w H.size)) As := ⟨zPre_blind, fun U hU hW => ⟨rfl, zp_atW hP hD hK hSt hS hA hnw U hU hW⟩⟩
end ZP
-- the class's world: node, dictionary, its bytes, the two maps, outbox, its frames, transfer, its bytes
abbrev OB : Type := (Nat → Int32) × Int32 × Int32
abbrev TR : Type := (Nat → Int32) × Int32 × Int32 × Int32 × Int32 × Int32 × Int32 × Int32
abbrev ND : Type := Int32 × Int32 × Int32 × Int64
def cw (a : Nat → Nat) (cA : ClassId) (N : Int32) (f : Nat → Int32) (o : OB) (t : TR) (n : ND) : va_W :=
  [(a 0, .inr (4, [.int N, .ref (a 1), .ref (a 3), .ref (a 4), .ref (a 5), .ref (a 7), .int n.1, .int n.2.1, .int n.2.2.1, .long n.2.2.2])),
   (a 1, .inr (0, [.ref (a 2)])),
   (a 2, .inl (cA, 95, .inl f)),
   (a 3, .inr (1, [.ref (a 1), .int 3, .int 6])),
   (a 4, .inr (1, [.ref (a 1), .int 9, .int 5])),
   (a 5, .inr (2, [.ref (a 6), .int o.2.1, .int o.2.2])),
   (a 6, .inl (cA, 128, .inl o.1)),
   (a 7, .inr (3, [.ref (a 8), .int t.2.1, .int t.2.2.1, .int t.2.2.2.1, .int t.2.2.2.2.1, .int t.2.2.2.2.2.1, .int t.2.2.2.2.2.2.1, .int t.2.2.2.2.2.2.2])),
   (a 8, .inl (cA, 20, .inl t.1))]
