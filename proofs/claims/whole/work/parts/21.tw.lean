-- the words of a throw that don't ride with the others: carried beside
def xIAE : String := "java/lang/IllegalArgumentException"
def xNSE : String := "java/util/NoSuchElementException"
def xIOB : String := "java/lang/IndexOutOfBoundsException"
def xUp : List String := ["java/lang/RuntimeException", "java/lang/Exception"]
def twL : List Cond := [.declares (Bundle.init0 "java/lang/RuntimeException"), .declares (Bundle.init0 "java/lang/Exception"), .declares (Bundle.init0 Bundle.tN), .castable xIAE xIAE, .castable xNSE xNSE, .castable xIOB xIOB]
theorem twL_in : ∀ w ∈ twL, w ∈ tables_1 := by decide +kernel
def tw (U : State) : Prop := ∀ w ∈ twL, va_Nw w U
def twWord : Cond → Bool
  | .declares _ => true
  | .castable .. => true
  | _ => false
theorem twL_kind : ∀ w ∈ twL, twWord w = true := by decide +kernel
theorem tw_on {w : Cond} (h : twWord w = true) : w.onTables = true := by
  cases w <;> first | rfl | (simp [twWord] at h)
theorem tw.same {u U : State} (h : u.vm = U.vm) (hz : tw u) : tw U := fun w hw => va_Nw.same (tw_on (twL_kind w hw)) h (hz w hw)
theorem tw.warm {s U : State} (hW : s.WarmedH U.vm) (hz : tw s) : tw U := fun w hw => by
  have hk := twL_kind w hw
  have h1 := hz w hw
  cases w with
  | declares x => exact va_Nw.warmD hW h1
  | castable a b =>
    unfold va_Nw at h1 ⊢
    simp only [Cond.before, Cond.holds, Cond.value, hW.alike.findClass, hW.alike.assignable] at h1 ⊢
    exact h1
  | _ => simp [twWord] at hk
theorem tw_words {args : Array Value} {s : State} {A : Nat → Prop} {L : List Cond} (htb : ∀ w ∈ wb, w.before args s = true) (htw : tw s) (hX : xSt A s s.heap)
    (hin : ∀ w ∈ L, goodWord w = true → w ∈ tables_1) (hno : ∀ w ∈ L, goodWord w = false → w ∈ twL ∨ w = .laysStatic Bundle.tN "UNASSIGNED_STACK" Bundle.steD ∨ w = .laysStatic Bundle.tN "SUPPRESSED_SENTINEL" Bundle.listD ∨ w = .isRef (.static Bundle.tN "UNASSIGNED_STACK" Bundle.steD) ∨ w = .isRef (.static Bundle.tN "SUPPRESSED_SENTINEL" Bundle.listD)) :
    ∀ w ∈ L, w.before args s = true := by
  intro w hw
  cases hg : goodWord w with
  | true => exact htb w (List.mem_filter.mpr ⟨List.mem_append_right _ (hin w hw hg), hg⟩)
  | false =>
    rcases hno w hw hg with h | rfl | rfl | rfl | rfl
    · exact va_Nw.use (tw_on (twL_kind w h)) (htw w h)
    · exact vx_L.word hX.1.2
    · exact vx_L.word hX.2.2
    · exact vx_isRefq hX.1.1
    · exact vx_isRefq hX.2.1
theorem own_frame {args : Array Value} {s : State} {A : Nat → Prop} (htb : ∀ w ∈ wb, w.before args s = true) (htw : tw s) (hX : xSt A s s.heap) : ∀ w ∈ Bundle.ownAtoms0 RX4 60 xIAE xUp, w.before args s = true := tw_words htb htw hX (by decide +kernel) (by decide +kernel)
theorem own_nse {args : Array Value} {s : State} {A : Nat → Prop} (htb : ∀ w ∈ wb, w.before args s = true) (htw : tw s) (hX : xSt A s s.heap) : ∀ w ∈ Bundle.ownAtoms0 RX4 114 xNSE xUp, w.before args s = true := tw_words htb htw hX (by decide +kernel) (by decide +kernel)
theorem own_iob {args : Array Value} {s : State} {A : Nat → Prop} (htb : ∀ w ∈ wb, w.before args s = true) (htw : tw s) (hX : xSt A s s.heap) : ∀ w ∈ Bundle.ownAtoms0 RX4 126 xIOB xUp, w.before args s = true := tw_words htb htw hX (by decide +kernel) (by decide +kernel)
-- a throwing method's start
def zPt (D : va_G) (tys : List (ClassId × FieldType)) (w : va_W) (U : State) : Prop := zPu D tys w U ∧ tw U
theorem zPt_blind {D : va_G} {tys : List (ClassId × FieldType)} {w : va_W} {av : List Value} : FrameBlind (va_Pc av (zPt D tys w)) := fun a U g mk h => by
  obtain ⟨h0, h1, h2⟩ := h
  exact ⟨h0, (zPu_blind (av := av) a U g mk ⟨h0, h1⟩).2, tw.same (u := U) rfl h2⟩
theorem zp_VT {s : State} {H : Heap} {locs : List Loc} {A : Nat → Prop} {D : va_G} {tys' : List (ClassId × FieldType)} {w : va_W} {As : List Value} {b : Nat} (q0 : Nat) {ci : Nat} {fs : List Value} {C : String} {T : u_T} {N : Nat} (he : w[q0]? = some (b, .inr (ci, fs))) (hc : vwCl[ci]? = some (C, T, N)) (hP : va_P D vwCl w H) (hK : va_K D vwCl tys' s) (hSt : gSt A s s.heap) (hS : va_S A s.heap H locs) (hnw : nw s) (htw : tw s) :
    PreV s H C b (va_Pc (.ref b :: As) (zPt D tys' w)) As := ⟨zPt_blind, va_recv hK hP hc he, fun U hU hW => ⟨rfl, zp_at hP hK hSt hS hnw U hU hW, tw.warm hW htw⟩⟩
