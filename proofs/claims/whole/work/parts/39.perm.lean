-- three worlds side by side, in another order
theorem wD_xm {A : Nat → Prop} {w0 wr : va_W} (h : va_D A (w0 ++ wr)) : ∀ p ∈ w0, ∀ q ∈ wr, p.1 ≠ q.1 := fun p hp q hq => by
  obtain ⟨i, hi⟩ := List.getElem?_of_mem hp
  obtain ⟨j, hj⟩ := List.getElem?_of_mem hq
  exact wD_x h i j p q hi hj
theorem wD_app {A : Nat → Prop} {w1 w2 : va_W} (h1 : va_D A w1) (h2 : va_D A w2) (hx : ∀ p ∈ w1, ∀ q ∈ w2, p.1 ≠ q.1) : va_D A (w1 ++ w2) := h1.app h2 (fun _ _ p q hi hj => hx p (List.mem_of_getElem? hi) q (List.mem_of_getElem? hj))
theorem wP_213 {D : va_G} {cl : List vw_C} {w1 w2 w3 : va_W} {H : Heap} (h : va_P D cl (w1 ++ (w2 ++ w3)) H) : va_P D cl (w2 ++ (w1 ++ w3)) H := (wP_l (wP_r h)).app ((wP_l h).app (wP_r (wP_r h)))
theorem wP_132 {D : va_G} {cl : List vw_C} {w1 w2 w3 : va_W} {H : Heap} (h : va_P D cl (w1 ++ (w2 ++ w3)) H) : va_P D cl ((w1 ++ w3) ++ w2) H := ((wP_l h).app (wP_r (wP_r h))).app (wP_l (wP_r h))
theorem wP_123 {D : va_G} {cl : List vw_C} {w1 w2 w3 : va_W} {H : Heap} (h : va_P D cl ((w1 ++ w3) ++ w2) H) : va_P D cl (w1 ++ (w2 ++ w3)) H := (wP_l (wP_l h)).app ((wP_r h).app (wP_r (wP_l h)))
theorem wD_213 {A : Nat → Prop} {w1 w2 w3 : va_W} (h : va_D A (w1 ++ (w2 ++ w3))) : va_D A (w2 ++ (w1 ++ w3)) :=
  wD_app (wD_l (wD_r h)) (wD_app (wD_l h) (wD_r (wD_r h)) (fun p hp q hq => wD_xm h p hp q (List.mem_append_right _ hq))) (fun p hp q hq => by
    rcases List.mem_append.mp hq with h1 | h1
    · exact fun e => wD_xm h q h1 p (List.mem_append_left _ hp) e.symm
    · exact wD_xm (wD_r h) p hp q h1)
theorem wD_132 {A : Nat → Prop} {w1 w2 w3 : va_W} (h : va_D A (w1 ++ (w2 ++ w3))) : va_D A ((w1 ++ w3) ++ w2) :=
  wD_app (wD_app (wD_l h) (wD_r (wD_r h)) (fun p hp q hq => wD_xm h p hp q (List.mem_append_right _ hq))) (wD_l (wD_r h)) (fun p hp q hq => by
    rcases List.mem_append.mp hp with h1 | h1
    · exact wD_xm h p h1 q (List.mem_append_left _ hq)
    · exact fun e => wD_xm (wD_r h) q hq p h1 e.symm)
theorem wD_123 {A : Nat → Prop} {w1 w2 w3 : va_W} (h : va_D A ((w1 ++ w3) ++ w2)) : va_D A (w1 ++ (w2 ++ w3)) :=
  wD_app (wD_l (wD_l h)) (wD_app (wD_r h) (wD_r (wD_l h)) (fun p hp q hq e => wD_xm h q (List.mem_append_right _ hq) p hp e.symm)) (fun p hp q hq => by
    rcases List.mem_append.mp hq with h1 | h1
    · exact wD_xm h p (List.mem_append_left _ hp) q h1
    · exact wD_xm (wD_l h) p hp q h1)
-- numbers of the law
theorem sub5 {L : Nat} (hL : L ≤ 2561) {i : Nat} (hi : i ≤ 5000) : (nI L - 5 < nI i) ↔ L < i + 5 := by
  rw [Int32.lt_iff_toInt_lt, nI_toInt (by omega)]
  have h1 : (nI L - 5).toInt = (L : Int) - 5 := by
    rw [Int32.toInt_sub, nI_toInt (by omega), show (5 : Int32).toInt = 5 from rfl]
    rw [Int.bmod_eq_of_le (by omega) (by omega)]
  rw [h1]
  omega
theorem and15 (x : Int32) : ∃ v, v < 16 ∧ x &&& 15 = nI v := ⟨x.toBitVec.toNat % 2 ^ 4, Nat.mod_lt _ (by decide), pk_and x 4 rfl⟩
theorem neg32 {k : Nat} (h1 : 2 ^ 31 ≤ k) (h2 : k < 2 ^ 32) : nI k < 0 := by
  rw [Int32.lt_iff_toInt_lt]
  have e1 : (nI k).toInt = (k : Int) - 4294967296 := by
    show (BitVec.ofNat 32 k).toInt = _
    rw [BitVec.toInt_eq_toNat_cond, BitVec.toNat_ofNat, Nat.mod_eq_of_lt h2]
    rw [if_neg (by omega)]
    rfl
  rw [e1, show (0 : Int32).toInt = 0 from rfl]
  omega
theorem ge32 {k z : Nat} (hz : z < 2 ^ 31) (hk : k < 2 ^ 32) (h : ¬ k < z) : nI k < 0 ∨ nI z ≤ nI k := by
  by_cases h1 : k < 2 ^ 31
  · exact Or.inr (nI_le (by omega) h1)
  · exact Or.inl (neg32 (by omega) hk)
set_option maxHeartbeats 4000000 in
set_option maxRecDepth 100000 in
/-- cell(script, 0) -/
theorem l_cell (l : Launch) (b L : Nat) (xs : Nat → Int32) (hL : L ≤ 2561) : Met l yL_cell (wL_cell :: wb) ({ frames := 0, cells := 0, slots := 0, locals := 0 } : Room) (va_Pc [.ref b, .int 0] (fun U => va_X b L xs U U.heap)) (zb_I (if 0 < L then xs 0 else 0)) 0 0 (fun _ => False) := by
  refine Met.ofW (cc := cL_cell) (maxL := 2) (ret := some .int) (by decide) rfl ?_
  intro p ev s m args below meth c s₁ B hml hv
  obtain ⟨rfl, hX⟩ := hv
  have hx := B.exec
  have hb := B.bytes
  have hr := B.returns
  have hS : va_S (fun _ => False) s.heap s.heap [] := va_S.rf
  have hbl : b < s.heap.size := by
    obtain ⟨scr, h1, -⟩ := hX
    exact (Array.getElem?_eq_some_iff.mp h1).1
  have hl := lv_entry ([.ref b, .int 0]) (n := 2) (Nat.le_of_ble_eq_true rfl)
  rw [lg_entry_eq]
  generalize (lg_sl ([.ref b, .int 0]) ++ List.replicate (2 - (lg_sl ([.ref b, .int 0])).length) Slot.unset).toArray = ls at hl ⊢
  have hl : lv_has ls 2 [(0, .ref b), (1, .int 0)] := hl
  refine lv_iload_n hx hb dL_cell_0 rfl (lv_at hl 1 rfl) ?_
  refine lv_aload_n hx hb dL_cell_1 rfl (lv_at hl 0 rfl) ?_
  refine va_slen hx hb hX hbl (fun h => h) hS dL_cell_2 ?_
  refine lv_icmp_ge (tgt := 12) hx hb dL_cell_3 (by decide) (fun hc => ?_) (fun hc => ?_)
  · refine lv_iconst (v := 0) hx hb dL_cell_12 (by decide) ?_
    have h0 : ¬ 0 < L := fun h => nI_ge (a := 0) h (by omega) hc
    exact W.iret (v := 0) hx hb hr (fun t9 ht hW => ⟨by rw [if_neg h0], ht⟩) (fun q h => nomatch h) dL_cell_13
  · have h0 : 0 < L := by
      have h9 : ¬ L ≤ 0 := fun h => hc (nI_le (b := 0) h (by decide))
      omega
    refine lv_aload_n hx hb dL_cell_6 rfl (lv_at hl 0 rfl) ?_
    refine lv_iload_n hx hb dL_cell_7 rfl (lv_at hl 1 rfl) ?_
    refine va_sld (i := nI 0) hx hb hX hbl (fun h => h) hS (vp_in_nI h0 (by omega)) dL_cell_8 ?_
    refine lv_goto (tgt := 13) hx hb dL_cell_9 (by decide) ?_
    exact W.iret hx hb hr (fun t9 ht hW => ⟨by rw [if_pos h0]; rfl, ht⟩) (fun q h => nomatch h) dL_cell_13
