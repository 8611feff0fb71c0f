set_option maxHeartbeats 4000000 in
set_option maxRecDepth 100000 in
theorem c_sizeOf (l : Launch) (D : va_G) (a : Nat → Nat) (cA : ClassId) (N : Int32) (f : Nat → Int32) (ob : OB) (tr : TR) (nd : ND) (k : Nat) (hk : k < 22) : Met l yX0_sizeOf (wX0_sizeOf :: wb) ({ frames := 0, cells := 0, slots := 0, locals := 0 } : Room) (va_Pc [.int (nI k)] (zPu D [(cA, .int)] (cw a cA N f ob tr nd))) (zb_I (nI (xZ k))) 0 0 (fun _ => False) := by
  refine Met.ofW (cc := cX0_sizeOf) (maxL := 1) (ret := (some .int)) (by decide) rfl ?_
  intro p ev s m args below meth c s₁ B hml hv
  obtain ⟨rfl, hP, hK, hSt, hnw⟩ := hv
  have hx := B.exec
  have hb := B.bytes
  have hr := B.returns
  have hts := atoms_spec (ws := wX0_sizeOf :: wb) B.pre
  have htb : ∀ w ∈ wb, w.before ([.int (nI k)]).toArray s = true := fun w h => hts w (List.mem_cons_of_mem _ h)
  have hown : s.vm.findClass RX0 = some m.cls := findClass_of_methodNamed B.named
  have hlocks := B.notSynchronized
  have hS : va_S (fun _ => False) s.heap s.heap [] := va_S.rf
  obtain ⟨⟨tt, ff, hZT, hTT, hZF, hTF⟩, hXS⟩ := id hSt
  have hl := lv_entry ([.int (nI k)]) (n := 1) (Nat.le_of_ble_eq_true rfl)
  rw [lg_entry_eq]
  generalize (lg_sl ([.int (nI k)]) ++ List.replicate (1 - (lg_sl ([.int (nI k)])).length) Slot.unset).toArray = ls at hl ⊢
  have hl : lv_has ls 1 [(0, .int (nI k))] := hl
  refine zb_abs (fun Q hQ => ?_)
  refine va_gets hx hb hZT hS hown (htb _ kF_X0_25) (fun _ h9 => h9) dX0_sizeOf_0 ?_
  refine lv_iload_n hx hb dX0_sizeOf_3 rfl (lv_at hl 0 rfl) ?_
  refine lv_iconst (v := 5) hx hb dX0_sizeOf_4 (by decide) ?_
  refine lv_imul hx hb dX0_sizeOf_5 ?_
  refine zb_ti (pk_mul k 5) ?_
  refine lv_iconst (v := 2) hx hb dX0_sizeOf_6 (by decide) ?_
  refine lv_iadd hx hb dX0_sizeOf_7 ?_
  refine zb_ti (nI_add (k * 5) 2) ?_
  refine va_ti hx hb hTT hS (i := nI ((k * 5) + 2)) (vp_in_nI (by omega) (by decide)) (v := .int (tT ((k * 5) + 2))) (by rw [nI_clamp (by omega)]) dX0_sizeOf_8 ?_
  refine zb_ti (tT_Z hk) ?_
  rw [hQ]
  exact W.iret (v := nI (xZ k)) hx hb hr (fun t ht hW => ⟨congrArg (fun z => Outcome.returned (some (Value.int z))) (rfl), ht⟩) (fun q h => nomatch h) dX0_sizeOf_9
set_option maxHeartbeats 4000000 in
set_option maxRecDepth 100000 in
theorem c_allows (l : Launch) (D : va_G) (a : Nat → Nat) (cA : ClassId) (N : Int32) (f : Nat → Int32) (ob : OB) (tr : TR) (nd : ND) (k : Nat) (r : Int32) (hk : k < 22) : Met l yX0_allows (wX0_allows :: wb) ({ frames := 0, cells := 0, slots := 0, locals := 0 } : Room) (va_Pc [.int (nI k), .int r] (zPu D [(cA, .int)] (cw a cA N f ob tr nd))) (zb_I (if nI (xR k) &&& r = 0 then 0 else 1)) 0 0 (fun _ => False) := by
  refine Met.ofW (cc := cX0_allows) (maxL := 2) (ret := (some .boolean)) (by decide) rfl ?_
  intro p ev s m args below meth c s₁ B hml hv
  obtain ⟨rfl, hP, hK, hSt, hnw⟩ := hv
  have hx := B.exec
  have hb := B.bytes
  have hr := B.returns
  have hts := atoms_spec (ws := wX0_allows :: wb) B.pre
  have htb : ∀ w ∈ wb, w.before ([.int (nI k), .int r]).toArray s = true := fun w h => hts w (List.mem_cons_of_mem _ h)
  have hown : s.vm.findClass RX0 = some m.cls := findClass_of_methodNamed B.named
  have hlocks := B.notSynchronized
  have hS : va_S (fun _ => False) s.heap s.heap [] := va_S.rf
  obtain ⟨⟨tt, ff, hZT, hTT, hZF, hTF⟩, hXS⟩ := id hSt
  have hl := lv_entry ([.int (nI k), .int r]) (n := 2) (Nat.le_of_ble_eq_true rfl)
  rw [lg_entry_eq]
  generalize (lg_sl ([.int (nI k), .int r]) ++ List.replicate (2 - (lg_sl ([.int (nI k), .int r])).length) Slot.unset).toArray = ls at hl ⊢
  have hl : lv_has ls 2 [(0, .int (nI k)), (1, .int r)] := hl
  refine zb_abs (fun Q hQ => ?_)
  refine va_gets hx hb hZT hS hown (htb _ kF_X0_25) (fun _ h9 => h9) dX0_allows_0 ?_
  refine lv_iload_n hx hb dX0_allows_3 rfl (lv_at hl 0 rfl) ?_
  refine lv_iconst (v := 5) hx hb dX0_allows_4 (by decide) ?_
  refine lv_imul hx hb dX0_allows_5 ?_
  refine zb_ti (pk_mul k 5) ?_
  refine lv_iconst (v := 3) hx hb dX0_allows_6 (by decide) ?_
  refine lv_iadd hx hb dX0_allows_7 ?_
  refine zb_ti (nI_add (k * 5) 3) ?_
  refine va_ti hx hb hTT hS (i := nI ((k * 5) + 3)) (vp_in_nI (by omega) (by decide)) (v := .int (tT ((k * 5) + 3))) (by rw [nI_clamp (by omega)]) dX0_allows_8 ?_
  refine zb_ti (tT_R hk) ?_
  refine lv_iload_n hx hb dX0_allows_9 rfl (lv_at hl 1 rfl) ?_
  refine lv_iand hx hb dX0_allows_10 ?_
  refine lv_if_eq (tgt := 18) hx hb dX0_allows_11 (by decide) (fun hc1 => ?_) (fun hc1 => ?_)
  · refine lv_iconst (v := 0) hx hb dX0_allows_18 (by decide) ?_
    rw [hQ]
    exact W.zret (v := 0) hx hb hr rfl (fun t ht hW => ⟨congrArg (fun z => Outcome.returned (some (Value.int z))) ((if_pos hc1).symm), ht⟩) (fun q h => nomatch h) dX0_allows_19
  refine lv_iconst (v := 1) hx hb dX0_allows_14 (by decide) ?_
  refine lv_goto (tgt := 19) hx hb dX0_allows_15 (by decide) ?_
  rw [hQ]
  exact W.zret (v := 1) hx hb hr rfl (fun t ht hW => ⟨congrArg (fun z => Outcome.returned (some (Value.int z))) ((if_neg hc1).symm), ht⟩) (fun q h => nomatch h) dX0_allows_19
set_option maxHeartbeats 4000000 in
set_option maxRecDepth 100000 in
theorem c_byteAt (l : Launch) (D : va_G) (a : Nat → Nat) (cA : ClassId) (N : Int32) (f : Nat → Int32) (ob : OB) (tr : TR) (nd : ND) (k i : Nat) (hk : k < 22) (hi : i < xZ k) : Met l yX0_byteAt (wX0_byteAt :: wb) ({ frames := 0, cells := 0, slots := 0, locals := 0 } : Room) (va_Pc [.ref (a 1), .int (nI k), .int (nI i)] (zPu D [(cA, .int)] (cw a cA N f ob tr nd))) (zb_I (f (xP k + i))) 0 0 (fun _ => False) := by
  refine Met.ofW (cc := cX0_byteAt) (maxL := 3) (ret := (some .int)) (by decide) rfl ?_
  intro p ev s m args below meth c s₁ B hml hv
  obtain ⟨rfl, hP, hK, hSt, hnw⟩ := hv
  have hx := B.exec
  have hb := B.bytes
  have hr := B.returns
  have hts := atoms_spec (ws := wX0_byteAt :: wb) B.pre
  have htb : ∀ w ∈ wb, w.before ([.ref (a 1), .int (nI k), .int (nI i)]).toArray s = true := fun w h => hts w (List.mem_cons_of_mem _ h)
  have hown : s.vm.findClass RX0 = some m.cls := findClass_of_methodNamed B.named
  have hlocks := B.notSynchronized
  have hS : va_S (fun _ => False) s.heap s.heap [] := va_S.rf
  obtain ⟨⟨tt, ff, hZT, hTT, hZF, hTF⟩, hXS⟩ := id hSt
  have hl := lv_entry ([.ref (a 1), .int (nI k), .int (nI i)]) (n := 3) (Nat.le_of_ble_eq_true rfl)
  rw [lg_entry_eq]
  generalize (lg_sl ([.ref (a 1), .int (nI k), .int (nI i)]) ++ List.replicate (3 - (lg_sl ([.ref (a 1), .int (nI k), .int (nI i)])).length) Slot.unset).toArray = ls at hl ⊢
  have hl : lv_has ls 3 [(0, .ref (a 1)), (1, .int (nI k)), (2, .int (nI i))] := hl
  refine zb_abs (fun Q hQ => ?_)
  have hft := x_fit k hk
  refine lv_aload_n hx hb dX0_byteAt_0 rfl (lv_at hl 0 rfl) ?_
  refine va_get (D := D) (ci := 0) (v := .ref (a 2)) (fs := [.ref (a 2)]) (C := RX0) (T := TX0) (N := 1) hx hb htb inX0 hown hK hP 1 rfl rfl 0 (by decide) (htb _ kF_X0_9) (fun _ h9 => h9) rfl dX0_byteAt_1 ?_
  refine va_gets hx hb hZT hS hown (htb _ kF_X0_25) (fun _ h9 => h9) dX0_byteAt_4 ?_
  refine lv_iload_n hx hb dX0_byteAt_7 rfl (lv_at hl 1 rfl) ?_
  refine lv_iconst (v := 5) hx hb dX0_byteAt_8 (by decide) ?_
  refine lv_imul hx hb dX0_byteAt_9 ?_
  refine zb_ti (pk_mul k 5) ?_
  refine lv_iconst (v := 4) hx hb dX0_byteAt_10 (by decide) ?_
  refine lv_iadd hx hb dX0_byteAt_11 ?_
  refine zb_ti (nI_add (k * 5) 4) ?_
  refine va_ti hx hb hTT hS (i := nI ((k * 5) + 4)) (vp_in_nI (by omega) (by decide)) (v := .int (tT ((k * 5) + 4))) (by rw [nI_clamp (by omega)]) dX0_byteAt_12 ?_
  refine zb_ti (tT_P hk) ?_
  refine lv_iload_n hx hb dX0_byteAt_13 rfl (lv_at hl 2 rfl) ?_
  refine lv_iadd hx hb dX0_byteAt_14 ?_
  refine zb_ti (nI_add (xP k) i) ?_
  refine va_iald (i := nI ((xP k) + i)) hx hb hK hP 2 0 rfl rfl (vp_in_nI (by omega) (by decide)) dX0_byteAt_15 ?_
  refine zb_ti (y := f ((xP k) + i)) (by rw [nI_clamp (by omega)]) ?_
  rw [hQ]
  exact W.iret (v := f ((xP k) + i)) hx hb hr (fun t ht hW => ⟨congrArg (fun z => Outcome.returned (some (Value.int z))) (rfl), ht⟩) (fun q h => nomatch h) dX0_byteAt_16
set_option maxHeartbeats 4000000 in
set_option maxRecDepth 100000 in
theorem c_find (l : Launch) (D : va_G) (a : Nat → Nat) (cA : ClassId) (N : Int32) (f : Nat → Int32) (ob : OB) (tr : TR) (nd : ND) (i sb : Int32)  : Met l yX0_find (wX0_find :: wb) ({ frames := 0, cells := 0, slots := 0, locals := 0 } : Room) (va_Pc [.ref (a 1), .int i, .int sb] (zPu D [(cA, .int)] (cw a cA N f ob tr nd))) (zb_I (oI (fd i sb))) 0 0 (fun _ => False) := by
  refine Met.ofW (cc := cX0_find) (maxL := 5) (ret := (some .int)) (by decide) rfl ?_
  intro p ev s m args below meth c s₁ B hml hv
  obtain ⟨rfl, hP, hK, hSt, hnw⟩ := hv
  have hx := B.exec
  have hb := B.bytes
  have hr := B.returns
  have hts := atoms_spec (ws := wX0_find :: wb) B.pre
  have htb : ∀ w ∈ wb, w.before ([.ref (a 1), .int i, .int sb]).toArray s = true := fun w h => hts w (List.mem_cons_of_mem _ h)
  have hown : s.vm.findClass RX0 = some m.cls := findClass_of_methodNamed B.named
  have hlocks := B.notSynchronized
  have hS : va_S (fun _ => False) s.heap s.heap [] := va_S.rf
  obtain ⟨⟨tt, ff, hZT, hTT, hZF, hTF⟩, hXS⟩ := id hSt
  have hl := lv_entry ([.ref (a 1), .int i, .int sb]) (n := 5) (Nat.le_of_ble_eq_true rfl)
  rw [lg_entry_eq]
  generalize (lg_sl ([.ref (a 1), .int i, .int sb]) ++ List.replicate (5 - (lg_sl ([.ref (a 1), .int i, .int sb])).length) Slot.unset).toArray = ls at hl ⊢
  have hl : lv_has ls 5 [(0, .ref (a 1)), (1, .int i), (2, .int sb)] := hl
  refine zb_abs (fun Q hQ => ?_)
  refine lv_iconst (v := 0) hx hb dX0_find_0 (by decide) ?_
  refine lv_istore_n hx hb dX0_find_1 rfl hl (by decide) rfl (fun ls hl => ?_)
  have hl : lv_has ls 5 [(3, .int 0), (0, .ref (a 1)), (1, .int i), (2, .int sb)] := hl
  have lp : ∀ (nn k : Nat) (ls : Array Slot), k + nn = 22 → fd i sb = fdF i sb nn k → lv_has ls 5 [(0, .ref (a 1)), (1, .int i), (2, .int sb), (3, .int (nI k))] → W p l ev ({ frames := 0, cells := 0, slots := 0, locals := 0 } : Room) s m ([.ref (a 1), .int i, .int sb]).toArray below meth c s.heap [] 0 0 Q (F0 m 2 ls []) := by
    intro nn
    induction nn with
    | zero =>
      intro k ls hk hfd hl
      obtain rfl : k = 22 := by omega
      refine lv_iload_n hx hb dX0_find_2 rfl (lv_at hl 3 rfl) ?_
      refine lv_bipush (v := 22) hx hb dX0_find_3 (by decide) ?_
      refine lv_icmp_ge (tgt := 43) hx hb dX0_find_5 (by decide) (fun _ => ?_) (fun hno => absurd (by decide) hno)
      refine lv_iconst (v := (-1)) hx hb dX0_find_43 (by decide) ?_
      rw [hQ]
      exact W.iret (v := (-1)) hx hb hr (fun t ht hW => ⟨congrArg (fun z => Outcome.returned (some (Value.int z))) (by rw [hfd]; simp only [fdF]; rfl), ht⟩) (fun q h => nomatch h) dX0_find_44
    | succ nn ih =>
      intro k ls hk hfd hl
      have hk22 : k < 22 := by omega
      refine lv_iload_n hx hb dX0_find_2 rfl (lv_at hl 3 rfl) ?_
      refine lv_bipush (v := 22) hx hb dX0_find_3 (by decide) ?_
      refine lv_icmp_ge (tgt := 43) hx hb dX0_find_5 (by decide) (fun hno => absurd hno (nI_ge (a := k) (b := 22) hk22 (by decide))) (fun _ => ?_)
      refine lv_iload_n hx hb dX0_find_8 rfl (lv_at hl 3 rfl) ?_
      refine lv_iconst (v := 5) hx hb dX0_find_9 (by decide) ?_
      refine lv_imul hx hb dX0_find_10 ?_
      refine zb_ti (pk_mul k 5) ?_
      refine lv_istore hx hb dX0_find_11 hl (by decide) rfl (fun ls hl => ?_)
      have hl : lv_has ls 5 [(4, .int (nI (k * 5))), (0, .ref (a 1)), (1, .int i), (2, .int sb), (3, .int (nI k))] := hl
      refine va_gets hx hb hZT hS hown (htb _ kF_X0_25) (fun _ h9 => h9) dX0_find_13 ?_
      refine lv_iload hx hb dX0_find_16 (lv_at hl 0 rfl) ?_
      refine va_ti hx hb hTT hS (i := nI (k * 5)) (vp_in_nI (by omega) (by decide)) (v := .int (tT (k * 5))) (by rw [nI_clamp (by omega)]) dX0_find_18 ?_
      refine zb_ti (tT_I hk22) ?_
      refine lv_iload_n hx hb dX0_find_19 rfl (lv_at hl 2 rfl) ?_
      refine lv_icmp_ne (tgt := 37) hx hb dX0_find_20 (by decide) (fun hc1 => ?_) (fun hc1 => ?_)
      · refine lv_iinc (k := 4) (v := nI (k + 1)) hx hb dX0_find_37 hl rfl (nI_1 k) (by decide) rfl (fun ls hl => ?_)
        have hl : lv_has ls 5 [(3, .int (nI (k + 1))), (4, .int (nI (k * 5))), (0, .ref (a 1)), (1, .int i), (2, .int sb)] := hl
        refine lv_goto (tgt := 2) hx hb dX0_find_40 (by decide) ?_
        exact ih (k + 1) ls (by omega) (by rw [hfd]; simp only [fdF, if_neg hc1]) (lv_sub hl [2, 3, 4, 0] rfl)
      refine va_gets hx hb hZT hS hown (htb _ kF_X0_25) (fun _ h9 => h9) dX0_find_23 ?_
      refine lv_iload hx hb dX0_find_26 (lv_at hl 0 rfl) ?_
      refine lv_iconst (v := 1) hx hb dX0_find_28 (by decide) ?_
      refine lv_iadd hx hb dX0_find_29 ?_
      refine zb_ti (nI_add (k * 5) 1) ?_
      refine va_ti hx hb hTT hS (i := nI ((k * 5) + 1)) (vp_in_nI (by omega) (by decide)) (v := .int (tT ((k * 5) + 1))) (by rw [nI_clamp (by omega)]) dX0_find_30 ?_
      refine zb_ti (tT_S hk22) ?_
      refine lv_iload_n hx hb dX0_find_31 rfl (lv_at hl 3 rfl) ?_
      refine lv_icmp_ne (tgt := 37) hx hb dX0_find_32 (by decide) (fun hc2 => ?_) (fun hc2 => ?_)
      · refine lv_iinc (k := 4) (v := nI (k + 1)) hx hb dX0_find_37 hl rfl (nI_1 k) (by decide) rfl (fun ls hl => ?_)
        have hl : lv_has ls 5 [(3, .int (nI (k + 1))), (4, .int (nI (k * 5))), (0, .ref (a 1)), (1, .int i), (2, .int sb)] := hl
        refine lv_goto (tgt := 2) hx hb dX0_find_40 (by decide) ?_
        exact ih (k + 1) ls (by omega) (by rw [hfd]; simp only [fdF, if_pos hc1, if_neg hc2]) (lv_sub hl [2, 3, 4, 0] rfl)
      refine lv_iload_n hx hb dX0_find_35 rfl (lv_at hl 4 rfl) ?_
      rw [hQ]
      exact W.iret (v := nI k) hx hb hr (fun t ht hW => ⟨congrArg (fun z => Outcome.returned (some (Value.int z))) (by rw [hfd]; simp only [fdF, if_pos hc1, if_pos hc2]; rfl), ht⟩) (fun q h => nomatch h) dX0_find_36
  exact lp 22 0 ls rfl rfl (lv_sub hl [1, 2, 3, 0] rfl)
