set_option maxHeartbeats 4000000 in
set_option maxRecDepth 100000 in
theorem c_hasIndex (l : Launch) (D : va_G) (a : Nat → Nat) (cA : ClassId) (N : Int32) (f : Nat → Int32) (ob : OB) (tr : TR) (nd : ND) (i : Int32)  : Met l yX0_hasIndex (wX0_hasIndex :: wb) ({ frames := 0, cells := 0, slots := 0, locals := 0 } : Room) (va_Pc [.ref (a 1), .int i] (zPu D [(cA, .int)] (cw a cA N f ob tr nd))) (zb_I (if hi i = true then 1 else 0)) 0 0 (fun _ => False) := by
  refine Met.ofW (cc := cX0_hasIndex) (maxL := 3) (ret := (some .boolean)) (by decide) rfl ?_
  intro p ev s m args below meth c s₁ B hml hv
  obtain ⟨rfl, hP, hK, hSt, hnw⟩ := hv
  have hx := B.exec
  have hb := B.bytes
  have hr := B.returns
  have hts := atoms_spec (ws := wX0_hasIndex :: wb) B.pre
  have htb : ∀ w ∈ wb, w.before ([.ref (a 1), .int i]).toArray s = true := fun w h => hts w (List.mem_cons_of_mem _ h)
  have hown : s.vm.findClass RX0 = some m.cls := findClass_of_methodNamed B.named
  have hlocks := B.notSynchronized
  have hS : va_S (fun _ => False) s.heap s.heap [] := va_S.rf
  obtain ⟨⟨tt, ff, hZT, hTT, hZF, hTF⟩, hXS⟩ := id hSt
  have hl := lv_entry ([.ref (a 1), .int i]) (n := 3) (Nat.le_of_ble_eq_true rfl)
  rw [lg_entry_eq]
  generalize (lg_sl ([.ref (a 1), .int i]) ++ List.replicate (3 - (lg_sl ([.ref (a 1), .int i])).length) Slot.unset).toArray = ls at hl ⊢
  have hl : lv_has ls 3 [(0, .ref (a 1)), (1, .int i)] := hl
  refine zb_abs (fun Q hQ => ?_)
  refine lv_iconst (v := 0) hx hb dX0_hasIndex_0 (by decide) ?_
  refine lv_istore_n hx hb dX0_hasIndex_1 rfl hl (by decide) rfl (fun ls hl => ?_)
  have hl : lv_has ls 3 [(2, .int 0), (0, .ref (a 1)), (1, .int i)] := hl
  have lp : ∀ (nn k : Nat) (ls : Array Slot), k + nn = 22 → (hi i = hiF i nn k) → lv_has ls 3 [(0, .ref (a 1)), (1, .int i), (2, .int (nI (k)))] → W p l ev ({ frames := 0, cells := 0, slots := 0, locals := 0 } : Room) s m ([.ref (a 1), .int i]).toArray below meth c s.heap [] 0 0 Q (F0 m 2 ls []) := by
    intro nn
    induction nn with
    | zero =>
      intro k ls hk_lp hfd hl
      have hk0_lp : k = 22 := by omega
      refine lv_iload_n hx hb dX0_hasIndex_2 rfl (lv_at hl 2 rfl) ?_
      refine lv_bipush (v := 22) hx hb dX0_hasIndex_3 (by decide) ?_
      refine lv_icmp_ge (tgt := 27) hx hb dX0_hasIndex_5 (by decide) (fun _ => ?_) (fun hno => absurd (by rw [hk0_lp]; decide) hno)
      refine lv_iconst (v := 0) hx hb dX0_hasIndex_27 (by decide) ?_
      rw [hQ]
      exact W.zret (v := 0) hx hb hr rfl (fun t ht hW => ⟨congrArg (fun z => Outcome.returned (some (Value.int z))) (by rw [hfd]; simp only [hiF]; rfl), ht⟩) (fun q h => nomatch h) dX0_hasIndex_28
    | succ nn ih_lp =>
      intro k ls hk_lp hfd hl
      have hk1_lp : k < 22 := by omega
      refine lv_iload_n hx hb dX0_hasIndex_2 rfl (lv_at hl 2 rfl) ?_
      refine lv_bipush (v := 22) hx hb dX0_hasIndex_3 (by decide) ?_
      refine lv_icmp_ge (tgt := 27) hx hb dX0_hasIndex_5 (by decide) (fun hno => absurd hno (nI_ge (a := k) (b := 22) hk1_lp (by decide))) (fun _ => ?_)
      refine va_gets hx hb hZT hS hown (htb _ kF_X0_25) (fun _ h9 => h9) dX0_hasIndex_8 ?_
      refine lv_iload_n hx hb dX0_hasIndex_11 rfl (lv_at hl 2 rfl) ?_
      refine lv_iconst (v := 5) hx hb dX0_hasIndex_12 (by decide) ?_
      refine lv_imul hx hb dX0_hasIndex_13 ?_
      refine zb_ti (pk_mul (k) 5) ?_
      refine va_ti hx hb hTT hS (i := nI ((k) * 5)) (vp_in_nI (by omega) (by decide)) (v := .int (tT ((k) * 5))) (by rw [nI_clamp (by omega)]) dX0_hasIndex_14 ?_
      refine zb_ti (tT_I hk1_lp) ?_
      refine lv_iload_n hx hb dX0_hasIndex_15 rfl (lv_at hl 1 rfl) ?_
      refine lv_icmp_ne (tgt := 21) hx hb dX0_hasIndex_16 (by decide) (fun hc1 => ?_) (fun hc1 => ?_)
      · refine lv_iinc (k := 2) (v := nI ((k) + 1)) hx hb dX0_hasIndex_21 hl rfl (nI_1 (k)) (by decide) rfl (fun ls hl => ?_)
        have hl : lv_has ls 3 [(2, .int (nI ((k) + 1))), (0, .ref (a 1)), (1, .int i)] := hl
        refine lv_goto (tgt := 2) hx hb dX0_hasIndex_24 (by decide) ?_
        exact ih_lp (k + 1) ls (by omega) (by rw [hfd]; simp only [hiF, if_neg hc1]) (lv_sub hl [1, 2, 0] rfl)
      refine lv_iconst (v := 1) hx hb dX0_hasIndex_19 (by decide) ?_
      rw [hQ]
      exact W.zret (v := 1) hx hb hr rfl (fun t ht hW => ⟨congrArg (fun z => Outcome.returned (some (Value.int z))) (by rw [hfd]; simp only [hiF, if_pos hc1]; rfl), ht⟩) (fun q h => nomatch h) dX0_hasIndex_20
  exact lp (22 - 0) (0) ls (by omega) (rfl) (lv_sub hl [1, 2, 0] rfl)
set_option maxHeartbeats 4000000 in
set_option maxRecDepth 100000 in
theorem c_named (l : Launch) (D : va_G) (a : Nat → Nat) (cA : ClassId) (N : Int32) (f : Nat → Int32) (ob : OB) (tr : TR) (nd : ND) (nm : Int32) (r : Nat) (hr8 : r < 8) : Met l yX0_named (wX0_named :: wb) ({ frames := 0, cells := 0, slots := 0, locals := 0 } : Room) (va_Pc [.ref (a 1), .int nm, .int (nI r)] (zPu D [(cA, .int)] (cw a cA N f ob tr nd))) (zb_I (oI (mp nm r))) 0 0 (fun _ => False) := by
  refine Met.ofW (cc := cX0_named) (maxL := 6) (ret := (some .int)) (by decide) rfl ?_
  intro p ev s m args below meth c s₁ B hml hv
  obtain ⟨rfl, hP, hK, hSt, hnw⟩ := hv
  have hx := B.exec
  have hb := B.bytes
  have hr := B.returns
  have hts := atoms_spec (ws := wX0_named :: wb) B.pre
  have htb : ∀ w ∈ wb, w.before ([.ref (a 1), .int nm, .int (nI r)]).toArray s = true := fun w h => hts w (List.mem_cons_of_mem _ h)
  have hown : s.vm.findClass RX0 = some m.cls := findClass_of_methodNamed B.named
  have hlocks := B.notSynchronized
  have hS : va_S (fun _ => False) s.heap s.heap [] := va_S.rf
  obtain ⟨⟨tt, ff, hZT, hTT, hZF, hTF⟩, hXS⟩ := id hSt
  have hl := lv_entry ([.ref (a 1), .int nm, .int (nI r)]) (n := 6) (Nat.le_of_ble_eq_true rfl)
  rw [lg_entry_eq]
  generalize (lg_sl ([.ref (a 1), .int nm, .int (nI r)]) ++ List.replicate (6 - (lg_sl ([.ref (a 1), .int nm, .int (nI r)])).length) Slot.unset).toArray = ls at hl ⊢
  have hl : lv_has ls 6 [(0, .ref (a 1)), (1, .int nm), (2, .int (nI r))] := hl
  refine zb_abs (fun Q hQ => ?_)
  refine lv_iconst (v := 0) hx hb dX0_named_0 (by decide) ?_
  refine lv_istore_n hx hb dX0_named_1 rfl hl (by decide) rfl (fun ls hl => ?_)
  have hl : lv_has ls 6 [(3, .int 0), (0, .ref (a 1)), (1, .int nm), (2, .int (nI r))] := hl
  have lp : ∀ (nn k : Nat) (ls : Array Slot), k + nn = 22 → (mp nm r = mpF nm r nn k) → lv_has ls 6 [(0, .ref (a 1)), (1, .int nm), (2, .int (nI r)), (3, .int (nI (k)))] → W p l ev ({ frames := 0, cells := 0, slots := 0, locals := 0 } : Room) s m ([.ref (a 1), .int nm, .int (nI r)]).toArray below meth c s.heap [] 0 0 Q (F0 m 2 ls []) := by
    intro nn
    induction nn with
    | zero =>
      intro k ls hk_lp hfd hl
      have hk0_lp : k = 22 := by omega
      refine lv_iload_n hx hb dX0_named_2 rfl (lv_at hl 3 rfl) ?_
      refine lv_bipush (v := 22) hx hb dX0_named_3 (by decide) ?_
      refine lv_icmp_ge (tgt := 81) hx hb dX0_named_5 (by decide) (fun _ => ?_) (fun hno => absurd (by rw [hk0_lp]; decide) hno)
      refine lv_iconst (v := (-1)) hx hb dX0_named_81 (by decide) ?_
      rw [hQ]
      exact W.iret (v := (-1)) hx hb hr (fun t ht hW => ⟨congrArg (fun z => Outcome.returned (some (Value.int z))) (by rw [hfd]; simp only [mpF]; rfl), ht⟩) (fun q h => nomatch h) dX0_named_82
    | succ nn ih_lp =>
      intro k ls hk_lp hfd hl
      have hk1_lp : k < 22 := by omega
      refine lv_iload_n hx hb dX0_named_2 rfl (lv_at hl 3 rfl) ?_
      refine lv_bipush (v := 22) hx hb dX0_named_3 (by decide) ?_
      refine lv_icmp_ge (tgt := 81) hx hb dX0_named_5 (by decide) (fun hno => absurd hno (nI_ge (a := k) (b := 22) hk1_lp (by decide))) (fun _ => ?_)
      refine lv_iload_n hx hb dX0_named_8 rfl (lv_at hl 3 rfl) ?_
      refine lv_iconst (v := 5) hx hb dX0_named_9 (by decide) ?_
      have hft := x_fit k hk1_lp
      refine lv_imul hx hb dX0_named_10 ?_
      refine zb_ti (pk_mul (k) 5) ?_
      refine lv_istore hx hb dX0_named_11 hl (by decide) rfl (fun ls hl => ?_)
      have hl : lv_has ls 6 [(4, .int (nI ((k) * 5))), (0, .ref (a 1)), (1, .int nm), (2, .int (nI r)), (3, .int (nI (k)))] := hl
      refine va_gets hx hb hZT hS hown (htb _ kF_X0_25) (fun _ h9 => h9) dX0_named_13 ?_
      refine lv_iload hx hb dX0_named_16 (lv_at hl 0 rfl) ?_
      refine va_ti hx hb hTT hS (i := nI ((k) * 5)) (vp_in_nI (by omega) (by decide)) (v := .int (tT ((k) * 5))) (by rw [nI_clamp (by omega)]) dX0_named_18 ?_
      refine zb_ti (tT_I hk1_lp) ?_
      refine lv_ldc (v := 65536) hx hb hown (htb _ kK_X0_28) dX0_named_19 ?_
      refine lv_imul hx hb dX0_named_21 ?_
      refine zb_ti (pk_mul (xI k) 65536) ?_
      refine va_gets hx hb hZT hS hown (htb _ kF_X0_25) (fun _ h9 => h9) dX0_named_22 ?_
      refine lv_iload hx hb dX0_named_25 (lv_at hl 0 rfl) ?_
      refine lv_iconst (v := 1) hx hb dX0_named_27 (by decide) ?_
      refine lv_iadd hx hb dX0_named_28 ?_
      refine zb_ti (nI_add ((k) * 5) 1) ?_
      refine va_ti hx hb hTT hS (i := nI (((k) * 5) + 1)) (vp_in_nI (by omega) (by decide)) (v := .int (tT (((k) * 5) + 1))) (by rw [nI_clamp (by omega)]) dX0_named_29 ?_
      refine zb_ti (tT_S hk1_lp) ?_
      refine lv_sipush (v := 256) hx hb dX0_named_30 (by decide) ?_
      refine lv_imul hx hb dX0_named_33 ?_
      refine zb_ti (pk_mul (xS k) 256) ?_
      refine lv_iadd hx hb dX0_named_34 ?_
      refine zb_ti (nI_add ((xI k) * 65536) ((xS k) * 256)) ?_
      refine lv_bipush (v := 8) hx hb dX0_named_35 (by decide) ?_
      refine va_gets hx hb hZT hS hown (htb _ kF_X0_25) (fun _ h9 => h9) dX0_named_37 ?_
      refine lv_iload hx hb dX0_named_40 (lv_at hl 0 rfl) ?_
      refine lv_iconst (v := 2) hx hb dX0_named_42 (by decide) ?_
      refine lv_iadd hx hb dX0_named_43 ?_
      refine zb_ti (nI_add ((k) * 5) 2) ?_
      refine va_ti hx hb hTT hS (i := nI (((k) * 5) + 2)) (vp_in_nI (by omega) (by decide)) (v := .int (tT (((k) * 5) + 2))) (by rw [nI_clamp (by omega)]) dX0_named_44 ?_
      refine zb_ti (tT_Z hk1_lp) ?_
      refine lv_imul hx hb dX0_named_45 ?_
      refine zb_ti (pk_mul 8 (xZ k)) ?_
      refine lv_iadd hx hb dX0_named_46 ?_
      refine zb_ti (nI_add (((xI k) * 65536) + ((xS k) * 256)) (8 * (xZ k))) ?_
      refine zb_ti (y := nI (xKey k)) (rfl) ?_
      refine lv_istore hx hb dX0_named_47 hl (by decide) rfl (fun ls hl => ?_)
      have hl : lv_has ls 6 [(5, .int (nI (xKey k))), (4, .int (nI ((k) * 5))), (0, .ref (a 1)), (1, .int nm), (2, .int (nI r)), (3, .int (nI (k)))] := hl
      refine lv_iload hx hb dX0_named_49 (lv_at hl 0 rfl) ?_
      refine lv_iload_n hx hb dX0_named_51 rfl (lv_at hl 3 rfl) ?_
      refine lv_icmp_ne (tgt := 75) hx hb dX0_named_52 (by decide) (fun hc1 => ?_) (fun hc1 => ?_)
      · refine lv_iinc (k := 5) (v := nI ((k) + 1)) hx hb dX0_named_75 hl rfl (nI_1 (k)) (by decide) rfl (fun ls hl => ?_)
        have hl : lv_has ls 6 [(3, .int (nI ((k) + 1))), (5, .int (nI (xKey k))), (4, .int (nI ((k) * 5))), (0, .ref (a 1)), (1, .int nm), (2, .int (nI r))] := hl
        refine lv_goto (tgt := 2) hx hb dX0_named_78 (by decide) ?_
        exact ih_lp (k + 1) ls (by omega) (by rw [hfd]; simp only [mpF, if_neg hc1]) (lv_sub hl [3, 4, 5, 0] rfl)
      refine va_gets hx hb hZT hS hown (htb _ kF_X0_25) (fun _ h9 => h9) dX0_named_55 ?_
      refine lv_iload hx hb dX0_named_58 (lv_at hl 1 rfl) ?_
      refine lv_iconst (v := 3) hx hb dX0_named_60 (by decide) ?_
      refine lv_iadd hx hb dX0_named_61 ?_
      refine zb_ti (nI_add ((k) * 5) 3) ?_
      refine va_ti hx hb hTT hS (i := nI (((k) * 5) + 3)) (vp_in_nI (by omega) (by decide)) (v := .int (tT (((k) * 5) + 3))) (by rw [nI_clamp (by omega)]) dX0_named_62 ?_
      refine zb_ti (tT_R hk1_lp) ?_
      refine lv_iload_n hx hb dX0_named_63 rfl (lv_at hl 4 rfl) ?_
      refine lv_iand hx hb dX0_named_64 ?_
      refine zb_ti (y := nI (xR k &&& r)) (nx_and _ _) ?_
      refine lv_iload_n hx hb dX0_named_65 rfl (lv_at hl 4 rfl) ?_
      refine lv_icmp_ne (tgt := 73) hx hb dX0_named_66 (by decide) (fun hc2 => ?_) (fun hc2 => ?_)
      · refine lv_iconst (v := (-1)) hx hb dX0_named_73 (by decide) ?_
        rw [hQ]
        exact W.iret (v := (-1)) hx hb hr (fun t ht hW => ⟨congrArg (fun z => Outcome.returned (some (Value.int z))) (by rw [hfd]; simp only [mpF, if_pos hc1, if_neg (fun h : xR k &&& r = r => hc2 (by rw [h]))]; rfl), ht⟩) (fun q h => nomatch h) dX0_named_74
      refine lv_iload_n hx hb dX0_named_69 rfl (lv_at hl 5 rfl) ?_
      refine lv_goto (tgt := 74) hx hb dX0_named_70 (by decide) ?_
      rw [hQ]
      exact W.iret (v := nI (k)) hx hb hr (fun t ht hW => ⟨congrArg (fun z => Outcome.returned (some (Value.int z))) (by rw [hfd]; simp only [mpF, if_pos hc1, if_pos ((nI_eq (by have := Nat.and_le_left (n := xR k) (m := r); omega) (by omega)).mp hc2)]; rfl), ht⟩) (fun q h => nomatch h) dX0_named_74
  exact lp (22 - 0) (0) ls (by omega) (rfl) (lv_sub hl [1, 2, 3, 0] rfl)
set_option maxHeartbeats 4000000 in
set_option maxRecDepth 100000 in
theorem c_part (l : Launch) (D : va_G) (a : Nat → Nat) (cA : ClassId) (N : Int32) (f : Nat → Int32) (ob : OB) (tr : TR) (nd : ND) (k0 fr cn : Nat) (hB : isB f) (hk0 : k0 < 22) (hfc : fr + cn ≤ xZ k0) (hc8 : cn ≤ 8) : Met l yX0_part (wX0_part :: wb) ({ frames := 0, cells := 0, slots := 0, locals := 0 } : Room) (va_Pc [.ref (a 1), .int (nI k0), .int (nI fr), .int (nI cn)] (zPu D [(cA, .int)] (cw a cA N f ob tr nd))) (zb_L (lN (sm f (xP k0 + fr) cn))) 0 0 (fun _ => False) := by
  refine Met.ofW (cc := cX0_part) (maxL := 8) (ret := (some .long)) (by decide) rfl ?_
  intro p ev s m args below meth c s₁ B hml hv
  obtain ⟨rfl, hP, hK, hSt, hnw⟩ := hv
  have hx := B.exec
  have hb := B.bytes
  have hr := B.returns
  have hts := atoms_spec (ws := wX0_part :: wb) B.pre
  have htb : ∀ w ∈ wb, w.before ([.ref (a 1), .int (nI k0), .int (nI fr), .int (nI cn)]).toArray s = true := fun w h => hts w (List.mem_cons_of_mem _ h)
  have hown : s.vm.findClass RX0 = some m.cls := findClass_of_methodNamed B.named
  have hlocks := B.notSynchronized
  have hS : va_S (fun _ => False) s.heap s.heap [] := va_S.rf
  obtain ⟨⟨tt, ff, hZT, hTT, hZF, hTF⟩, hXS⟩ := id hSt
  have hl := lv_entry ([.ref (a 1), .int (nI k0), .int (nI fr), .int (nI cn)]) (n := 8) (Nat.le_of_ble_eq_true rfl)
  rw [lg_entry_eq]
  generalize (lg_sl ([.ref (a 1), .int (nI k0), .int (nI fr), .int (nI cn)]) ++ List.replicate (8 - (lg_sl ([.ref (a 1), .int (nI k0), .int (nI fr), .int (nI cn)])).length) Slot.unset).toArray = ls at hl ⊢
  have hl : lv_has ls 8 [(0, .ref (a 1)), (1, .int (nI k0)), (2, .int (nI fr)), (3, .int (nI cn))] := hl
  refine zb_abs (fun Q hQ => ?_)
  have hft := x_fit k0 hk0
  refine va_gets hx hb hZT hS hown (htb _ kF_X0_25) (fun _ h9 => h9) dX0_part_0 ?_
  refine lv_iload_n hx hb dX0_part_3 rfl (lv_at hl 1 rfl) ?_
  refine lv_iconst (v := 5) hx hb dX0_part_4 (by decide) ?_
  refine lv_imul hx hb dX0_part_5 ?_
  refine zb_ti (pk_mul k0 5) ?_
  refine lv_iconst (v := 4) hx hb dX0_part_6 (by decide) ?_
  refine lv_iadd hx hb dX0_part_7 ?_
  refine zb_ti (nI_add (k0 * 5) 4) ?_
  refine va_ti hx hb hTT hS (i := nI ((k0 * 5) + 4)) (vp_in_nI (by omega) (by decide)) (v := .int (tT ((k0 * 5) + 4))) (by rw [nI_clamp (by omega)]) dX0_part_8 ?_
  refine zb_ti (tT_P hk0) ?_
  refine lv_iload_n hx hb dX0_part_9 rfl (lv_at hl 2 rfl) ?_
  refine lv_iadd hx hb dX0_part_10 ?_
  refine zb_ti (nI_add (xP k0) fr) ?_
  refine lv_istore hx hb dX0_part_11 hl (by decide) rfl (fun ls hl => ?_)
  have hl : lv_has ls 8 [(4, .int (nI ((xP k0) + fr))), (0, .ref (a 1)), (1, .int (nI k0)), (2, .int (nI fr)), (3, .int (nI cn))] := hl
  refine lv_lconst (v := 0) hx hb dX0_part_13 (by decide) ?_
  refine lv_lstore hx hb dX0_part_14 hl (by decide) rfl (fun ls hl => ?_)
  have hl : lv_has ls 8 [(5, .long 0), (4, .int (nI ((xP k0) + fr))), (0, .ref (a 1)), (1, .int (nI k0)), (2, .int (nI fr)), (3, .int (nI cn))] := hl
  refine lv_iconst (v := 0) hx hb dX0_part_16 (by decide) ?_
  refine lv_istore hx hb dX0_part_17 hl (by decide) rfl (fun ls hl => ?_)
  have hl : lv_has ls 8 [(7, .int 0), (5, .long 0), (4, .int (nI ((xP k0) + fr))), (0, .ref (a 1)), (1, .int (nI k0)), (2, .int (nI fr)), (3, .int (nI cn))] := hl
  have lp : ∀ (nn k : Nat) (ls : Array Slot), k + nn = cn → lv_has ls 8 [(0, .ref (a 1)), (3, .int (nI cn)), (4, .int (nI (xP k0 + fr))), (5, .long (lN (sm f (xP k0 + fr) (k)))), (7, .int (nI (k)))] → W p l ev ({ frames := 0, cells := 0, slots := 0, locals := 0 } : Room) s m ([.ref (a 1), .int (nI k0), .int (nI fr), .int (nI cn)]).toArray below meth c s.heap [] 0 0 Q (F0 m 19 ls []) := by
    intro nn
    induction nn with
    | zero =>
      intro k ls hk_lp  hl
      have hk0_lp : k = cn := by omega
      refine lv_iload hx hb dX0_part_19 (lv_at hl 4 rfl) ?_
      refine lv_iload_n hx hb dX0_part_21 rfl (lv_at hl 1 rfl) ?_
      refine lv_icmp_ge (tgt := 53) hx hb dX0_part_22 (by decide) (fun _ => ?_) (fun hno => absurd (by rw [hk0_lp]; exact nI_le (Nat.le_refl _) (by omega)) hno)
      refine lv_lload hx hb dX0_part_53 (lv_at hl 3 rfl) ?_
      rw [hQ]
      exact W.lret (v := lN (sm f (xP k0 + fr) (k))) hx hb hr (fun t ht hW => ⟨congrArg (fun z => Outcome.returned (some (Value.long z))) (by rw [hk0_lp]), ht⟩) (fun q h => nomatch h) dX0_part_55
    | succ nn ih_lp =>
      intro k ls hk_lp  hl
      have hk1_lp : k < cn := by omega
      refine lv_iload hx hb dX0_part_19 (lv_at hl 4 rfl) ?_
      refine lv_iload_n hx hb dX0_part_21 rfl (lv_at hl 1 rfl) ?_
      refine lv_icmp_ge (tgt := 53) hx hb dX0_part_22 (by decide) (fun hno => absurd hno (nI_ge (a := k) (b := cn) hk1_lp (by omega))) (fun _ => ?_)
      refine lv_lload hx hb dX0_part_25 (lv_at hl 3 rfl) ?_
      refine lv_aload_n hx hb dX0_part_27 rfl (lv_at hl 0 rfl) ?_
      refine va_get (D := D) (ci := 0) (v := .ref (a 2)) (fs := [.ref (a 2)]) (C := RX0) (T := TX0) (N := 1) hx hb htb inX0 hown hK hP 1 rfl rfl 0 (by decide) (htb _ kF_X0_9) (fun _ h9 => h9) rfl dX0_part_28 ?_
      refine lv_iload hx hb dX0_part_31 (lv_at hl 2 rfl) ?_
      refine lv_iload hx hb dX0_part_33 (lv_at hl 4 rfl) ?_
      refine lv_iadd hx hb dX0_part_35 ?_
      refine zb_ti (nI_add (xP k0 + fr) (k)) ?_
      refine va_iald (i := nI ((xP k0 + fr) + (k))) hx hb hK hP 2 0 rfl rfl (vp_in_nI (by omega) (by decide)) dX0_part_36 ?_
      refine zb_ti (y := f ((xP k0 + fr) + (k))) (by rw [nI_clamp (by omega)]) ?_
      refine lv_i2l hx hb dX0_part_37 rfl ?_
      refine lv_bipush (v := 8) hx hb dX0_part_38 (by decide) ?_
      refine lv_iload hx hb dX0_part_40 (lv_at hl 4 rfl) ?_
      refine lv_imul hx hb dX0_part_42 ?_
      refine zb_ti (pk_mul 8 (k)) ?_
      refine lv_lshl hx hb dX0_part_43 rfl ?_
      refine lv_lor hx hb dX0_part_44 ?_
      refine zb_tl (y := lN (sm f (xP k0 + fr) (k + 1))) (sm_or hB (by omega)) ?_
      refine lv_lstore hx hb dX0_part_45 hl (by decide) rfl (fun ls hl => ?_)
      have hl : lv_has ls 8 [(5, .long (lN (sm f (xP k0 + fr) (k + 1)))), (0, .ref (a 1)), (3, .int (nI cn)), (4, .int (nI (xP k0 + fr))), (7, .int (nI (k)))] := hl
      refine lv_iinc (k := 4) (v := nI ((k) + 1)) hx hb dX0_part_47 hl rfl (nI_1 (k)) (by decide) rfl (fun ls hl => ?_)
      have hl : lv_has ls 8 [(7, .int (nI ((k) + 1))), (5, .long (lN (sm f (xP k0 + fr) (k + 1)))), (0, .ref (a 1)), (3, .int (nI cn)), (4, .int (nI (xP k0 + fr)))] := hl
      refine lv_goto (tgt := 19) hx hb dX0_part_50 (by decide) ?_
      exact ih_lp (k + 1) ls (by omega) (lv_sub hl [2, 3, 4, 1, 0] rfl)
  exact lp (cn - 0) (0) ls (by omega) (lv_sub hl [3, 6, 2, 1, 0] rfl)
set_option maxHeartbeats 4000000 in
set_option maxRecDepth 100000 in
theorem c_put (l : Launch) (D : va_G) (a : Nat → Nat) (cA : ClassId) (N : Int32) (f : Nat → Int32) (ob : OB) (tr : TR) (nd : ND) (sz : Nat) (k0 x : Nat) (hk0 : k0 < 22) (hz8 : xZ k0 ≤ 8) (hx64 : x < 2 ^ 64) : Met l yX0_put (wX0_put :: wb) ({ frames := 0, cells := 0, slots := 0, locals := 0 } : Room) (va_Pc [.ref (a 1), .int (nI k0), .long (lN x)] (zPre D [(cA, .int)] (cw a cA N f ob tr nd) sz)) (zb_Vv D vwCl (cw a cA N (pF f (xP k0) (xZ k0) x 0) ob tr nd) (va_A (cw a cA N f ob tr nd) sz)) 0 0 (va_A (cw a cA N f ob tr nd) sz) := by
  refine Met.ofW (cc := cX0_put) (maxL := 7) (ret := none) (by decide) rfl ?_
  intro p ev s m args below meth c s₁ B hml hv
  obtain ⟨rfl, hsz, hP, hK, hD0, hSt, hnw⟩ := hv
  have hx := B.exec
  have hb := B.bytes
  have hr := B.returns
  have hts := atoms_spec (ws := wX0_put :: wb) B.pre
  have htb : ∀ w ∈ wb, w.before ([.ref (a 1), .int (nI k0), .long (lN x)]).toArray s = true := fun w h => hts w (List.mem_cons_of_mem _ h)
  have hown : s.vm.findClass RX0 = some m.cls := findClass_of_methodNamed B.named
  have hlocks := B.notSynchronized
  subst hsz
  have hD := hD0.self (sz := s.heap.size)
  clear hD0
  generalize hAe : va_A (cw a cA N f ob tr nd) s.heap.size = A at hD hSt ⊢
  have hA : ∀ q : Nat, s.heap.size ≤ q → A q := fun q h => by rw [← hAe]; exact Or.inr h
  have hS : va_S A s.heap s.heap [] := va_S.rf
  obtain ⟨⟨tt, ff, hZT, hTT, hZF, hTF⟩, hXS⟩ := id hSt
  have hl := lv_entry ([.ref (a 1), .int (nI k0), .long (lN x)]) (n := 7) (Nat.le_of_ble_eq_true rfl)
  rw [lg_entry_eq]
  generalize (lg_sl ([.ref (a 1), .int (nI k0), .long (lN x)]) ++ List.replicate (7 - (lg_sl ([.ref (a 1), .int (nI k0), .long (lN x)])).length) Slot.unset).toArray = ls at hl ⊢
  have hl : lv_has ls 7 [(0, .ref (a 1)), (1, .int (nI k0)), (2, .long (lN x))] := hl
  refine zb_abs (fun Q hQ => ?_)
  have hft := x_fit k0 hk0
  refine va_gets hx hb hZT hS hown (htb _ kF_X0_25) (fun _ h9 => h9) dX0_put_0 ?_
  refine lv_iload_n hx hb dX0_put_3 rfl (lv_at hl 1 rfl) ?_
  refine lv_iconst (v := 5) hx hb dX0_put_4 (by decide) ?_
  refine lv_imul hx hb dX0_put_5 ?_
  refine zb_ti (pk_mul k0 5) ?_
  refine lv_iconst (v := 4) hx hb dX0_put_6 (by decide) ?_
  refine lv_iadd hx hb dX0_put_7 ?_
  refine zb_ti (nI_add (k0 * 5) 4) ?_
  refine va_ti hx hb hTT hS (i := nI ((k0 * 5) + 4)) (vp_in_nI (by omega) (by decide)) (v := .int (tT ((k0 * 5) + 4))) (by rw [nI_clamp (by omega)]) dX0_put_8 ?_
  refine zb_ti (tT_P hk0) ?_
  refine lv_istore hx hb dX0_put_9 hl (by decide) rfl (fun ls hl => ?_)
  have hl : lv_has ls 7 [(4, .int (nI (xP k0))), (0, .ref (a 1)), (1, .int (nI k0)), (2, .long (lN x))] := hl
  refine va_gets hx hb hZT hS hown (htb _ kF_X0_25) (fun _ h9 => h9) dX0_put_11 ?_
  refine lv_iload_n hx hb dX0_put_14 rfl (lv_at hl 2 rfl) ?_
  refine lv_iconst (v := 5) hx hb dX0_put_15 (by decide) ?_
  refine lv_imul hx hb dX0_put_16 ?_
  refine zb_ti (pk_mul k0 5) ?_
  refine lv_iconst (v := 2) hx hb dX0_put_17 (by decide) ?_
  refine lv_iadd hx hb dX0_put_18 ?_
  refine zb_ti (nI_add (k0 * 5) 2) ?_
  refine va_ti hx hb hTT hS (i := nI ((k0 * 5) + 2)) (vp_in_nI (by omega) (by decide)) (v := .int (tT ((k0 * 5) + 2))) (by rw [nI_clamp (by omega)]) dX0_put_19 ?_
  refine zb_ti (tT_Z hk0) ?_
  refine lv_istore hx hb dX0_put_20 hl (by decide) rfl (fun ls hl => ?_)
  have hl : lv_has ls 7 [(5, .int (nI (xZ k0))), (4, .int (nI (xP k0))), (0, .ref (a 1)), (1, .int (nI k0)), (2, .long (lN x))] := hl
  refine lv_iconst (v := 0) hx hb dX0_put_22 (by decide) ?_
  refine lv_istore hx hb dX0_put_23 hl (by decide) rfl (fun ls hl => ?_)
  have hl : lv_has ls 7 [(6, .int 0), (5, .int (nI (xZ k0))), (4, .int (nI (xP k0))), (0, .ref (a 1)), (1, .int (nI k0)), (2, .long (lN x))] := hl
  rw [← pF_0 f (xP k0) x 0] at hP hD
  have lp : ∀ (nn k : Nat) (ls : Array Slot) (H : Heap) (locs : List Loc), va_P D vwCl (cw a cA N (pF f (xP k0) (k) x 0) ob tr nd) H → va_D A (cw a cA N (pF f (xP k0) (k) x 0) ob tr nd) → va_S A s.heap H locs → k + nn = xZ k0 → lv_has ls 7 [(0, .ref (a 1)), (2, .long (lN x)), (4, .int (nI (xP k0))), (5, .int (nI (xZ k0))), (6, .int (nI (k)))] → W p l ev ({ frames := 0, cells := 0, slots := 0, locals := 0 } : Room) s m ([.ref (a 1), .int (nI k0), .long (lN x)]).toArray below meth c H locs 0 0 Q (F0 m 25 ls []) := by
    intro nn
    induction nn with
    | zero =>
      intro k ls H locs hP hD hS hk_lp  hl
      have hk0_lp : k = xZ k0 := by omega
      refine lv_iload hx hb dX0_put_25 (lv_at hl 4 rfl) ?_
      refine lv_iload hx hb dX0_put_27 (lv_at hl 3 rfl) ?_
      refine lv_icmp_ge (tgt := 60) hx hb dX0_put_29 (by decide) (fun _ => ?_) (fun hno => absurd (by rw [hk0_lp]; exact nI_le (Nat.le_refl _) (by omega)) hno)
      rw [hQ]
      have hw9 : (cw a cA N (pF f (xP k0) (k) x 0) ob tr nd) = (cw a cA N (pF f (xP k0) (xZ k0) x 0) ob tr nd) := by rw [hk0_lp]
      exact W.vret hx hb hr (fun t ht hW => ⟨rfl, by rw [ht, ← hw9]; exact hP, by rw [← hw9]; exact hD, hS.F ht⟩) hS.2.2 dX0_put_60
    | succ nn ih_lp =>
      intro k ls H locs hP hD hS hk_lp  hl
      have hk1_lp : k < xZ k0 := by omega
      refine lv_iload hx hb dX0_put_25 (lv_at hl 4 rfl) ?_
      refine lv_iload hx hb dX0_put_27 (lv_at hl 3 rfl) ?_
      refine lv_icmp_ge (tgt := 60) hx hb dX0_put_29 (by decide) (fun hno => absurd hno (nI_ge (a := k) (b := xZ k0) hk1_lp (by omega))) (fun _ => ?_)
      refine lv_aload_n hx hb dX0_put_32 rfl (lv_at hl 0 rfl) ?_
      refine va_get (D := D) (ci := 0) (v := .ref (a 2)) (fs := [.ref (a 2)]) (C := RX0) (T := TX0) (N := 1) hx hb htb inX0 hown hK hP 1 rfl rfl 0 (by decide) (htb _ kF_X0_9) (fun _ h9 => h9) rfl dX0_put_33 ?_
      refine lv_iload hx hb dX0_put_36 (lv_at hl 2 rfl) ?_
      refine lv_iload hx hb dX0_put_38 (lv_at hl 4 rfl) ?_
      refine lv_iadd hx hb dX0_put_40 ?_
      refine zb_ti (nI_add (xP k0) (k)) ?_
      refine lv_lload_n hx hb dX0_put_41 rfl (lv_at hl 1 rfl) ?_
      refine lv_bipush (v := 8) hx hb dX0_put_42 (by decide) ?_
      refine lv_iload hx hb dX0_put_44 (lv_at hl 4 rfl) ?_
      refine lv_imul hx hb dX0_put_46 ?_
      refine zb_ti (pk_mul 8 (k)) ?_
      refine lv_lushr hx hb dX0_put_47 rfl ?_
      refine lv_l2i hx hb dX0_put_48 rfl ?_
      refine lv_sipush (v := 255) hx hb dX0_put_49 (by decide) ?_
      refine lv_iand hx hb dX0_put_52 ?_
      refine zb_ti (y := nI (bN x (0 + k))) (by rw [Nat.zero_add]; exact put_b hx64 (by omega)) ?_
      refine va_iast (i := nI ((xP k0) + (k))) (x := nI (bN x (0 + k))) hx hb hK hP hD hS 2 0 rfl rfl (vp_in_nI (by omega) (by decide)) dX0_put_53 (fun H locs hP hD hS => ?_)
      rw [nI_clamp (by omega)] at hP hD
      have hP : va_P D vwCl (cw a cA N (upd (pF f (xP k0) (k) x 0) ((xP k0) + (k)) (nI (bN x (0 + k)))) ob tr nd) H := hP
      have hD : va_D A (cw a cA N (upd (pF f (xP k0) (k) x 0) ((xP k0) + (k)) (nI (bN x (0 + k)))) ob tr nd) := hD
      rw [pF_up] at hP hD
      have hP : va_P D vwCl (cw a cA N (pF f (xP k0) (k + 1) x 0) ob tr nd) H := hP
      have hD : va_D A (cw a cA N (pF f (xP k0) (k + 1) x 0) ob tr nd) := hD
      refine lv_iinc (k := 4) (v := nI ((k) + 1)) hx hb dX0_put_54 hl rfl (nI_1 (k)) (by decide) rfl (fun ls hl => ?_)
      have hl : lv_has ls 7 [(6, .int (nI ((k) + 1))), (0, .ref (a 1)), (2, .long (lN x)), (4, .int (nI (xP k0))), (5, .int (nI (xZ k0)))] := hl
      refine lv_goto (tgt := 25) hx hb dX0_put_57 (by decide) ?_
      exact ih_lp (k + 1) ls _ _ hP hD hS (by omega) (lv_sub hl [1, 2, 3, 4, 0] rfl)
  exact lp (xZ k0 - 0) (0) ls _ _ hP hD hS (by omega) (lv_sub hl [3, 5, 2, 1, 0] rfl)
set_option maxHeartbeats 4000000 in
set_option maxRecDepth 100000 in
theorem c_fill (l : Launch) (D : va_G) (a : Nat → Nat) (cA : ClassId) (N : Int32) (f : Nat → Int32) (ob : OB) (tr : TR) (nd : ND) (sz : Nat) (k0 : Nat) (hk0 : k0 < 22) : Met l yX0_fill (wX0_fill :: wb) ({ frames := 1, cells := 0, slots := 0, locals := 60 } : Room) (va_Pc [.ref (a 1), .int (nI k0), .ref (a 8)] (zPre D [(cA, .int)] (cw a cA N f ob tr nd) sz)) (zb_Vv D vwCl (cw a cA N (va_cpy tr.1 f 0 (xP k0) (xZ k0)) ob tr nd) (va_A (cw a cA N f ob tr nd) sz)) 0 0 (va_A (cw a cA N f ob tr nd) sz) := by
  refine Met.ofW (cc := cX0_fill) (maxL := 3) (ret := none) (by decide) rfl ?_
  intro p ev s m args below meth c s₁ B hml hv
  obtain ⟨rfl, hsz, hP, hK, hD0, hSt, hnw⟩ := hv
  have hx := B.exec
  have hb := B.bytes
  have hr := B.returns
  have hts := atoms_spec (ws := wX0_fill :: wb) B.pre
  have htb : ∀ w ∈ wb, w.before ([.ref (a 1), .int (nI k0), .ref (a 8)]).toArray s = true := fun w h => hts w (List.mem_cons_of_mem _ h)
  have hown : s.vm.findClass RX0 = some m.cls := findClass_of_methodNamed B.named
  have hlocks := B.notSynchronized
  subst hsz
  have hD := hD0.self (sz := s.heap.size)
  clear hD0
  generalize hAe : va_A (cw a cA N f ob tr nd) s.heap.size = A at hD hSt ⊢
  have hA : ∀ q : Nat, s.heap.size ≤ q → A q := fun q h => by rw [← hAe]; exact Or.inr h
  have hS : va_S A s.heap s.heap [] := va_S.rf
  obtain ⟨⟨tt, ff, hZT, hTT, hZF, hTF⟩, hXS⟩ := id hSt
  have hl := lv_entry ([.ref (a 1), .int (nI k0), .ref (a 8)]) (n := 3) (Nat.le_of_ble_eq_true rfl)
  rw [lg_entry_eq]
  generalize (lg_sl ([.ref (a 1), .int (nI k0), .ref (a 8)]) ++ List.replicate (3 - (lg_sl ([.ref (a 1), .int (nI k0), .ref (a 8)])).length) Slot.unset).toArray = ls at hl ⊢
  have hl : lv_has ls 3 [(0, .ref (a 1)), (1, .int (nI k0)), (2, .ref (a 8))] := hl
  refine zb_abs (fun Q hQ => ?_)
  have hft := x_fit k0 hk0
  refine lv_aload_n hx hb dX0_fill_0 rfl (lv_at hl 2 rfl) ?_
  refine lv_iconst (v := 0) hx hb dX0_fill_1 (by decide) ?_
  refine lv_aload_n hx hb dX0_fill_2 rfl (lv_at hl 0 rfl) ?_
  refine va_get (D := D) (ci := 0) (v := .ref (a 2)) (fs := [.ref (a 2)]) (C := RX0) (T := TX0) (N := 1) hx hb htb inX0 hown hK hP 1 rfl rfl 0 (by decide) (htb _ kF_X0_9) (fun _ h9 => h9) rfl dX0_fill_3 ?_
  refine va_gets hx hb hZT hS hown (htb _ kF_X0_25) (fun _ h9 => h9) dX0_fill_6 ?_
  refine lv_iload_n hx hb dX0_fill_9 rfl (lv_at hl 1 rfl) ?_
  refine lv_iconst (v := 5) hx hb dX0_fill_10 (by decide) ?_
  refine lv_imul hx hb dX0_fill_11 ?_
  refine zb_ti (pk_mul k0 5) ?_
  refine lv_iconst (v := 4) hx hb dX0_fill_12 (by decide) ?_
  refine lv_iadd hx hb dX0_fill_13 ?_
  refine zb_ti (nI_add (k0 * 5) 4) ?_
  refine va_ti hx hb hTT hS (i := nI ((k0 * 5) + 4)) (vp_in_nI (by omega) (by decide)) (v := .int (tT ((k0 * 5) + 4))) (by rw [nI_clamp (by omega)]) dX0_fill_14 ?_
  refine zb_ti (tT_P hk0) ?_
  refine lv_iload_n hx hb dX0_fill_15 rfl (lv_at hl 1 rfl) ?_
  refine zb_ci (va_runS (As := [.int (nI k0)]) (rest := [.int (nI (xP k0)), .ref (a 2), .int 0, .ref (a 8)]) ⟨hx, hb, hml, hown, htb⟩ (c_sizeOf l D a cA N f ob tr nd k0 hk0) (va_cwS 1 htb (wb_S kM_X0_29 kZ_X0_sizeOf kN_X0 kD_X0_sizeOf) rfl rfl rfl (by decide +kernel) ⟨Nat.le_of_ble_eq_true rfl, Nat.le_of_ble_eq_true rfl⟩) (zp_S hP hK hSt hS hnw) rfl rfl hl.1 rfl (lv_room (Nat.le_of_ble_eq_true rfl)) dX0_fill_16 ⟨Nat.le_of_ble_eq_true rfl, Nat.le_of_ble_eq_true rfl⟩) ?_
  refine va_copyi (sp := 0) (dp := nI (xP k0)) (n := nI (xZ k0)) hx hb (by rw [hml]; exact hl.1.symm) hown (htb _ kM_X0_19) (htb _ kV_acopy) (htb _ kZ_acopy) (htb _ kN_System) hK hP hD hS 8 2 0 0 rfl rfl rfl rfl rfl (by decide) (nI_pos (by omega)) (nI_pos (by omega)) (by rw [sb_cl0, nI_clamp (by omega)]; omega) (by rw [nI_clamp (by omega), nI_clamp (by omega)]; omega) (fun _ _ => rfl) (Nat.le_of_ble_eq_true rfl) (Nat.le_of_ble_eq_true rfl) dX0_fill_19 (fun H locs hP hD hS => ?_)
  rw [sb_cl0, nI_clamp (by omega), nI_clamp (by omega)] at hP hD
  have hP : va_P D vwCl (cw a cA N (va_cpy tr.1 f 0 (xP k0) (xZ k0)) ob tr nd) H := hP
  have hD : va_D A (cw a cA N (va_cpy tr.1 f 0 (xP k0) (xZ k0)) ob tr nd) := hD
  rw [hQ]
  have hw9 : (cw a cA N (va_cpy tr.1 f 0 (xP k0) (xZ k0)) ob tr nd) = (cw a cA N (va_cpy tr.1 f 0 (xP k0) (xZ k0)) ob tr nd) := rfl
  exact W.vret hx hb hr (fun t ht hW => ⟨rfl, by rw [ht, ← hw9]; exact hP, by rw [← hw9]; exact hD, hS.F ht⟩) hS.2.2 dX0_fill_22
set_option maxHeartbeats 4000000 in
set_option maxRecDepth 100000 in
theorem c_resetAll (l : Launch) (D : va_G) (a : Nat → Nat) (cA : ClassId) (N : Int32) (f : Nat → Int32) (ob : OB) (tr : TR) (nd : ND) (sz : Nat)   : Met l yX0_resetAll (wX0_resetAll :: wb) ({ frames := 1, cells := 0, slots := 0, locals := 60 } : Room) (va_Pc [.ref (a 1)] (zPre D [(cA, .int)] (cw a cA N f ob tr nd) sz)) (zb_Vv D vwCl (cw a cA N (va_cpy tF f 0 0 95) ob tr nd) (va_A (cw a cA N f ob tr nd) sz)) 0 0 (va_A (cw a cA N f ob tr nd) sz) := by
  refine Met.ofW (cc := cX0_resetAll) (maxL := 1) (ret := none) (by decide) rfl ?_
  intro p ev s m args below meth c s₁ B hml hv
  obtain ⟨rfl, hsz, hP, hK, hD0, hSt, hnw⟩ := hv
  have hx := B.exec
  have hb := B.bytes
  have hr := B.returns
  have hts := atoms_spec (ws := wX0_resetAll :: wb) B.pre
  have htb : ∀ w ∈ wb, w.before ([.ref (a 1)]).toArray s = true := fun w h => hts w (List.mem_cons_of_mem _ h)
  have hown : s.vm.findClass RX0 = some m.cls := findClass_of_methodNamed B.named
  have hlocks := B.notSynchronized
  subst hsz
  have hD := hD0.self (sz := s.heap.size)
  clear hD0
  generalize hAe : va_A (cw a cA N f ob tr nd) s.heap.size = A at hD hSt ⊢
  have hA : ∀ q : Nat, s.heap.size ≤ q → A q := fun q h => by rw [← hAe]; exact Or.inr h
  have hS : va_S A s.heap s.heap [] := va_S.rf
  obtain ⟨⟨tt, ff, hZT, hTT, hZF, hTF⟩, hXS⟩ := id hSt
  have hl := lv_entry ([.ref (a 1)]) (n := 1) (Nat.le_of_ble_eq_true rfl)
  rw [lg_entry_eq]
  generalize (lg_sl ([.ref (a 1)]) ++ List.replicate (1 - (lg_sl ([.ref (a 1)])).length) Slot.unset).toArray = ls at hl ⊢
  have hl : lv_has ls 1 [(0, .ref (a 1))] := hl
  refine zb_abs (fun Q hQ => ?_)
  refine va_gets hx hb hZF hS hown (htb _ kF_X0_16) (fun _ h9 => h9) dX0_resetAll_0 ?_
  refine lv_iconst (v := 0) hx hb dX0_resetAll_3 (by decide) ?_
  refine lv_aload_n hx hb dX0_resetAll_4 rfl (lv_at hl 0 rfl) ?_
  refine va_get (D := D) (ci := 0) (v := .ref (a 2)) (fs := [.ref (a 2)]) (C := RX0) (T := TX0) (N := 1) hx hb htb inX0 hown hK hP 1 rfl rfl 0 (by decide) (htb _ kF_X0_9) (fun _ h9 => h9) rfl dX0_resetAll_5 ?_
  refine lv_iconst (v := 0) hx hb dX0_resetAll_8 (by decide) ?_
  refine lv_bipush (v := 95) hx hb dX0_resetAll_9 (by decide) ?_
  refine zb_copyT (k := 95) hx hb (by rw [hml]; exact hl.1.symm) hown (htb _ kM_X0_19) (htb _ kV_acopy) (htb _ kZ_acopy) (htb _ kN_System) hK hP hD hS hTF 2 0 rfl rfl (by decide) (by decide) (by decide) (Nat.le_of_ble_eq_true rfl) (Nat.le_of_ble_eq_true rfl) dX0_resetAll_11 (fun H locs hP hD hS => ?_)
  have hP : va_P D vwCl (cw a cA N (va_cpy tF f 0 0 95) ob tr nd) H := hP
  have hD : va_D A (cw a cA N (va_cpy tF f 0 0 95) ob tr nd) := hD
  rw [hQ]
  have hw9 : (cw a cA N (va_cpy tF f 0 0 95) ob tr nd) = (cw a cA N (va_cpy tF f 0 0 95) ob tr nd) := rfl
  exact W.vret hx hb hr (fun t ht hW => ⟨rfl, by rw [ht, ← hw9]; exact hP, by rw [← hw9]; exact hD, hS.F ht⟩) hS.2.2 dX0_resetAll_14
set_option maxHeartbeats 4000000 in
set_option maxRecDepth 100000 in
theorem c_resetOwn (l : Launch) (D : va_G) (a : Nat → Nat) (cA : ClassId) (N : Int32) (f : Nat → Int32) (ob : OB) (tr : TR) (nd : ND) (sz : Nat)   : Met l yX0_resetOwn (wX0_resetOwn :: wb) ({ frames := 1, cells := 0, slots := 0, locals := 60 } : Room) (va_Pc [.ref (a 1)] (zPre D [(cA, .int)] (cw a cA N f ob tr nd) sz)) (zb_Vv D vwCl (cw a cA N (va_cpy tF f 0 0 42) ob tr nd) (va_A (cw a cA N f ob tr nd) sz)) 0 0 (va_A (cw a cA N f ob tr nd) sz) := by
  refine Met.ofW (cc := cX0_resetOwn) (maxL := 1) (ret := none) (by decide) rfl ?_
  intro p ev s m args below meth c s₁ B hml hv
  obtain ⟨rfl, hsz, hP, hK, hD0, hSt, hnw⟩ := hv
  have hx := B.exec
  have hb := B.bytes
  have hr := B.returns
  have hts := atoms_spec (ws := wX0_resetOwn :: wb) B.pre
  have htb : ∀ w ∈ wb, w.before ([.ref (a 1)]).toArray s = true := fun w h => hts w (List.mem_cons_of_mem _ h)
  have hown : s.vm.findClass RX0 = some m.cls := findClass_of_methodNamed B.named
  have hlocks := B.notSynchronized
  subst hsz
  have hD := hD0.self (sz := s.heap.size)
  clear hD0
  generalize hAe : va_A (cw a cA N f ob tr nd) s.heap.size = A at hD hSt ⊢
  have hA : ∀ q : Nat, s.heap.size ≤ q → A q := fun q h => by rw [← hAe]; exact Or.inr h
  have hS : va_S A s.heap s.heap [] := va_S.rf
  obtain ⟨⟨tt, ff, hZT, hTT, hZF, hTF⟩, hXS⟩ := id hSt
  have hl := lv_entry ([.ref (a 1)]) (n := 1) (Nat.le_of_ble_eq_true rfl)
  rw [lg_entry_eq]
  generalize (lg_sl ([.ref (a 1)]) ++ List.replicate (1 - (lg_sl ([.ref (a 1)])).length) Slot.unset).toArray = ls at hl ⊢
  have hl : lv_has ls 1 [(0, .ref (a 1))] := hl
  refine zb_abs (fun Q hQ => ?_)
  refine va_gets hx hb hZF hS hown (htb _ kF_X0_16) (fun _ h9 => h9) dX0_resetOwn_0 ?_
  refine lv_iconst (v := 0) hx hb dX0_resetOwn_3 (by decide) ?_
  refine lv_aload_n hx hb dX0_resetOwn_4 rfl (lv_at hl 0 rfl) ?_
  refine va_get (D := D) (ci := 0) (v := .ref (a 2)) (fs := [.ref (a 2)]) (C := RX0) (T := TX0) (N := 1) hx hb htb inX0 hown hK hP 1 rfl rfl 0 (by decide) (htb _ kF_X0_9) (fun _ h9 => h9) rfl dX0_resetOwn_5 ?_
  refine lv_iconst (v := 0) hx hb dX0_resetOwn_8 (by decide) ?_
  refine lv_bipush (v := 42) hx hb dX0_resetOwn_9 (by decide) ?_
  refine zb_copyT (k := 42) hx hb (by rw [hml]; exact hl.1.symm) hown (htb _ kM_X0_19) (htb _ kV_acopy) (htb _ kZ_acopy) (htb _ kN_System) hK hP hD hS hTF 2 0 rfl rfl (by decide) (by decide) (by decide) (Nat.le_of_ble_eq_true rfl) (Nat.le_of_ble_eq_true rfl) dX0_resetOwn_11 (fun H locs hP hD hS => ?_)
  have hP : va_P D vwCl (cw a cA N (va_cpy tF f 0 0 42) ob tr nd) H := hP
  have hD : va_D A (cw a cA N (va_cpy tF f 0 0 42) ob tr nd) := hD
  rw [hQ]
  have hw9 : (cw a cA N (va_cpy tF f 0 0 42) ob tr nd) = (cw a cA N (va_cpy tF f 0 0 42) ob tr nd) := rfl
  exact W.vret hx hb hr (fun t ht hW => ⟨rfl, by rw [ht, ← hw9]; exact hP, by rw [← hw9]; exact hD, hS.F ht⟩) hS.2.2 dX0_resetOwn_14
