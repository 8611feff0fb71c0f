theorem mL_31 (f : Nat → Int32) (m r n : Nat) (h : n ≤ 4) : mL f m r n < 2 ^ 31 := by
  have key : ∀ n, mL f m r n ≤ 20 * n := by
    intro n
    induction n with
    | zero => exact Nat.le_refl _
    | succ n ih =>
      cases h2 : mE f m r (n + 1) with
      | none => rw [mL_n h2]; omega
      | some e => rw [mL_s h2]; have := x_fit e (mE_lt h2); omega
  have := key n
  omega
set_option maxHeartbeats 4000000 in
set_option maxRecDepth 100000 in
theorem c_ownsT (l : Launch) (D : va_G) (a : Nat → Nat) (cA : ClassId) (N : Int32) (f : Nat → Int32) (ob : OB) (tr : TR) (nd : ND) (e : Nat) (he : e < 22) : Met l yX1_owns (wX1_owns :: wb) ({ frames := 0, cells := 0, slots := 0, locals := 0 } : Room) (va_Pc [.ref (a 3), .int (nI e)] (zPu D [(cA, .int)] (cw a cA N f ob tr nd))) (zb_I (if nI e < 3 then 0 else if 7 < nI e then 0 else 1)) 0 0 (fun _ => False) := by
  refine Met.ofW (cc := cX1_owns) (maxL := 2) (ret := (some .boolean)) (by decide) rfl ?_
  intro p ev s m args below meth c s₁ B hml hv
  obtain ⟨rfl, hP, hK, hSt, hnw⟩ := hv
  have hx := B.exec
  have hb := B.bytes
  have hr := B.returns
  have hts := atoms_spec (ws := wX1_owns :: wb) B.pre
  have htb : ∀ w ∈ wb, w.before ([.ref (a 3), .int (nI e)]).toArray s = true := fun w h => hts w (List.mem_cons_of_mem _ h)
  have hown : s.vm.findClass RX1 = some m.cls := findClass_of_methodNamed B.named
  have hlocks := B.notSynchronized
  have hS : va_S (fun _ => False) s.heap s.heap [] := va_S.rf
  obtain ⟨⟨tt, ff, hZT, hTT, hZF, hTF⟩, hXS⟩ := id hSt
  have hl := lv_entry ([.ref (a 3), .int (nI e)]) (n := 2) (Nat.le_of_ble_eq_true rfl)
  rw [lg_entry_eq]
  generalize (lg_sl ([.ref (a 3), .int (nI e)]) ++ List.replicate (2 - (lg_sl ([.ref (a 3), .int (nI e)])).length) Slot.unset).toArray = ls at hl ⊢
  have hl : lv_has ls 2 [(0, .ref (a 3)), (1, .int (nI e))] := hl
  refine zb_abs (fun Q hQ => ?_)
  refine lv_iload_n hx hb dX1_owns_0 rfl (lv_at hl 1 rfl) ?_
  refine lv_aload_n hx hb dX1_owns_1 rfl (lv_at hl 0 rfl) ?_
  refine va_get (D := D) (ci := 1) (v := .int 3) (fs := [.ref (a 1), .int 3, .int 6]) (C := RX1) (T := TX1) (N := 3) hx hb htb inX1 hown hK hP 3 rfl rfl 1 (by decide) (htb _ kF_X1_15) (fun _ h9 => h9) rfl dX1_owns_2 ?_
  refine lv_icmp_lt (tgt := 22) hx hb dX1_owns_5 (by decide) (fun hc1 => ?_) (fun hc1 => ?_)
  · refine lv_iconst (v := 0) hx hb dX1_owns_22 (by decide) ?_
    rw [hQ]
    exact W.zret (v := 0) hx hb hr rfl (fun t ht hW => ⟨congrArg (fun z => Outcome.returned (some (Value.int z))) (by simp only [if_pos hc1]), ht⟩) (fun q h => nomatch h) dX1_owns_23
  refine lv_iload_n hx hb dX1_owns_8 rfl (lv_at hl 1 rfl) ?_
  refine lv_aload_n hx hb dX1_owns_9 rfl (lv_at hl 0 rfl) ?_
  refine va_get (D := D) (ci := 1) (v := .int 3) (fs := [.ref (a 1), .int 3, .int 6]) (C := RX1) (T := TX1) (N := 3) hx hb htb inX1 hown hK hP 3 rfl rfl 1 (by decide) (htb _ kF_X1_15) (fun _ h9 => h9) rfl dX1_owns_10 ?_
  refine lv_iconst (v := 4) hx hb dX1_owns_13 (by decide) ?_
  refine lv_iadd hx hb dX1_owns_14 ?_
  refine zb_ti (y := 7) (rfl) ?_
  refine lv_icmp_gt (tgt := 22) hx hb dX1_owns_15 (by decide) (fun hc2 => ?_) (fun hc2 => ?_)
  · refine lv_iconst (v := 0) hx hb dX1_owns_22 (by decide) ?_
    rw [hQ]
    exact W.zret (v := 0) hx hb hr rfl (fun t ht hW => ⟨congrArg (fun z => Outcome.returned (some (Value.int z))) (by simp only [if_neg hc1, if_pos hc2]), ht⟩) (fun q h => nomatch h) dX1_owns_23
  refine lv_iconst (v := 1) hx hb dX1_owns_18 (by decide) ?_
  refine lv_goto (tgt := 23) hx hb dX1_owns_19 (by decide) ?_
  rw [hQ]
  exact W.zret (v := 1) hx hb hr rfl (fun t ht hW => ⟨congrArg (fun z => Outcome.returned (some (Value.int z))) (by simp only [if_neg hc1, if_neg hc2]), ht⟩) (fun q h => nomatch h) dX1_owns_23
set_option maxHeartbeats 4000000 in
set_option maxRecDepth 100000 in
theorem c_isCountT (l : Launch) (D : va_G) (a : Nat → Nat) (cA : ClassId) (N : Int32) (f : Nat → Int32) (ob : OB) (tr : TR) (nd : ND) (e : Nat) (he : e < 22) : Met l yX1_isCount (wX1_isCount :: wb) ({ frames := 0, cells := 0, slots := 0, locals := 0 } : Room) (va_Pc [.ref (a 3), .int (nI e)] (zPu D [(cA, .int)] (cw a cA N f ob tr nd))) (zb_I (if nI e = 3 then 1 else 0)) 0 0 (fun _ => False) := by
  refine Met.ofW (cc := cX1_isCount) (maxL := 2) (ret := (some .boolean)) (by decide) rfl ?_
  intro p ev s m args below meth c s₁ B hml hv
  obtain ⟨rfl, hP, hK, hSt, hnw⟩ := hv
  have hx := B.exec
  have hb := B.bytes
  have hr := B.returns
  have hts := atoms_spec (ws := wX1_isCount :: wb) B.pre
  have htb : ∀ w ∈ wb, w.before ([.ref (a 3), .int (nI e)]).toArray s = true := fun w h => hts w (List.mem_cons_of_mem _ h)
  have hown : s.vm.findClass RX1 = some m.cls := findClass_of_methodNamed B.named
  have hlocks := B.notSynchronized
  have hS : va_S (fun _ => False) s.heap s.heap [] := va_S.rf
  obtain ⟨⟨tt, ff, hZT, hTT, hZF, hTF⟩, hXS⟩ := id hSt
  have hl := lv_entry ([.ref (a 3), .int (nI e)]) (n := 2) (Nat.le_of_ble_eq_true rfl)
  rw [lg_entry_eq]
  generalize (lg_sl ([.ref (a 3), .int (nI e)]) ++ List.replicate (2 - (lg_sl ([.ref (a 3), .int (nI e)])).length) Slot.unset).toArray = ls at hl ⊢
  have hl : lv_has ls 2 [(0, .ref (a 3)), (1, .int (nI e))] := hl
  refine zb_abs (fun Q hQ => ?_)
  refine lv_iload_n hx hb dX1_isCount_0 rfl (lv_at hl 1 rfl) ?_
  refine lv_aload_n hx hb dX1_isCount_1 rfl (lv_at hl 0 rfl) ?_
  refine va_get (D := D) (ci := 1) (v := .int 3) (fs := [.ref (a 1), .int 3, .int 6]) (C := RX1) (T := TX1) (N := 3) hx hb htb inX1 hown hK hP 3 rfl rfl 1 (by decide) (htb _ kF_X1_15) (fun _ h9 => h9) rfl dX1_isCount_2 ?_
  refine lv_icmp_ne (tgt := 12) hx hb dX1_isCount_5 (by decide) (fun hc1 => ?_) (fun hc1 => ?_)
  · refine lv_iconst (v := 0) hx hb dX1_isCount_12 (by decide) ?_
    rw [hQ]
    exact W.zret (v := 0) hx hb hr rfl (fun t ht hW => ⟨congrArg (fun z => Outcome.returned (some (Value.int z))) (by simp only [if_neg hc1]), ht⟩) (fun q h => nomatch h) dX1_isCount_13
  refine lv_iconst (v := 1) hx hb dX1_isCount_8 (by decide) ?_
  refine lv_goto (tgt := 13) hx hb dX1_isCount_9 (by decide) ?_
  rw [hQ]
  exact W.zret (v := 1) hx hb hr rfl (fun t ht hW => ⟨congrArg (fun z => Outcome.returned (some (Value.int z))) (by simp only [if_pos hc1]), ht⟩) (fun q h => nomatch h) dX1_isCount_13
set_option maxHeartbeats 4000000 in
set_option maxRecDepth 100000 in
theorem c_countT (l : Launch) (D : va_G) (a : Nat → Nat) (cA : ClassId) (N : Int32) (f : Nat → Int32) (ob : OB) (tr : TR) (nd : ND) (cn : Nat) (hcn : f (xP 3) = nI cn) (hcn4 : cn ≤ 4) : Met l yX1_count (wX1_count :: wb) ({ frames := 1, cells := 0, slots := 0, locals := 22 } : Room) (va_Pc [.ref (a 3)] (zPu D [(cA, .int)] (cw a cA N f ob tr nd))) (zb_I (nI cn)) 0 0 (fun _ => False) := by
  refine Met.ofW (cc := cX1_count) (maxL := 1) (ret := (some .int)) (by decide) rfl ?_
  intro p ev s m args below meth c s₁ B hml hv
  obtain ⟨rfl, hP, hK, hSt, hnw⟩ := hv
  have hx := B.exec
  have hb := B.bytes
  have hr := B.returns
  have hts := atoms_spec (ws := wX1_count :: wb) B.pre
  have htb : ∀ w ∈ wb, w.before ([.ref (a 3)]).toArray s = true := fun w h => hts w (List.mem_cons_of_mem _ h)
  have hown : s.vm.findClass RX1 = some m.cls := findClass_of_methodNamed B.named
  have hlocks := B.notSynchronized
  have hS : va_S (fun _ => False) s.heap s.heap [] := va_S.rf
  obtain ⟨⟨tt, ff, hZT, hTT, hZF, hTF⟩, hXS⟩ := id hSt
  have hl := lv_entry ([.ref (a 3)]) (n := 1) (Nat.le_of_ble_eq_true rfl)
  rw [lg_entry_eq]
  generalize (lg_sl ([.ref (a 3)]) ++ List.replicate (1 - (lg_sl ([.ref (a 3)])).length) Slot.unset).toArray = ls at hl ⊢
  have hl : lv_has ls 1 [(0, .ref (a 3))] := hl
  refine zb_abs (fun Q hQ => ?_)
  refine lv_iconst (v := 4) hx hb dX1_count_0 (by decide) ?_
  refine lv_aload_n hx hb dX1_count_1 rfl (lv_at hl 0 rfl) ?_
  refine va_get (D := D) (ci := 1) (v := .ref (a 1)) (fs := [.ref (a 1), .int 3, .int 6]) (C := RX1) (T := TX1) (N := 3) hx hb htb inX1 hown hK hP 3 rfl rfl 0 (by decide) (htb _ kF_X1_9) (fun _ h9 => h9) rfl dX1_count_2 ?_
  refine lv_aload_n hx hb dX1_count_5 rfl (lv_at hl 0 rfl) ?_
  refine va_get (D := D) (ci := 1) (v := .int 3) (fs := [.ref (a 1), .int 3, .int 6]) (C := RX1) (T := TX1) (N := 3) hx hb htb inX1 hown hK hP 3 rfl rfl 1 (by decide) (htb _ kF_X1_15) (fun _ h9 => h9) rfl dX1_count_6 ?_
  refine lv_iconst (v := 0) hx hb dX1_count_9 (by decide) ?_
  refine zb_ci (va_runV (As := [.int 3, .int 0]) (rest := [.int 4]) ⟨hx, hb, hml, hown, htb⟩ (c_byteAt l D a cA N f ob tr nd 3 0 (by decide) (by decide)) (cwV 2 htb (wb_V kM_X1_24 kI_X0_byteAt kS_X0_byteAt kN_X0 kD_X0_byteAt) rfl rfl rfl (by decide +kernel) ⟨Nat.le_of_ble_eq_true rfl, Nat.le_of_ble_eq_true rfl⟩) (zp_V 1 rfl rfl hP hK hSt hS hnw) rfl rfl hl.1 rfl (lv_room (Nat.le_of_ble_eq_true rfl)) dX1_count_10 ⟨Nat.le_of_ble_eq_true rfl, Nat.le_of_ble_eq_true rfl⟩) ?_
  refine zb_ti (y := nI cn) (by rw [Nat.add_zero]; exact hcn) ?_
  refine va_mmin hx hb (by rw [hml]; exact hl.1.symm) hown (htb _ kM_X1_28) (htb _ kZ_min) (htb _ kN_Math) (htb _ kD_min) (Nat.le_of_ble_eq_true rfl) (Nat.le_of_ble_eq_true rfl) (Nat.le_of_ble_eq_true rfl) (Nat.le_of_ble_eq_true rfl) dX1_count_13 ?_
  refine zb_ti (y := nI cn) (by show (if nI cn < nI 4 then nI cn else nI 4) = nI cn; rcases Nat.lt_or_ge cn 4 with h9 | h9; exact if_pos (nI_lt h9 (by decide)); rw [if_neg (nI_nlt h9 (by omega))]; rw [show cn = 4 by omega]) ?_
  rw [hQ]
  exact W.iret (v := nI cn) hx hb hr (fun t ht hW => ⟨congrArg (fun z => Outcome.returned (some (Value.int z))) (rfl), ht⟩) (fun q h => nomatch h) dX1_count_16
set_option maxHeartbeats 4000000 in
set_option maxRecDepth 100000 in
theorem c_targetT (l : Launch) (D : va_G) (a : Nat → Nat) (cA : ClassId) (N : Int32) (f : Nat → Int32) (ob : OB) (tr : TR) (nd : ND) (k : Nat) (hB : isB f) (hk1 : 1 ≤ k) (hk4 : k ≤ 4) : Met l yX1_target (wX1_target :: wb) ({ frames := 1, cells := 0, slots := 0, locals := 27 } : Room) (va_Pc [.ref (a 3), .int (nI k)] (zPu D [(cA, .int)] (cw a cA N f ob tr nd))) (zb_I (oI (mE f 3 6 k))) 0 0 (fun _ => False) := by
  refine Met.ofW (cc := cX1_target) (maxL := 2) (ret := (some .int)) (by decide) rfl ?_
  intro p ev s m args below meth c s₁ B hml hv
  obtain ⟨rfl, hP, hK, hSt, hnw⟩ := hv
  have hx := B.exec
  have hb := B.bytes
  have hr := B.returns
  have hts := atoms_spec (ws := wX1_target :: wb) B.pre
  have htb : ∀ w ∈ wb, w.before ([.ref (a 3), .int (nI k)]).toArray s = true := fun w h => hts w (List.mem_cons_of_mem _ h)
  have hown : s.vm.findClass RX1 = some m.cls := findClass_of_methodNamed B.named
  have hlocks := B.notSynchronized
  have hS : va_S (fun _ => False) s.heap s.heap [] := va_S.rf
  obtain ⟨⟨tt, ff, hZT, hTT, hZF, hTF⟩, hXS⟩ := id hSt
  have hl := lv_entry ([.ref (a 3), .int (nI k)]) (n := 2) (Nat.le_of_ble_eq_true rfl)
  rw [lg_entry_eq]
  generalize (lg_sl ([.ref (a 3), .int (nI k)]) ++ List.replicate (2 - (lg_sl ([.ref (a 3), .int (nI k)])).length) Slot.unset).toArray = ls at hl ⊢
  have hl : lv_has ls 2 [(0, .ref (a 3)), (1, .int (nI k))] := hl
  refine zb_abs (fun Q hQ => ?_)
  have hz4 := (by decide : ∀ k, k < 5 → 1 ≤ k → xZ (3 + k) = 4 ∧ 3 + k < 22) k (by omega) hk1
  refine lv_aload_n hx hb dX1_target_0 rfl (lv_at hl 0 rfl) ?_
  refine va_get (D := D) (ci := 1) (v := .ref (a 1)) (fs := [.ref (a 1), .int 3, .int 6]) (C := RX1) (T := TX1) (N := 3) hx hb htb inX1 hown hK hP 3 rfl rfl 0 (by decide) (htb _ kF_X1_9) (fun _ h9 => h9) rfl dX1_target_1 ?_
  refine lv_aload_n hx hb dX1_target_4 rfl (lv_at hl 0 rfl) ?_
  refine va_get (D := D) (ci := 1) (v := .ref (a 1)) (fs := [.ref (a 1), .int 3, .int 6]) (C := RX1) (T := TX1) (N := 3) hx hb htb inX1 hown hK hP 3 rfl rfl 0 (by decide) (htb _ kF_X1_9) (fun _ h9 => h9) rfl dX1_target_5 ?_
  refine lv_aload_n hx hb dX1_target_8 rfl (lv_at hl 0 rfl) ?_
  refine va_get (D := D) (ci := 1) (v := .int 3) (fs := [.ref (a 1), .int 3, .int 6]) (C := RX1) (T := TX1) (N := 3) hx hb htb inX1 hown hK hP 3 rfl rfl 1 (by decide) (htb _ kF_X1_15) (fun _ h9 => h9) rfl dX1_target_9 ?_
  refine lv_iload_n hx hb dX1_target_12 rfl (lv_at hl 1 rfl) ?_
  refine lv_iadd hx hb dX1_target_13 ?_
  refine zb_ti (nI_add 3 k) ?_
  refine lv_iconst (v := 0) hx hb dX1_target_14 (by decide) ?_
  refine lv_iconst (v := 4) hx hb dX1_target_15 (by decide) ?_
  refine zb_cl (va_runV (As := [.int (nI (3 + k)), .int 0, .int 4]) (rest := [.ref (a 1)]) ⟨hx, hb, hml, hown, htb⟩ (c_part l D a cA N f ob tr nd (3 + k) 0 4 hB hz4.2 (by rw [hz4.1]; decide) (by decide)) (cwV 3 htb (wb_V kM_X1_33 kI_X0_part kS_X0_part kN_X0 kD_X0_part) rfl rfl rfl (by decide +kernel) ⟨Nat.le_of_ble_eq_true rfl, Nat.le_of_ble_eq_true rfl⟩) (zp_V 1 rfl rfl hP hK hSt hS hnw) rfl rfl hl.1 rfl (lv_room (Nat.le_of_ble_eq_true rfl)) dX1_target_16 ⟨Nat.le_of_ble_eq_true rfl, Nat.le_of_ble_eq_true rfl⟩) ?_
  refine lv_l2i hx hb dX1_target_19 rfl ?_
  refine zb_ti (y := nI (sm f (xP (3 + k)) 4)) (by rw [Nat.add_zero]; exact lN_i _) ?_
  refine lv_aload_n hx hb dX1_target_20 rfl (lv_at hl 0 rfl) ?_
  refine va_get (D := D) (ci := 1) (v := .int 6) (fs := [.ref (a 1), .int 3, .int 6]) (C := RX1) (T := TX1) (N := 3) hx hb htb inX1 hown hK hP 3 rfl rfl 2 (by decide) (htb _ kF_X1_21) (fun _ h9 => h9) rfl dX1_target_21 ?_
  refine zb_ci (va_runV (As := [.int (nI (sm f (xP (3 + k)) 4)), .int 6]) (rest := []) ⟨hx, hb, hml, hown, htb⟩ (c_named l D a cA N f ob tr nd (nI (sm f (xP (3 + k)) 4)) 6 (by decide)) (cwV 2 htb (wb_V kM_X1_37 kI_X0_named kS_X0_named kN_X0 kD_X0_named) rfl rfl rfl (by decide +kernel) ⟨Nat.le_of_ble_eq_true rfl, Nat.le_of_ble_eq_true rfl⟩) (zp_V 1 rfl rfl hP hK hSt hS hnw) rfl rfl hl.1 rfl (lv_room (Nat.le_of_ble_eq_true rfl)) dX1_target_24 ⟨Nat.le_of_ble_eq_true rfl, Nat.le_of_ble_eq_true rfl⟩) ?_
  rw [hQ]
  exact W.iret (v := oI (mp (nI (sm f (xP (3 + k)) 4)) 6)) hx hb hr (fun t ht hW => ⟨congrArg (fun z => Outcome.returned (some (Value.int z))) (rfl), ht⟩) (fun q h => nomatch h) dX1_target_27
set_option maxHeartbeats 4000000 in
set_option maxRecDepth 100000 in
theorem c_lengthT (l : Launch) (D : va_G) (a : Nat → Nat) (cA : ClassId) (N : Int32) (f : Nat → Int32) (ob : OB) (tr : TR) (nd : ND) (cn : Nat) (hcn : f (xP 3) = nI cn) (hcn4 : cn ≤ 4) (hB : isB f) : Met l yX1_contentLength (wX1_contentLength :: wb) ({ frames := 2, cells := 0, slots := 0, locals := 48 } : Room) (va_Pc [.ref (a 3)] (zPu D [(cA, .int)] (cw a cA N f ob tr nd))) (zb_I (nI (mL f 3 6 cn))) 0 0 (fun _ => False) := by
  refine Met.ofW (cc := cX1_contentLength) (maxL := 5) (ret := (some .int)) (by decide) rfl ?_
  intro p ev s m args below meth c s₁ B hml hv
  obtain ⟨rfl, hP, hK, hSt, hnw⟩ := hv
  have hx := B.exec
  have hb := B.bytes
  have hr := B.returns
  have hts := atoms_spec (ws := wX1_contentLength :: wb) B.pre
  have htb : ∀ w ∈ wb, w.before ([.ref (a 3)]).toArray s = true := fun w h => hts w (List.mem_cons_of_mem _ h)
  have hown : s.vm.findClass RX1 = some m.cls := findClass_of_methodNamed B.named
  have hlocks := B.notSynchronized
  have hS : va_S (fun _ => False) s.heap s.heap [] := va_S.rf
  obtain ⟨⟨tt, ff, hZT, hTT, hZF, hTF⟩, hXS⟩ := id hSt
  have hl := lv_entry ([.ref (a 3)]) (n := 5) (Nat.le_of_ble_eq_true rfl)
  rw [lg_entry_eq]
  generalize (lg_sl ([.ref (a 3)]) ++ List.replicate (5 - (lg_sl ([.ref (a 3)])).length) Slot.unset).toArray = ls at hl ⊢
  have hl : lv_has ls 5 [(0, .ref (a 3))] := hl
  refine zb_abs (fun Q hQ => ?_)
  refine lv_aload_n hx hb dX1_contentLength_0 rfl (lv_at hl 0 rfl) ?_
  refine zb_ci (va_runV (As := []) (rest := []) ⟨hx, hb, hml, hown, htb⟩ (c_countT l D a cA N f ob tr nd cn hcn hcn4) (cwV 0 htb (wb_V kM_X1_50 kI_X1_count kS_X1_count kN_X1 kD_X1_count) rfl rfl rfl (by decide +kernel) ⟨Nat.le_of_ble_eq_true rfl, Nat.le_of_ble_eq_true rfl⟩) (zp_V 3 rfl rfl hP hK hSt hS hnw) rfl rfl hl.1 rfl (lv_room (Nat.le_of_ble_eq_true rfl)) dX1_contentLength_1 ⟨Nat.le_of_ble_eq_true rfl, Nat.le_of_ble_eq_true rfl⟩) ?_
  refine lv_istore_n hx hb dX1_contentLength_4 rfl hl (by decide) rfl (fun ls hl => ?_)
  have hl : lv_has ls 5 [(1, .int (nI cn)), (0, .ref (a 3))] := hl
  refine lv_iconst (v := 0) hx hb dX1_contentLength_5 (by decide) ?_
  refine lv_istore_n hx hb dX1_contentLength_6 rfl hl (by decide) rfl (fun ls hl => ?_)
  have hl : lv_has ls 5 [(2, .int 0), (1, .int (nI cn)), (0, .ref (a 3))] := hl
  refine lv_iconst (v := 1) hx hb dX1_contentLength_7 (by decide) ?_
  refine lv_istore_n hx hb dX1_contentLength_8 rfl hl (by decide) rfl (fun ls hl => ?_)
  have hl : lv_has ls 5 [(3, .int 1), (2, .int 0), (1, .int (nI cn)), (0, .ref (a 3))] := hl
  have lp : ∀ (nn k : Nat) (ls : Array Slot), k + nn = cn → lv_has ls 5 [(0, .ref (a 3)), (1, .int (nI cn)), (2, .int (nI (mL f 3 6 (k)))), (3, .int (nI (k + 1)))] → W p l ev ({ frames := 2, cells := 0, slots := 0, locals := 48 } : Room) s m ([.ref (a 3)]).toArray below meth c s.heap [] 0 0 Q (F0 m 9 ls []) := by
    intro nn
    induction nn with
    | zero =>
      intro k ls hk_lp  hl
      have hk0_lp : k = cn := by omega
      refine lv_iload_n hx hb dX1_contentLength_9 rfl (lv_at hl 3 rfl) ?_
      refine lv_iload_n hx hb dX1_contentLength_10 rfl (lv_at hl 1 rfl) ?_
      refine lv_icmp_gt (tgt := 41) hx hb dX1_contentLength_11 (by decide) (fun _ => ?_) (fun hno => absurd (by rw [hk0_lp]; exact nI_lt (Nat.lt_succ_self _) (by omega)) hno)
      refine lv_iload_n hx hb dX1_contentLength_41 rfl (lv_at hl 2 rfl) ?_
      rw [hQ]
      exact W.iret (v := nI (mL f 3 6 (k))) hx hb hr (fun t ht hW => ⟨congrArg (fun z => Outcome.returned (some (Value.int z))) (by rw [hk0_lp]), ht⟩) (fun q h => nomatch h) dX1_contentLength_42
    | succ nn ih_lp =>
      intro k ls hk_lp  hl
      have hk1_lp : k < cn := by omega
      refine lv_iload_n hx hb dX1_contentLength_9 rfl (lv_at hl 3 rfl) ?_
      refine lv_iload_n hx hb dX1_contentLength_10 rfl (lv_at hl 1 rfl) ?_
      refine lv_icmp_gt (tgt := 41) hx hb dX1_contentLength_11 (by decide) (fun hno => absurd hno (nI_nlt hk1_lp (by omega))) (fun _ => ?_)
      refine lv_aload_n hx hb dX1_contentLength_14 rfl (lv_at hl 0 rfl) ?_
      refine lv_iload_n hx hb dX1_contentLength_15 rfl (lv_at hl 3 rfl) ?_
      refine zb_ci (va_runV (As := [.int (nI (k + 1))]) (rest := []) ⟨hx, hb, hml, hown, htb⟩ (c_targetT l D a cA N f ob tr nd (k + 1) hB (by omega) (by omega)) (cwV 1 htb (wb_V kM_X1_41 kI_X1_target kS_X1_target kN_X1 kD_X1_target) rfl rfl rfl (by decide +kernel) ⟨Nat.le_of_ble_eq_true rfl, Nat.le_of_ble_eq_true rfl⟩) (zp_V 3 rfl rfl hP hK hSt hS hnw) rfl rfl hl.1 rfl (lv_room (Nat.le_of_ble_eq_true rfl)) dX1_contentLength_16 ⟨Nat.le_of_ble_eq_true rfl, Nat.le_of_ble_eq_true rfl⟩) ?_
      cases hme : mE f 3 6 (k + 1) with
      | none =>
        refine zb_ti (y := (-1)) (rfl) ?_
        refine lv_istore hx hb dX1_contentLength_19 hl (by decide) rfl (fun ls hl => ?_)
        have hl : lv_has ls 5 [(4, .int (-1)), (0, .ref (a 3)), (1, .int (nI cn)), (2, .int (nI (mL f 3 6 (k)))), (3, .int (nI (k + 1)))] := hl
        refine lv_iload hx hb dX1_contentLength_21 (lv_at hl 0 rfl) ?_
        refine lv_iconst (v := (-1)) hx hb dX1_contentLength_23 (by decide) ?_
        refine lv_icmp_eq (tgt := 35) hx hb dX1_contentLength_24 (by decide) (fun _ => ?_) (fun hno => absurd (by decide) hno)
        have e1 : nI (mL f 3 6 (k)) = nI (mL f 3 6 (k + 1)) := by rw [mL_n hme]
        rw [e1] at hl
        have hl : lv_has ls 5 [(4, .int (-1)), (0, .ref (a 3)), (1, .int (nI cn)), (2, .int (nI (mL f 3 6 (k + 1)))), (3, .int (nI (k + 1)))] := hl
        refine lv_iinc (k := 4) (v := nI ((k + 1) + 1)) hx hb dX1_contentLength_35 hl rfl (nI_1 (k + 1)) (by decide) rfl (fun ls hl => ?_)
        have hl : lv_has ls 5 [(3, .int (nI ((k + 1) + 1))), (4, .int (-1)), (0, .ref (a 3)), (1, .int (nI cn)), (2, .int (nI (mL f 3 6 (k + 1))))] := hl
        refine lv_goto (tgt := 9) hx hb dX1_contentLength_38 (by decide) ?_
        exact ih_lp (k + 1) ls (by omega) (lv_sub hl [2, 3, 4, 0] rfl)
      | some e9 =>
        refine zb_ti (y := nI e9) (rfl) ?_
        have h22_e9 : e9 < 22 := mE_lt hme
        refine lv_istore hx hb dX1_contentLength_19 hl (by decide) rfl (fun ls hl => ?_)
        have hl : lv_has ls 5 [(4, .int (nI e9)), (0, .ref (a 3)), (1, .int (nI cn)), (2, .int (nI (mL f 3 6 (k)))), (3, .int (nI (k + 1)))] := hl
        refine lv_iload hx hb dX1_contentLength_21 (lv_at hl 0 rfl) ?_
        refine lv_iconst (v := (-1)) hx hb dX1_contentLength_23 (by decide) ?_
        refine lv_icmp_eq (tgt := 35) hx hb dX1_contentLength_24 (by decide) (fun hno => absurd hno (ni_m1 h22_e9)) (fun _ => ?_)
        refine lv_iload_n hx hb dX1_contentLength_27 rfl (lv_at hl 3 rfl) ?_
        refine lv_iload hx hb dX1_contentLength_28 (lv_at hl 0 rfl) ?_
        refine zb_ci (va_runS (As := [.int (nI e9)]) (rest := [.int (nI (mL f 3 6 (k)))]) ⟨hx, hb, hml, hown, htb⟩ (c_sizeOf l D a cA N f ob tr nd e9 h22_e9) (va_cwS 1 htb (wb_S kM_X1_46 kZ_X0_sizeOf kN_X0 kD_X0_sizeOf) rfl rfl rfl (by decide +kernel) ⟨Nat.le_of_ble_eq_true rfl, Nat.le_of_ble_eq_true rfl⟩) (zp_S hP hK hSt hS hnw) rfl rfl hl.1 rfl (lv_room (Nat.le_of_ble_eq_true rfl)) dX1_contentLength_30 ⟨Nat.le_of_ble_eq_true rfl, Nat.le_of_ble_eq_true rfl⟩) ?_
        refine lv_iadd hx hb dX1_contentLength_33 ?_
        refine zb_ti (nI_add (mL f 3 6 (k)) (xZ e9)) ?_
        refine zb_ti (y := nI (mL f 3 6 (k + 1))) (by rw [mL_s hme]) ?_
        refine lv_istore_n hx hb dX1_contentLength_34 rfl hl (by decide) rfl (fun ls hl => ?_)
        have hl : lv_has ls 5 [(2, .int (nI (mL f 3 6 (k + 1)))), (4, .int (nI e9)), (0, .ref (a 3)), (1, .int (nI cn)), (3, .int (nI (k + 1)))] := hl
        refine lv_iinc (k := 4) (v := nI ((k + 1) + 1)) hx hb dX1_contentLength_35 hl rfl (nI_1 (k + 1)) (by decide) rfl (fun ls hl => ?_)
        have hl : lv_has ls 5 [(3, .int (nI ((k + 1) + 1))), (2, .int (nI (mL f 3 6 (k + 1)))), (4, .int (nI e9)), (0, .ref (a 3)), (1, .int (nI cn))] := hl
        refine lv_goto (tgt := 9) hx hb dX1_contentLength_38 (by decide) ?_
        exact ih_lp (k + 1) ls (by omega) (lv_sub hl [3, 4, 1, 0] rfl)
  exact lp (cn - 0) (0) ls (by omega) (lv_sub hl [3, 2, 1, 0] rfl)
set_option maxHeartbeats 4000000 in
set_option maxRecDepth 100000 in
theorem c_contentT (l : Launch) (D : va_G) (a : Nat → Nat) (cA : ClassId) (N : Int32) (f : Nat → Int32) (ob : OB) (tr : TR) (nd : ND) (cn : Nat) (hcn : f (xP 3) = nI cn) (hcn4 : cn ≤ 4) (hB : isB f) (h8 : mL f 3 6 cn ≤ 8) : Met l yX1_content (wX1_content :: wb) ({ frames := 2, cells := 0, slots := 0, locals := 48 } : Room) (va_Pc [.ref (a 3)] (zPu D [(cA, .int)] (cw a cA N f ob tr nd))) (zb_L (lN (mC f 3 6 cn))) 0 0 (fun _ => False) := by
  refine Met.ofW (cc := cX1_content) (maxL := 8) (ret := (some .long)) (by decide) rfl ?_
  intro p ev s m args below meth c s₁ B hml hv
  obtain ⟨rfl, hP, hK, hSt, hnw⟩ := hv
  have hx := B.exec
  have hb := B.bytes
  have hr := B.returns
  have hts := atoms_spec (ws := wX1_content :: wb) B.pre
  have htb : ∀ w ∈ wb, w.before ([.ref (a 3)]).toArray s = true := fun w h => hts w (List.mem_cons_of_mem _ h)
  have hown : s.vm.findClass RX1 = some m.cls := findClass_of_methodNamed B.named
  have hlocks := B.notSynchronized
  have hS : va_S (fun _ => False) s.heap s.heap [] := va_S.rf
  obtain ⟨⟨tt, ff, hZT, hTT, hZF, hTF⟩, hXS⟩ := id hSt
  have hl := lv_entry ([.ref (a 3)]) (n := 8) (Nat.le_of_ble_eq_true rfl)
  rw [lg_entry_eq]
  generalize (lg_sl ([.ref (a 3)]) ++ List.replicate (8 - (lg_sl ([.ref (a 3)])).length) Slot.unset).toArray = ls at hl ⊢
  have hl : lv_has ls 8 [(0, .ref (a 3))] := hl
  refine zb_abs (fun Q hQ => ?_)
  refine lv_aload_n hx hb dX1_content_0 rfl (lv_at hl 0 rfl) ?_
  refine zb_ci (va_runV (As := []) (rest := []) ⟨hx, hb, hml, hown, htb⟩ (c_countT l D a cA N f ob tr nd cn hcn hcn4) (cwV 0 htb (wb_V kM_X1_50 kI_X1_count kS_X1_count kN_X1 kD_X1_count) rfl rfl rfl (by decide +kernel) ⟨Nat.le_of_ble_eq_true rfl, Nat.le_of_ble_eq_true rfl⟩) (zp_V 3 rfl rfl hP hK hSt hS hnw) rfl rfl hl.1 rfl (lv_room (Nat.le_of_ble_eq_true rfl)) dX1_content_1 ⟨Nat.le_of_ble_eq_true rfl, Nat.le_of_ble_eq_true rfl⟩) ?_
  refine lv_istore_n hx hb dX1_content_4 rfl hl (by decide) rfl (fun ls hl => ?_)
  have hl : lv_has ls 8 [(1, .int (nI cn)), (0, .ref (a 3))] := hl
  refine lv_lconst (v := 0) hx hb dX1_content_5 (by decide) ?_
  refine lv_lstore_n hx hb dX1_content_6 rfl hl (by decide) rfl (fun ls hl => ?_)
  have hl : lv_has ls 8 [(2, .long 0), (1, .int (nI cn)), (0, .ref (a 3))] := hl
  refine lv_iconst (v := 0) hx hb dX1_content_7 (by decide) ?_
  refine lv_istore hx hb dX1_content_8 hl (by decide) rfl (fun ls hl => ?_)
  have hl : lv_has ls 8 [(4, .int 0), (2, .long 0), (1, .int (nI cn)), (0, .ref (a 3))] := hl
  refine lv_iconst (v := 1) hx hb dX1_content_10 (by decide) ?_
  refine lv_istore hx hb dX1_content_11 hl (by decide) rfl (fun ls hl => ?_)
  have hl : lv_has ls 8 [(5, .int 1), (4, .int 0), (2, .long 0), (1, .int (nI cn)), (0, .ref (a 3))] := hl
  have lp : ∀ (nn k : Nat) (ls : Array Slot), k + nn = cn → lv_has ls 8 [(0, .ref (a 3)), (1, .int (nI cn)), (2, .long (lN (mC f 3 6 (k)))), (4, .int (nI (mL f 3 6 (k)))), (5, .int (nI (k + 1)))] → W p l ev ({ frames := 2, cells := 0, slots := 0, locals := 48 } : Room) s m ([.ref (a 3)]).toArray below meth c s.heap [] 0 0 Q (F0 m 13 ls []) := by
    intro nn
    induction nn with
    | zero =>
      intro k ls hk_lp  hl
      have hk0_lp : k = cn := by omega
      refine lv_iload hx hb dX1_content_13 (lv_at hl 4 rfl) ?_
      refine lv_iload_n hx hb dX1_content_15 rfl (lv_at hl 1 rfl) ?_
      refine lv_icmp_gt (tgt := 74) hx hb dX1_content_16 (by decide) (fun _ => ?_) (fun hno => absurd (by rw [hk0_lp]; exact nI_lt (Nat.lt_succ_self _) (by omega)) hno)
      refine lv_lload_n hx hb dX1_content_74 rfl (lv_at hl 2 rfl) ?_
      rw [hQ]
      exact W.lret (v := lN (mC f 3 6 (k))) hx hb hr (fun t ht hW => ⟨congrArg (fun z => Outcome.returned (some (Value.long z))) (by rw [hk0_lp]), ht⟩) (fun q h => nomatch h) dX1_content_75
    | succ nn ih_lp =>
      intro k ls hk_lp  hl
      have hk1_lp : k < cn := by omega
      refine lv_iload hx hb dX1_content_13 (lv_at hl 4 rfl) ?_
      refine lv_iload_n hx hb dX1_content_15 rfl (lv_at hl 1 rfl) ?_
      refine lv_icmp_gt (tgt := 74) hx hb dX1_content_16 (by decide) (fun hno => absurd hno (nI_nlt hk1_lp (by omega))) (fun _ => ?_)
      refine lv_aload_n hx hb dX1_content_19 rfl (lv_at hl 0 rfl) ?_
      refine lv_iload hx hb dX1_content_20 (lv_at hl 4 rfl) ?_
      refine zb_ci (va_runV (As := [.int (nI (k + 1))]) (rest := []) ⟨hx, hb, hml, hown, htb⟩ (c_targetT l D a cA N f ob tr nd (k + 1) hB (by omega) (by omega)) (cwV 1 htb (wb_V kM_X1_41 kI_X1_target kS_X1_target kN_X1 kD_X1_target) rfl rfl rfl (by decide +kernel) ⟨Nat.le_of_ble_eq_true rfl, Nat.le_of_ble_eq_true rfl⟩) (zp_V 3 rfl rfl hP hK hSt hS hnw) rfl rfl hl.1 rfl (lv_room (Nat.le_of_ble_eq_true rfl)) dX1_content_22 ⟨Nat.le_of_ble_eq_true rfl, Nat.le_of_ble_eq_true rfl⟩) ?_
      cases hme : mE f 3 6 (k + 1) with
      | none =>
        refine zb_ti (y := (-1)) (rfl) ?_
        refine lv_istore hx hb dX1_content_25 hl (by decide) rfl (fun ls hl => ?_)
        have hl : lv_has ls 8 [(6, .int (-1)), (0, .ref (a 3)), (1, .int (nI cn)), (2, .long (lN (mC f 3 6 (k)))), (4, .int (nI (mL f 3 6 (k)))), (5, .int (nI (k + 1)))] := hl
        refine lv_iload hx hb dX1_content_27 (lv_at hl 0 rfl) ?_
        refine lv_iconst (v := (-1)) hx hb dX1_content_29 (by decide) ?_
        refine lv_icmp_eq (tgt := 68) hx hb dX1_content_30 (by decide) (fun _ => ?_) (fun hno => absurd (by decide) hno)
        have e1 : lN (mC f 3 6 (k)) = lN (mC f 3 6 (k + 1)) := by rw [mC_n hme]
        rw [e1] at hl
        have hl : lv_has ls 8 [(6, .int (-1)), (0, .ref (a 3)), (1, .int (nI cn)), (2, .long (lN (mC f 3 6 (k + 1)))), (4, .int (nI (mL f 3 6 (k)))), (5, .int (nI (k + 1)))] := hl
        have e2 : nI (mL f 3 6 (k)) = nI (mL f 3 6 (k + 1)) := by rw [mL_n hme]
        rw [e2] at hl
        have hl : lv_has ls 8 [(6, .int (-1)), (0, .ref (a 3)), (1, .int (nI cn)), (2, .long (lN (mC f 3 6 (k + 1)))), (4, .int (nI (mL f 3 6 (k + 1)))), (5, .int (nI (k + 1)))] := hl
        refine lv_iinc (k := 5) (v := nI ((k + 1) + 1)) hx hb dX1_content_68 hl rfl (nI_1 (k + 1)) (by decide) rfl (fun ls hl => ?_)
        have hl : lv_has ls 8 [(5, .int (nI ((k + 1) + 1))), (6, .int (-1)), (0, .ref (a 3)), (1, .int (nI cn)), (2, .long (lN (mC f 3 6 (k + 1)))), (4, .int (nI (mL f 3 6 (k + 1))))] := hl
        refine lv_goto (tgt := 13) hx hb dX1_content_71 (by decide) ?_
        exact ih_lp (k + 1) ls (by omega) (lv_sub hl [2, 3, 4, 5, 0] rfl)
      | some e9 =>
        refine zb_ti (y := nI e9) (rfl) ?_
        have h22_e9 : e9 < 22 := mE_lt hme
        refine lv_istore hx hb dX1_content_25 hl (by decide) rfl (fun ls hl => ?_)
        have hl : lv_has ls 8 [(6, .int (nI e9)), (0, .ref (a 3)), (1, .int (nI cn)), (2, .long (lN (mC f 3 6 (k)))), (4, .int (nI (mL f 3 6 (k)))), (5, .int (nI (k + 1)))] := hl
        refine lv_iload hx hb dX1_content_27 (lv_at hl 0 rfl) ?_
        refine lv_iconst (v := (-1)) hx hb dX1_content_29 (by decide) ?_
        refine lv_icmp_eq (tgt := 68) hx hb dX1_content_30 (by decide) (fun hno => absurd hno (ni_m1 h22_e9)) (fun _ => ?_)
        have hft9 := x_fit e9 h22_e9
        have hm9 := mL_mono f 3 6 (show k + 1 ≤ cn by omega)
        have hs9 := mL_s hme
        refine lv_iload hx hb dX1_content_33 (lv_at hl 0 rfl) ?_
        refine zb_ci (va_runS (As := [.int (nI e9)]) (rest := []) ⟨hx, hb, hml, hown, htb⟩ (c_sizeOf l D a cA N f ob tr nd e9 h22_e9) (va_cwS 1 htb (wb_S kM_X1_46 kZ_X0_sizeOf kN_X0 kD_X0_sizeOf) rfl rfl rfl (by decide +kernel) ⟨Nat.le_of_ble_eq_true rfl, Nat.le_of_ble_eq_true rfl⟩) (zp_S hP hK hSt hS hnw) rfl rfl hl.1 rfl (lv_room (Nat.le_of_ble_eq_true rfl)) dX1_content_35 ⟨Nat.le_of_ble_eq_true rfl, Nat.le_of_ble_eq_true rfl⟩) ?_
        refine lv_istore hx hb dX1_content_38 hl (by decide) rfl (fun ls hl => ?_)
        have hl : lv_has ls 8 [(7, .int (nI (xZ e9))), (6, .int (nI e9)), (0, .ref (a 3)), (1, .int (nI cn)), (2, .long (lN (mC f 3 6 (k)))), (4, .int (nI (mL f 3 6 (k)))), (5, .int (nI (k + 1)))] := hl
        refine lv_lload_n hx hb dX1_content_40 rfl (lv_at hl 4 rfl) ?_
        refine lv_aload_n hx hb dX1_content_41 rfl (lv_at hl 2 rfl) ?_
        refine va_get (D := D) (ci := 1) (v := .ref (a 1)) (fs := [.ref (a 1), .int 3, .int 6]) (C := RX1) (T := TX1) (N := 3) hx hb htb inX1 hown hK hP 3 rfl rfl 0 (by decide) (htb _ kF_X1_9) (fun _ h9 => h9) rfl dX1_content_42 ?_
        refine lv_iload hx hb dX1_content_45 (lv_at hl 1 rfl) ?_
        refine lv_iconst (v := 0) hx hb dX1_content_47 (by decide) ?_
        refine lv_iload hx hb dX1_content_48 (lv_at hl 0 rfl) ?_
        refine zb_cl (va_runV (As := [.int (nI e9), .int 0, .int (nI (xZ e9))]) (rest := [.long (lN (mC f 3 6 (k)))]) ⟨hx, hb, hml, hown, htb⟩ (c_part l D a cA N f ob tr nd e9 0 (xZ e9) hB h22_e9 (by omega) (mE_z (by decide) (by decide) hme)) (cwV 3 htb (wb_V kM_X1_33 kI_X0_part kS_X0_part kN_X0 kD_X0_part) rfl rfl rfl (by decide +kernel) ⟨Nat.le_of_ble_eq_true rfl, Nat.le_of_ble_eq_true rfl⟩) (zp_V 1 rfl rfl hP hK hSt hS hnw) rfl rfl hl.1 rfl (lv_room (Nat.le_of_ble_eq_true rfl)) dX1_content_50 ⟨Nat.le_of_ble_eq_true rfl, Nat.le_of_ble_eq_true rfl⟩) ?_
        refine zb_tl (y := lN (sm f (xP e9) (xZ e9))) (by rw [Nat.add_zero]) ?_
        refine lv_bipush (v := 8) hx hb dX1_content_53 (by decide) ?_
        refine lv_iload hx hb dX1_content_55 (lv_at hl 5 rfl) ?_
        refine lv_imul hx hb dX1_content_57 ?_
        refine zb_ti (pk_mul 8 (mL f 3 6 (k))) ?_
        refine lv_lshl hx hb dX1_content_58 rfl ?_
        refine lv_lor hx hb dX1_content_59 ?_
        refine zb_tl (y := lN (mC f 3 6 (k + 1))) (mC_or hB hme (by omega) (by omega)) ?_
        refine lv_lstore_n hx hb dX1_content_60 rfl hl (by decide) rfl (fun ls hl => ?_)
        have hl : lv_has ls 8 [(2, .long (lN (mC f 3 6 (k + 1)))), (7, .int (nI (xZ e9))), (6, .int (nI e9)), (0, .ref (a 3)), (1, .int (nI cn)), (4, .int (nI (mL f 3 6 (k)))), (5, .int (nI (k + 1)))] := hl
        refine lv_iload hx hb dX1_content_61 (lv_at hl 5 rfl) ?_
        refine lv_iload hx hb dX1_content_63 (lv_at hl 1 rfl) ?_
        refine lv_iadd hx hb dX1_content_65 ?_
        refine zb_ti (nI_add (mL f 3 6 (k)) (xZ e9)) ?_
        refine zb_ti (y := nI (mL f 3 6 (k + 1))) (by rw [hs9]) ?_
        refine lv_istore hx hb dX1_content_66 hl (by decide) rfl (fun ls hl => ?_)
        have hl : lv_has ls 8 [(4, .int (nI (mL f 3 6 (k + 1)))), (2, .long (lN (mC f 3 6 (k + 1)))), (7, .int (nI (xZ e9))), (6, .int (nI e9)), (0, .ref (a 3)), (1, .int (nI cn)), (5, .int (nI (k + 1)))] := hl
        refine lv_iinc (k := 6) (v := nI ((k + 1) + 1)) hx hb dX1_content_68 hl rfl (nI_1 (k + 1)) (by decide) rfl (fun ls hl => ?_)
        have hl : lv_has ls 8 [(5, .int (nI ((k + 1) + 1))), (4, .int (nI (mL f 3 6 (k + 1)))), (2, .long (lN (mC f 3 6 (k + 1)))), (7, .int (nI (xZ e9))), (6, .int (nI e9)), (0, .ref (a 3)), (1, .int (nI cn))] := hl
        refine lv_goto (tgt := 13) hx hb dX1_content_71 (by decide) ?_
        exact ih_lp (k + 1) ls (by omega) (lv_sub hl [5, 6, 2, 1, 0] rfl)
  exact lp (cn - 0) (0) ls (by omega) (lv_sub hl [4, 3, 2, 1, 0] rfl)
set_option maxHeartbeats 4000000 in
set_option maxRecDepth 100000 in
theorem c_countFaultT (l : Launch) (D : va_G) (a : Nat → Nat) (cA : ClassId) (N : Int32) (f : Nat → Int32) (ob : OB) (tr : TR) (nd : ND) (v : Nat) (hv31 : v < 256) (hB : isB f) : Met l yX1_countFault (wX1_countFault :: wb) ({ frames := 2, cells := 0, slots := 0, locals := 48 } : Room) (va_Pc [.ref (a 3), .int (nI v)] (zPu D [(cA, .int)] (cw a cA N f ob tr nd))) (zb_I (nI (cF f 3 6 v))) 0 0 (fun _ => False) := by
  refine Met.ofW (cc := cX1_countFault) (maxL := 5) (ret := (some .int)) (by decide) rfl ?_
  intro p ev s m args below meth c s₁ B hml hv
  obtain ⟨rfl, hP, hK, hSt, hnw⟩ := hv
  have hx := B.exec
  have hb := B.bytes
  have hr := B.returns
  have hts := atoms_spec (ws := wX1_countFault :: wb) B.pre
  have htb : ∀ w ∈ wb, w.before ([.ref (a 3), .int (nI v)]).toArray s = true := fun w h => hts w (List.mem_cons_of_mem _ h)
  have hown : s.vm.findClass RX1 = some m.cls := findClass_of_methodNamed B.named
  have hlocks := B.notSynchronized
  have hS : va_S (fun _ => False) s.heap s.heap [] := va_S.rf
  obtain ⟨⟨tt, ff, hZT, hTT, hZF, hTF⟩, hXS⟩ := id hSt
  have hl := lv_entry ([.ref (a 3), .int (nI v)]) (n := 5) (Nat.le_of_ble_eq_true rfl)
  rw [lg_entry_eq]
  generalize (lg_sl ([.ref (a 3), .int (nI v)]) ++ List.replicate (5 - (lg_sl ([.ref (a 3), .int (nI v)])).length) Slot.unset).toArray = ls at hl ⊢
  have hl : lv_has ls 5 [(0, .ref (a 3)), (1, .int (nI v))] := hl
  refine zb_abs (fun Q hQ => ?_)
  refine lv_iload_n hx hb dX1_countFault_0 rfl (lv_at hl 1 rfl) ?_
  refine lv_iconst (v := 4) hx hb dX1_countFault_1 (by decide) ?_
  refine lv_icmp_le (tgt := 8) hx hb dX1_countFault_2 (by decide) (fun hc1 => ?_) (fun hc1 => ?_)
  · have hv4 : v ≤ 4 := (nI_leI (by omega) (by decide)).mp hc1
    refine lv_iconst (v := 0) hx hb dX1_countFault_8 (by decide) ?_
    refine lv_istore_n hx hb dX1_countFault_9 rfl hl (by decide) rfl (fun ls hl => ?_)
    have hl : lv_has ls 5 [(2, .int 0), (0, .ref (a 3)), (1, .int (nI v))] := hl
    refine lv_iconst (v := 1) hx hb dX1_countFault_10 (by decide) ?_
    refine lv_istore_n hx hb dX1_countFault_11 rfl hl (by decide) rfl (fun ls hl => ?_)
    have hl : lv_has ls 5 [(3, .int 1), (2, .int 0), (0, .ref (a 3)), (1, .int (nI v))] := hl
    have lp : ∀ (nn k : Nat) (ls : Array Slot), k + nn = v → (mOk f 3 6 k = true) → lv_has ls 5 [(0, .ref (a 3)), (1, .int (nI v)), (2, .int (nI (mL f 3 6 (k)))), (3, .int (nI (k + 1)))] → W p l ev ({ frames := 2, cells := 0, slots := 0, locals := 48 } : Room) s m ([.ref (a 3), .int (nI v)]).toArray below meth c s.heap [] 0 0 Q (F0 m 12 ls []) := by
      intro nn
      induction nn with
      | zero =>
        intro k ls hk_lp hok hl
        have hk0_lp : k = v := by omega
        refine lv_iload_n hx hb dX1_countFault_12 rfl (lv_at hl 3 rfl) ?_
        refine lv_iload_n hx hb dX1_countFault_13 rfl (lv_at hl 1 rfl) ?_
        refine lv_icmp_gt (tgt := 47) hx hb dX1_countFault_14 (by decide) (fun _ => ?_) (fun hno => absurd (by rw [hk0_lp]; exact nI_lt (Nat.lt_succ_self _) (by omega)) hno)
        have hm31 : mL f 3 6 k < 2 ^ 31 := mL_31 f 3 6 k (by omega)
        refine lv_iload_n hx hb dX1_countFault_47 rfl (lv_at hl 2 rfl) ?_
        refine lv_bipush (v := 8) hx hb dX1_countFault_48 (by decide) ?_
        refine lv_icmp_le (tgt := 58) hx hb dX1_countFault_50 (by decide) (fun hc2 => ?_) (fun hc2 => ?_)
        · refine lv_iconst (v := 0) hx hb dX1_countFault_58 (by decide) ?_
          rw [hQ]
          exact W.iret (v := 0) hx hb hr (fun t ht hW => ⟨congrArg (fun z => Outcome.returned (some (Value.int z))) (by unfold cF; rw [if_neg (show ¬ 4 < v by omega), if_pos (by rw [← hk0_lp]; exact hok), if_neg (by rw [← hk0_lp]; have h9 : mL f 3 6 k ≤ 8 := (nI_leI (b := 8) (by omega) (by decide)).mp hc2; omega)]; rfl), ht⟩) (fun q h => nomatch h) dX1_countFault_59
        refine lv_ldc (v := 100925506) hx hb hown (htb _ kK_X1_49) dX1_countFault_53 ?_
        refine lv_goto (tgt := 59) hx hb dX1_countFault_55 (by decide) ?_
        rw [hQ]
        exact W.iret (v := 100925506) hx hb hr (fun t ht hW => ⟨congrArg (fun z => Outcome.returned (some (Value.int z))) (by unfold cF; rw [if_neg (show ¬ 4 < v by omega), if_pos (by rw [← hk0_lp]; exact hok), if_pos (by rw [← hk0_lp]; have h9 : ¬ mL f 3 6 k ≤ 8 := fun h => hc2 (nI_le h (by decide)); omega)]; rfl), ht⟩) (fun q h => nomatch h) dX1_countFault_59
      | succ nn ih_lp =>
        intro k ls hk_lp hok hl
        have hk1_lp : k < v := by omega
        refine lv_iload_n hx hb dX1_countFault_12 rfl (lv_at hl 3 rfl) ?_
        refine lv_iload_n hx hb dX1_countFault_13 rfl (lv_at hl 1 rfl) ?_
        refine lv_icmp_gt (tgt := 47) hx hb dX1_countFault_14 (by decide) (fun hno => absurd hno (nI_nlt hk1_lp (by omega))) (fun _ => ?_)
        refine lv_aload_n hx hb dX1_countFault_17 rfl (lv_at hl 0 rfl) ?_
        refine lv_iload_n hx hb dX1_countFault_18 rfl (lv_at hl 3 rfl) ?_
        refine zb_ci (va_runV (As := [.int (nI (k + 1))]) (rest := []) ⟨hx, hb, hml, hown, htb⟩ (c_targetT l D a cA N f ob tr nd (k + 1) hB (by omega) (by omega)) (cwV 1 htb (wb_V kM_X1_41 kI_X1_target kS_X1_target kN_X1 kD_X1_target) rfl rfl rfl (by decide +kernel) ⟨Nat.le_of_ble_eq_true rfl, Nat.le_of_ble_eq_true rfl⟩) (zp_V 3 rfl rfl hP hK hSt hS hnw) rfl rfl hl.1 rfl (lv_room (Nat.le_of_ble_eq_true rfl)) dX1_countFault_19 ⟨Nat.le_of_ble_eq_true rfl, Nat.le_of_ble_eq_true rfl⟩) ?_
        cases hme : mE f 3 6 (k + 1) with
        | none =>
          refine zb_ti (y := (-1)) (rfl) ?_
          refine lv_istore hx hb dX1_countFault_22 hl (by decide) rfl (fun ls hl => ?_)
          have hl : lv_has ls 5 [(4, .int (-1)), (0, .ref (a 3)), (1, .int (nI v)), (2, .int (nI (mL f 3 6 (k)))), (3, .int (nI (k + 1)))] := hl
          refine lv_iload hx hb dX1_countFault_24 (lv_at hl 0 rfl) ?_
          refine lv_iconst (v := (-1)) hx hb dX1_countFault_26 (by decide) ?_
          refine lv_icmp_ne (tgt := 33) hx hb dX1_countFault_27 (by decide) (fun hno => absurd (by decide) hno) (fun _ => ?_)
          refine lv_ldc (v := 100925505) hx hb hown (htb _ kK_X1_45) dX1_countFault_30 ?_
          rw [hQ]
          exact W.iret (v := 100925505) hx hb hr (fun t ht hW => ⟨congrArg (fun z => Outcome.returned (some (Value.int z))) (by unfold cF; rw [if_neg (show ¬ 4 < v by omega), if_neg (by rw [mOk_n hme hk1_lp]; decide)]; rfl), ht⟩) (fun q h => nomatch h) dX1_countFault_32
        | some e9 =>
          refine zb_ti (y := nI e9) (rfl) ?_
          have h22_e9 : e9 < 22 := mE_lt hme
          refine lv_istore hx hb dX1_countFault_22 hl (by decide) rfl (fun ls hl => ?_)
          have hl : lv_has ls 5 [(4, .int (nI e9)), (0, .ref (a 3)), (1, .int (nI v)), (2, .int (nI (mL f 3 6 (k)))), (3, .int (nI (k + 1)))] := hl
          refine lv_iload hx hb dX1_countFault_24 (lv_at hl 0 rfl) ?_
          refine lv_iconst (v := (-1)) hx hb dX1_countFault_26 (by decide) ?_
          refine lv_icmp_ne (tgt := 33) hx hb dX1_countFault_27 (by decide) (fun _ => ?_) (fun hno => absurd hno (ni_m1 h22_e9))
          refine lv_iload_n hx hb dX1_countFault_33 rfl (lv_at hl 3 rfl) ?_
          refine lv_iload hx hb dX1_countFault_34 (lv_at hl 0 rfl) ?_
          refine zb_ci (va_runS (As := [.int (nI e9)]) (rest := [.int (nI (mL f 3 6 (k)))]) ⟨hx, hb, hml, hown, htb⟩ (c_sizeOf l D a cA N f ob tr nd e9 h22_e9) (va_cwS 1 htb (wb_S kM_X1_46 kZ_X0_sizeOf kN_X0 kD_X0_sizeOf) rfl rfl rfl (by decide +kernel) ⟨Nat.le_of_ble_eq_true rfl, Nat.le_of_ble_eq_true rfl⟩) (zp_S hP hK hSt hS hnw) rfl rfl hl.1 rfl (lv_room (Nat.le_of_ble_eq_true rfl)) dX1_countFault_36 ⟨Nat.le_of_ble_eq_true rfl, Nat.le_of_ble_eq_true rfl⟩) ?_
          refine lv_iadd hx hb dX1_countFault_39 ?_
          refine zb_ti (nI_add (mL f 3 6 (k)) (xZ e9)) ?_
          refine zb_ti (y := nI (mL f 3 6 (k + 1))) (by rw [mL_s hme]) ?_
          refine lv_istore_n hx hb dX1_countFault_40 rfl hl (by decide) rfl (fun ls hl => ?_)
          have hl : lv_has ls 5 [(2, .int (nI (mL f 3 6 (k + 1)))), (4, .int (nI e9)), (0, .ref (a 3)), (1, .int (nI v)), (3, .int (nI (k + 1)))] := hl
          refine lv_iinc (k := 4) (v := nI ((k + 1) + 1)) hx hb dX1_countFault_41 hl rfl (nI_1 (k + 1)) (by decide) rfl (fun ls hl => ?_)
          have hl : lv_has ls 5 [(3, .int (nI ((k + 1) + 1))), (2, .int (nI (mL f 3 6 (k + 1)))), (4, .int (nI e9)), (0, .ref (a 3)), (1, .int (nI v))] := hl
          refine lv_goto (tgt := 12) hx hb dX1_countFault_44 (by decide) ?_
          exact ih_lp (k + 1) ls (by omega) (mOk_s hok hme) (lv_sub hl [3, 4, 1, 0] rfl)
    exact lp (v - 0) (0) ls (by omega) (rfl) (lv_sub hl [2, 3, 1, 0] rfl)
  refine lv_ldc (v := 101253168) hx hb hown (htb _ kK_X1_40) dX1_countFault_5 ?_
  rw [hQ]
  exact W.iret (v := 101253168) hx hb hr (fun t ht hW => ⟨congrArg (fun z => Outcome.returned (some (Value.int z))) (by unfold cF; rw [if_pos (show 4 < v by have h9 : ¬ v ≤ 4 := fun h => hc1 (nI_le h (by decide)); omega)]; rfl), ht⟩) (fun q h => nomatch h) dX1_countFault_7
set_option maxHeartbeats 4000000 in
set_option maxRecDepth 100000 in
theorem c_nameFaultT (l : Launch) (D : va_G) (a : Nat → Nat) (cA : ClassId) (N : Int32) (f : Nat → Int32) (ob : OB) (tr : TR) (nd : ND) (cn : Nat) (nm : Int32) (hcn : f (xP 3) = nI cn) (hcn4 : cn ≤ 4) : Met l yX1_nameFault (wX1_nameFault :: wb) ({ frames := 2, cells := 0, slots := 0, locals := 42 } : Room) (va_Pc [.ref (a 3), .int nm] (zPu D [(cA, .int)] (cw a cA N f ob tr nd))) (zb_I (nI (nF cn 6 nm))) 0 0 (fun _ => False) := by
  refine Met.ofW (cc := cX1_nameFault) (maxL := 3) (ret := (some .int)) (by decide) rfl ?_
  intro p ev s m args below meth c s₁ B hml hv
  obtain ⟨rfl, hP, hK, hSt, hnw⟩ := hv
  have hx := B.exec
  have hb := B.bytes
  have hr := B.returns
  have hts := atoms_spec (ws := wX1_nameFault :: wb) B.pre
  have htb : ∀ w ∈ wb, w.before ([.ref (a 3), .int nm]).toArray s = true := fun w h => hts w (List.mem_cons_of_mem _ h)
  have hown : s.vm.findClass RX1 = some m.cls := findClass_of_methodNamed B.named
  have hlocks := B.notSynchronized
  have hS : va_S (fun _ => False) s.heap s.heap [] := va_S.rf
  obtain ⟨⟨tt, ff, hZT, hTT, hZF, hTF⟩, hXS⟩ := id hSt
  have hl := lv_entry ([.ref (a 3), .int nm]) (n := 3) (Nat.le_of_ble_eq_true rfl)
  rw [lg_entry_eq]
  generalize (lg_sl ([.ref (a 3), .int nm]) ++ List.replicate (3 - (lg_sl ([.ref (a 3), .int nm])).length) Slot.unset).toArray = ls at hl ⊢
  have hl : lv_has ls 3 [(0, .ref (a 3)), (1, .int nm)] := hl
  refine zb_abs (fun Q hQ => ?_)
  refine lv_aload_n hx hb dX1_nameFault_0 rfl (lv_at hl 0 rfl) ?_
  refine zb_ci (va_runV (As := []) (rest := []) ⟨hx, hb, hml, hown, htb⟩ (c_countT l D a cA N f ob tr nd cn hcn hcn4) (cwV 0 htb (wb_V kM_X1_50 kI_X1_count kS_X1_count kN_X1 kD_X1_count) rfl rfl rfl (by decide +kernel) ⟨Nat.le_of_ble_eq_true rfl, Nat.le_of_ble_eq_true rfl⟩) (zp_V 3 rfl rfl hP hK hSt hS hnw) rfl rfl hl.1 rfl (lv_room (Nat.le_of_ble_eq_true rfl)) dX1_nameFault_1 ⟨Nat.le_of_ble_eq_true rfl, Nat.le_of_ble_eq_true rfl⟩) ?_
  refine lv_if_eq (tgt := 10) hx hb dX1_nameFault_4 (by decide) (fun hc1 => ?_) (fun hc1 => ?_)
  · refine lv_iload_n hx hb dX1_nameFault_10 rfl (lv_at hl 1 rfl) ?_
    refine lv_if_eq (tgt := 30) hx hb dX1_nameFault_11 (by decide) (fun hc2 => ?_) (fun hc2 => ?_)
    · refine lv_iconst (v := 1) hx hb dX1_nameFault_30 (by decide) ?_
      refine lv_goto (tgt := 35) hx hb dX1_nameFault_31 (by decide) ?_
      refine lv_istore_n hx hb dX1_nameFault_35 rfl hl (by decide) rfl (fun ls hl => ?_)
      have hl : lv_has ls 3 [(2, .int 1), (0, .ref (a 3)), (1, .int nm)] := hl
      refine lv_iload_n hx hb dX1_nameFault_36 rfl (lv_at hl 0 rfl) ?_
      refine lv_if_eq (tgt := 44) hx hb dX1_nameFault_37 (by decide) (fun hno => absurd hno (by decide)) (fun _ => ?_)
      refine lv_iconst (v := 0) hx hb dX1_nameFault_40 (by decide) ?_
      refine lv_goto (tgt := 46) hx hb dX1_nameFault_41 (by decide) ?_
      rw [hQ]
      exact W.iret (v := 0) hx hb hr (fun t ht hW => ⟨congrArg (fun z => Outcome.returned (some (Value.int z))) (by unfold nF; rw [if_pos (show cn = 0 from (nI_eq (by omega) (by decide)).mp hc1), if_pos hc2]; rfl), ht⟩) (fun q h => nomatch h) dX1_nameFault_46
    refine lv_aload_n hx hb dX1_nameFault_14 rfl (lv_at hl 0 rfl) ?_
    refine va_get (D := D) (ci := 1) (v := .ref (a 1)) (fs := [.ref (a 1), .int 3, .int 6]) (C := RX1) (T := TX1) (N := 3) hx hb htb inX1 hown hK hP 3 rfl rfl 0 (by decide) (htb _ kF_X1_9) (fun _ h9 => h9) rfl dX1_nameFault_15 ?_
    refine lv_iload_n hx hb dX1_nameFault_18 rfl (lv_at hl 1 rfl) ?_
    refine lv_aload_n hx hb dX1_nameFault_19 rfl (lv_at hl 0 rfl) ?_
    refine va_get (D := D) (ci := 1) (v := .int 6) (fs := [.ref (a 1), .int 3, .int 6]) (C := RX1) (T := TX1) (N := 3) hx hb htb inX1 hown hK hP 3 rfl rfl 2 (by decide) (htb _ kF_X1_21) (fun _ h9 => h9) rfl dX1_nameFault_20 ?_
    refine zb_ci (va_runV (As := [.int nm, .int 6]) (rest := []) ⟨hx, hb, hml, hown, htb⟩ (c_named l D a cA N f ob tr nd nm 6 (by decide)) (cwV 2 htb (wb_V kM_X1_37 kI_X0_named kS_X0_named kN_X0 kD_X0_named) rfl rfl rfl (by decide +kernel) ⟨Nat.le_of_ble_eq_true rfl, Nat.le_of_ble_eq_true rfl⟩) (zp_V 1 rfl rfl hP hK hSt hS hnw) rfl rfl hl.1 rfl (lv_room (Nat.le_of_ble_eq_true rfl)) dX1_nameFault_23 ⟨Nat.le_of_ble_eq_true rfl, Nat.le_of_ble_eq_true rfl⟩) ?_
    cases hme : mp nm 6 with
    | none =>
      refine zb_ti (y := (-1)) (rfl) ?_
      refine lv_iconst (v := (-1)) hx hb dX1_nameFault_26 (by decide) ?_
      refine lv_icmp_eq (tgt := 34) hx hb dX1_nameFault_27 (by decide) (fun _ => ?_) (fun hno => absurd (by decide) hno)
      refine lv_iconst (v := 0) hx hb dX1_nameFault_34 (by decide) ?_
      refine lv_istore_n hx hb dX1_nameFault_35 rfl hl (by decide) rfl (fun ls hl => ?_)
      have hl : lv_has ls 3 [(2, .int 0), (0, .ref (a 3)), (1, .int nm)] := hl
      refine lv_iload_n hx hb dX1_nameFault_36 rfl (lv_at hl 0 rfl) ?_
      refine lv_if_eq (tgt := 44) hx hb dX1_nameFault_37 (by decide) (fun _ => ?_) (fun hno => absurd (by decide) hno)
      refine lv_ldc (v := 100925505) hx hb hown (htb _ kK_X1_45) dX1_nameFault_44 ?_
      rw [hQ]
      exact W.iret (v := 100925505) hx hb hr (fun t ht hW => ⟨congrArg (fun z => Outcome.returned (some (Value.int z))) (by unfold nF; rw [if_pos (show cn = 0 from (nI_eq (by omega) (by decide)).mp hc1), if_neg hc2, if_pos hme]; rfl), ht⟩) (fun q h => nomatch h) dX1_nameFault_46
    | some e9 =>
      refine zb_ti (y := nI e9) (rfl) ?_
      have h22_e9 : e9 < 22 := (fun h => (mp_lt h).1) hme
      refine lv_iconst (v := (-1)) hx hb dX1_nameFault_26 (by decide) ?_
      refine lv_icmp_eq (tgt := 34) hx hb dX1_nameFault_27 (by decide) (fun hno => absurd hno (ni_m1 h22_e9)) (fun _ => ?_)
      refine lv_iconst (v := 1) hx hb dX1_nameFault_30 (by decide) ?_
      refine lv_goto (tgt := 35) hx hb dX1_nameFault_31 (by decide) ?_
      refine lv_istore_n hx hb dX1_nameFault_35 rfl hl (by decide) rfl (fun ls hl => ?_)
      have hl : lv_has ls 3 [(2, .int 1), (0, .ref (a 3)), (1, .int nm)] := hl
      refine lv_iload_n hx hb dX1_nameFault_36 rfl (lv_at hl 0 rfl) ?_
      refine lv_if_eq (tgt := 44) hx hb dX1_nameFault_37 (by decide) (fun hno => absurd hno (by decide)) (fun _ => ?_)
      refine lv_iconst (v := 0) hx hb dX1_nameFault_40 (by decide) ?_
      refine lv_goto (tgt := 46) hx hb dX1_nameFault_41 (by decide) ?_
      rw [hQ]
      exact W.iret (v := 0) hx hb hr (fun t ht hW => ⟨congrArg (fun z => Outcome.returned (some (Value.int z))) (by unfold nF; rw [if_pos (show cn = 0 from (nI_eq (by omega) (by decide)).mp hc1), if_neg hc2, if_neg (by rw [hme]; exact fun h => nomatch h)]; rfl), ht⟩) (fun q h => nomatch h) dX1_nameFault_46
  refine lv_ldc (v := 100728832) hx hb hown (htb _ kK_X1_54) dX1_nameFault_7 ?_
  rw [hQ]
  exact W.iret (v := 100728832) hx hb hr (fun t ht hW => ⟨congrArg (fun z => Outcome.returned (some (Value.int z))) (by unfold nF; rw [if_neg (fun h : cn = 0 => hc1 (by rw [h]; rfl))]; rfl), ht⟩) (fun q h => nomatch h) dX1_nameFault_9
set_option maxHeartbeats 4000000 in
set_option maxRecDepth 100000 in
theorem c_ownsG (l : Launch) (D : va_G) (a : Nat → Nat) (cA : ClassId) (N : Int32) (f : Nat → Int32) (ob : OB) (tr : TR) (nd : ND) (e : Nat) (he : e < 22) : Met l yX1_owns (wX1_owns :: wb) ({ frames := 0, cells := 0, slots := 0, locals := 0 } : Room) (va_Pc [.ref (a 4), .int (nI e)] (zPu D [(cA, .int)] (cw a cA N f ob tr nd))) (zb_I (if nI e < 9 then 0 else if 13 < nI e then 0 else 1)) 0 0 (fun _ => False) := by
  refine Met.ofW (cc := cX1_owns) (maxL := 2) (ret := (some .boolean)) (by decide) rfl ?_
  intro p ev s m args below meth c s₁ B hml hv
  obtain ⟨rfl, hP, hK, hSt, hnw⟩ := hv
  have hx := B.exec
  have hb := B.bytes
  have hr := B.returns
  have hts := atoms_spec (ws := wX1_owns :: wb) B.pre
  have htb : ∀ w ∈ wb, w.before ([.ref (a 4), .int (nI e)]).toArray s = true := fun w h => hts w (List.mem_cons_of_mem _ h)
  have hown : s.vm.findClass RX1 = some m.cls := findClass_of_methodNamed B.named
  have hlocks := B.notSynchronized
  have hS : va_S (fun _ => False) s.heap s.heap [] := va_S.rf
  obtain ⟨⟨tt, ff, hZT, hTT, hZF, hTF⟩, hXS⟩ := id hSt
  have hl := lv_entry ([.ref (a 4), .int (nI e)]) (n := 2) (Nat.le_of_ble_eq_true rfl)
  rw [lg_entry_eq]
  generalize (lg_sl ([.ref (a 4), .int (nI e)]) ++ List.replicate (2 - (lg_sl ([.ref (a 4), .int (nI e)])).length) Slot.unset).toArray = ls at hl ⊢
  have hl : lv_has ls 2 [(0, .ref (a 4)), (1, .int (nI e))] := hl
  refine zb_abs (fun Q hQ => ?_)
  refine lv_iload_n hx hb dX1_owns_0 rfl (lv_at hl 1 rfl) ?_
  refine lv_aload_n hx hb dX1_owns_1 rfl (lv_at hl 0 rfl) ?_
  refine va_get (D := D) (ci := 1) (v := .int 9) (fs := [.ref (a 1), .int 9, .int 5]) (C := RX1) (T := TX1) (N := 3) hx hb htb inX1 hown hK hP 4 rfl rfl 1 (by decide) (htb _ kF_X1_15) (fun _ h9 => h9) rfl dX1_owns_2 ?_
  refine lv_icmp_lt (tgt := 22) hx hb dX1_owns_5 (by decide) (fun hc1 => ?_) (fun hc1 => ?_)
  · refine lv_iconst (v := 0) hx hb dX1_owns_22 (by decide) ?_
    rw [hQ]
    exact W.zret (v := 0) hx hb hr rfl (fun t ht hW => ⟨congrArg (fun z => Outcome.returned (some (Value.int z))) (by simp only [if_pos hc1]), ht⟩) (fun q h => nomatch h) dX1_owns_23
  refine lv_iload_n hx hb dX1_owns_8 rfl (lv_at hl 1 rfl) ?_
  refine lv_aload_n hx hb dX1_owns_9 rfl (lv_at hl 0 rfl) ?_
  refine va_get (D := D) (ci := 1) (v := .int 9) (fs := [.ref (a 1), .int 9, .int 5]) (C := RX1) (T := TX1) (N := 3) hx hb htb inX1 hown hK hP 4 rfl rfl 1 (by decide) (htb _ kF_X1_15) (fun _ h9 => h9) rfl dX1_owns_10 ?_
  refine lv_iconst (v := 4) hx hb dX1_owns_13 (by decide) ?_
  refine lv_iadd hx hb dX1_owns_14 ?_
  refine zb_ti (y := 13) (rfl) ?_
  refine lv_icmp_gt (tgt := 22) hx hb dX1_owns_15 (by decide) (fun hc2 => ?_) (fun hc2 => ?_)
  · refine lv_iconst (v := 0) hx hb dX1_owns_22 (by decide) ?_
    rw [hQ]
    exact W.zret (v := 0) hx hb hr rfl (fun t ht hW => ⟨congrArg (fun z => Outcome.returned (some (Value.int z))) (by simp only [if_neg hc1, if_pos hc2]), ht⟩) (fun q h => nomatch h) dX1_owns_23
  refine lv_iconst (v := 1) hx hb dX1_owns_18 (by decide) ?_
  refine lv_goto (tgt := 23) hx hb dX1_owns_19 (by decide) ?_
  rw [hQ]
  exact W.zret (v := 1) hx hb hr rfl (fun t ht hW => ⟨congrArg (fun z => Outcome.returned (some (Value.int z))) (by simp only [if_neg hc1, if_neg hc2]), ht⟩) (fun q h => nomatch h) dX1_owns_23
set_option maxHeartbeats 4000000 in
set_option maxRecDepth 100000 in
theorem c_isCountG (l : Launch) (D : va_G) (a : Nat → Nat) (cA : ClassId) (N : Int32) (f : Nat → Int32) (ob : OB) (tr : TR) (nd : ND) (e : Nat) (he : e < 22) : Met l yX1_isCount (wX1_isCount :: wb) ({ frames := 0, cells := 0, slots := 0, locals := 0 } : Room) (va_Pc [.ref (a 4), .int (nI e)] (zPu D [(cA, .int)] (cw a cA N f ob tr nd))) (zb_I (if nI e = 9 then 1 else 0)) 0 0 (fun _ => False) := by
  refine Met.ofW (cc := cX1_isCount) (maxL := 2) (ret := (some .boolean)) (by decide) rfl ?_
  intro p ev s m args below meth c s₁ B hml hv
  obtain ⟨rfl, hP, hK, hSt, hnw⟩ := hv
  have hx := B.exec
  have hb := B.bytes
  have hr := B.returns
  have hts := atoms_spec (ws := wX1_isCount :: wb) B.pre
  have htb : ∀ w ∈ wb, w.before ([.ref (a 4), .int (nI e)]).toArray s = true := fun w h => hts w (List.mem_cons_of_mem _ h)
  have hown : s.vm.findClass RX1 = some m.cls := findClass_of_methodNamed B.named
  have hlocks := B.notSynchronized
  have hS : va_S (fun _ => False) s.heap s.heap [] := va_S.rf
  obtain ⟨⟨tt, ff, hZT, hTT, hZF, hTF⟩, hXS⟩ := id hSt
  have hl := lv_entry ([.ref (a 4), .int (nI e)]) (n := 2) (Nat.le_of_ble_eq_true rfl)
  rw [lg_entry_eq]
  generalize (lg_sl ([.ref (a 4), .int (nI e)]) ++ List.replicate (2 - (lg_sl ([.ref (a 4), .int (nI e)])).length) Slot.unset).toArray = ls at hl ⊢
  have hl : lv_has ls 2 [(0, .ref (a 4)), (1, .int (nI e))] := hl
  refine zb_abs (fun Q hQ => ?_)
  refine lv_iload_n hx hb dX1_isCount_0 rfl (lv_at hl 1 rfl) ?_
  refine lv_aload_n hx hb dX1_isCount_1 rfl (lv_at hl 0 rfl) ?_
  refine va_get (D := D) (ci := 1) (v := .int 9) (fs := [.ref (a 1), .int 9, .int 5]) (C := RX1) (T := TX1) (N := 3) hx hb htb inX1 hown hK hP 4 rfl rfl 1 (by decide) (htb _ kF_X1_15) (fun _ h9 => h9) rfl dX1_isCount_2 ?_
  refine lv_icmp_ne (tgt := 12) hx hb dX1_isCount_5 (by decide) (fun hc1 => ?_) (fun hc1 => ?_)
  · refine lv_iconst (v := 0) hx hb dX1_isCount_12 (by decide) ?_
    rw [hQ]
    exact W.zret (v := 0) hx hb hr rfl (fun t ht hW => ⟨congrArg (fun z => Outcome.returned (some (Value.int z))) (by simp only [if_neg hc1]), ht⟩) (fun q h => nomatch h) dX1_isCount_13
  refine lv_iconst (v := 1) hx hb dX1_isCount_8 (by decide) ?_
  refine lv_goto (tgt := 13) hx hb dX1_isCount_9 (by decide) ?_
  rw [hQ]
  exact W.zret (v := 1) hx hb hr rfl (fun t ht hW => ⟨congrArg (fun z => Outcome.returned (some (Value.int z))) (by simp only [if_pos hc1]), ht⟩) (fun q h => nomatch h) dX1_isCount_13
set_option maxHeartbeats 4000000 in
set_option maxRecDepth 100000 in
theorem c_countG (l : Launch) (D : va_G) (a : Nat → Nat) (cA : ClassId) (N : Int32) (f : Nat → Int32) (ob : OB) (tr : TR) (nd : ND) (cn : Nat) (hcn : f (xP 9) = nI cn) (hcn4 : cn ≤ 4) : Met l yX1_count (wX1_count :: wb) ({ frames := 1, cells := 0, slots := 0, locals := 22 } : Room) (va_Pc [.ref (a 4)] (zPu D [(cA, .int)] (cw a cA N f ob tr nd))) (zb_I (nI cn)) 0 0 (fun _ => False) := by
  refine Met.ofW (cc := cX1_count) (maxL := 1) (ret := (some .int)) (by decide) rfl ?_
  intro p ev s m args below meth c s₁ B hml hv
  obtain ⟨rfl, hP, hK, hSt, hnw⟩ := hv
  have hx := B.exec
  have hb := B.bytes
  have hr := B.returns
  have hts := atoms_spec (ws := wX1_count :: wb) B.pre
  have htb : ∀ w ∈ wb, w.before ([.ref (a 4)]).toArray s = true := fun w h => hts w (List.mem_cons_of_mem _ h)
  have hown : s.vm.findClass RX1 = some m.cls := findClass_of_methodNamed B.named
  have hlocks := B.notSynchronized
  have hS : va_S (fun _ => False) s.heap s.heap [] := va_S.rf
  obtain ⟨⟨tt, ff, hZT, hTT, hZF, hTF⟩, hXS⟩ := id hSt
  have hl := lv_entry ([.ref (a 4)]) (n := 1) (Nat.le_of_ble_eq_true rfl)
  rw [lg_entry_eq]
  generalize (lg_sl ([.ref (a 4)]) ++ List.replicate (1 - (lg_sl ([.ref (a 4)])).length) Slot.unset).toArray = ls at hl ⊢
  have hl : lv_has ls 1 [(0, .ref (a 4))] := hl
  refine zb_abs (fun Q hQ => ?_)
  refine lv_iconst (v := 4) hx hb dX1_count_0 (by decide) ?_
  refine lv_aload_n hx hb dX1_count_1 rfl (lv_at hl 0 rfl) ?_
  refine va_get (D := D) (ci := 1) (v := .ref (a 1)) (fs := [.ref (a 1), .int 9, .int 5]) (C := RX1) (T := TX1) (N := 3) hx hb htb inX1 hown hK hP 4 rfl rfl 0 (by decide) (htb _ kF_X1_9) (fun _ h9 => h9) rfl dX1_count_2 ?_
  refine lv_aload_n hx hb dX1_count_5 rfl (lv_at hl 0 rfl) ?_
  refine va_get (D := D) (ci := 1) (v := .int 9) (fs := [.ref (a 1), .int 9, .int 5]) (C := RX1) (T := TX1) (N := 3) hx hb htb inX1 hown hK hP 4 rfl rfl 1 (by decide) (htb _ kF_X1_15) (fun _ h9 => h9) rfl dX1_count_6 ?_
  refine lv_iconst (v := 0) hx hb dX1_count_9 (by decide) ?_
  refine zb_ci (va_runV (As := [.int 9, .int 0]) (rest := [.int 4]) ⟨hx, hb, hml, hown, htb⟩ (c_byteAt l D a cA N f ob tr nd 9 0 (by decide) (by decide)) (cwV 2 htb (wb_V kM_X1_24 kI_X0_byteAt kS_X0_byteAt kN_X0 kD_X0_byteAt) rfl rfl rfl (by decide +kernel) ⟨Nat.le_of_ble_eq_true rfl, Nat.le_of_ble_eq_true rfl⟩) (zp_V 1 rfl rfl hP hK hSt hS hnw) rfl rfl hl.1 rfl (lv_room (Nat.le_of_ble_eq_true rfl)) dX1_count_10 ⟨Nat.le_of_ble_eq_true rfl, Nat.le_of_ble_eq_true rfl⟩) ?_
  refine zb_ti (y := nI cn) (by rw [Nat.add_zero]; exact hcn) ?_
  refine va_mmin hx hb (by rw [hml]; exact hl.1.symm) hown (htb _ kM_X1_28) (htb _ kZ_min) (htb _ kN_Math) (htb _ kD_min) (Nat.le_of_ble_eq_true rfl) (Nat.le_of_ble_eq_true rfl) (Nat.le_of_ble_eq_true rfl) (Nat.le_of_ble_eq_true rfl) dX1_count_13 ?_
  refine zb_ti (y := nI cn) (by show (if nI cn < nI 4 then nI cn else nI 4) = nI cn; rcases Nat.lt_or_ge cn 4 with h9 | h9; exact if_pos (nI_lt h9 (by decide)); rw [if_neg (nI_nlt h9 (by omega))]; rw [show cn = 4 by omega]) ?_
  rw [hQ]
  exact W.iret (v := nI cn) hx hb hr (fun t ht hW => ⟨congrArg (fun z => Outcome.returned (some (Value.int z))) (rfl), ht⟩) (fun q h => nomatch h) dX1_count_16
set_option maxHeartbeats 4000000 in
set_option maxRecDepth 100000 in
theorem c_targetG (l : Launch) (D : va_G) (a : Nat → Nat) (cA : ClassId) (N : Int32) (f : Nat → Int32) (ob : OB) (tr : TR) (nd : ND) (k : Nat) (hB : isB f) (hk1 : 1 ≤ k) (hk4 : k ≤ 4) : Met l yX1_target (wX1_target :: wb) ({ frames := 1, cells := 0, slots := 0, locals := 27 } : Room) (va_Pc [.ref (a 4), .int (nI k)] (zPu D [(cA, .int)] (cw a cA N f ob tr nd))) (zb_I (oI (mE f 9 5 k))) 0 0 (fun _ => False) := by
  refine Met.ofW (cc := cX1_target) (maxL := 2) (ret := (some .int)) (by decide) rfl ?_
  intro p ev s m args below meth c s₁ B hml hv
  obtain ⟨rfl, hP, hK, hSt, hnw⟩ := hv
  have hx := B.exec
  have hb := B.bytes
  have hr := B.returns
  have hts := atoms_spec (ws := wX1_target :: wb) B.pre
  have htb : ∀ w ∈ wb, w.before ([.ref (a 4), .int (nI k)]).toArray s = true := fun w h => hts w (List.mem_cons_of_mem _ h)
  have hown : s.vm.findClass RX1 = some m.cls := findClass_of_methodNamed B.named
  have hlocks := B.notSynchronized
  have hS : va_S (fun _ => False) s.heap s.heap [] := va_S.rf
  obtain ⟨⟨tt, ff, hZT, hTT, hZF, hTF⟩, hXS⟩ := id hSt
  have hl := lv_entry ([.ref (a 4), .int (nI k)]) (n := 2) (Nat.le_of_ble_eq_true rfl)
  rw [lg_entry_eq]
  generalize (lg_sl ([.ref (a 4), .int (nI k)]) ++ List.replicate (2 - (lg_sl ([.ref (a 4), .int (nI k)])).length) Slot.unset).toArray = ls at hl ⊢
  have hl : lv_has ls 2 [(0, .ref (a 4)), (1, .int (nI k))] := hl
  refine zb_abs (fun Q hQ => ?_)
  have hz4 := (by decide : ∀ k, k < 5 → 1 ≤ k → xZ (9 + k) = 4 ∧ 9 + k < 22) k (by omega) hk1
  refine lv_aload_n hx hb dX1_target_0 rfl (lv_at hl 0 rfl) ?_
  refine va_get (D := D) (ci := 1) (v := .ref (a 1)) (fs := [.ref (a 1), .int 9, .int 5]) (C := RX1) (T := TX1) (N := 3) hx hb htb inX1 hown hK hP 4 rfl rfl 0 (by decide) (htb _ kF_X1_9) (fun _ h9 => h9) rfl dX1_target_1 ?_
  refine lv_aload_n hx hb dX1_target_4 rfl (lv_at hl 0 rfl) ?_
  refine va_get (D := D) (ci := 1) (v := .ref (a 1)) (fs := [.ref (a 1), .int 9, .int 5]) (C := RX1) (T := TX1) (N := 3) hx hb htb inX1 hown hK hP 4 rfl rfl 0 (by decide) (htb _ kF_X1_9) (fun _ h9 => h9) rfl dX1_target_5 ?_
  refine lv_aload_n hx hb dX1_target_8 rfl (lv_at hl 0 rfl) ?_
  refine va_get (D := D) (ci := 1) (v := .int 9) (fs := [.ref (a 1), .int 9, .int 5]) (C := RX1) (T := TX1) (N := 3) hx hb htb inX1 hown hK hP 4 rfl rfl 1 (by decide) (htb _ kF_X1_15) (fun _ h9 => h9) rfl dX1_target_9 ?_
  refine lv_iload_n hx hb dX1_target_12 rfl (lv_at hl 1 rfl) ?_
  refine lv_iadd hx hb dX1_target_13 ?_
  refine zb_ti (nI_add 9 k) ?_
  refine lv_iconst (v := 0) hx hb dX1_target_14 (by decide) ?_
  refine lv_iconst (v := 4) hx hb dX1_target_15 (by decide) ?_
  refine zb_cl (va_runV (As := [.int (nI (9 + k)), .int 0, .int 4]) (rest := [.ref (a 1)]) ⟨hx, hb, hml, hown, htb⟩ (c_part l D a cA N f ob tr nd (9 + k) 0 4 hB hz4.2 (by rw [hz4.1]; decide) (by decide)) (cwV 3 htb (wb_V kM_X1_33 kI_X0_part kS_X0_part kN_X0 kD_X0_part) rfl rfl rfl (by decide +kernel) ⟨Nat.le_of_ble_eq_true rfl, Nat.le_of_ble_eq_true rfl⟩) (zp_V 1 rfl rfl hP hK hSt hS hnw) rfl rfl hl.1 rfl (lv_room (Nat.le_of_ble_eq_true rfl)) dX1_target_16 ⟨Nat.le_of_ble_eq_true rfl, Nat.le_of_ble_eq_true rfl⟩) ?_
  refine lv_l2i hx hb dX1_target_19 rfl ?_
  refine zb_ti (y := nI (sm f (xP (9 + k)) 4)) (by rw [Nat.add_zero]; exact lN_i _) ?_
  refine lv_aload_n hx hb dX1_target_20 rfl (lv_at hl 0 rfl) ?_
  refine va_get (D := D) (ci := 1) (v := .int 5) (fs := [.ref (a 1), .int 9, .int 5]) (C := RX1) (T := TX1) (N := 3) hx hb htb inX1 hown hK hP 4 rfl rfl 2 (by decide) (htb _ kF_X1_21) (fun _ h9 => h9) rfl dX1_target_21 ?_
  refine zb_ci (va_runV (As := [.int (nI (sm f (xP (9 + k)) 4)), .int 5]) (rest := []) ⟨hx, hb, hml, hown, htb⟩ (c_named l D a cA N f ob tr nd (nI (sm f (xP (9 + k)) 4)) 5 (by decide)) (cwV 2 htb (wb_V kM_X1_37 kI_X0_named kS_X0_named kN_X0 kD_X0_named) rfl rfl rfl (by decide +kernel) ⟨Nat.le_of_ble_eq_true rfl, Nat.le_of_ble_eq_true rfl⟩) (zp_V 1 rfl rfl hP hK hSt hS hnw) rfl rfl hl.1 rfl (lv_room (Nat.le_of_ble_eq_true rfl)) dX1_target_24 ⟨Nat.le_of_ble_eq_true rfl, Nat.le_of_ble_eq_true rfl⟩) ?_
  rw [hQ]
  exact W.iret (v := oI (mp (nI (sm f (xP (9 + k)) 4)) 5)) hx hb hr (fun t ht hW => ⟨congrArg (fun z => Outcome.returned (some (Value.int z))) (rfl), ht⟩) (fun q h => nomatch h) dX1_target_27
set_option maxHeartbeats 4000000 in
set_option maxRecDepth 100000 in
theorem c_lengthG (l : Launch) (D : va_G) (a : Nat → Nat) (cA : ClassId) (N : Int32) (f : Nat → Int32) (ob : OB) (tr : TR) (nd : ND) (cn : Nat) (hcn : f (xP 9) = nI cn) (hcn4 : cn ≤ 4) (hB : isB f) : Met l yX1_contentLength (wX1_contentLength :: wb) ({ frames := 2, cells := 0, slots := 0, locals := 48 } : Room) (va_Pc [.ref (a 4)] (zPu D [(cA, .int)] (cw a cA N f ob tr nd))) (zb_I (nI (mL f 9 5 cn))) 0 0 (fun _ => False) := by
  refine Met.ofW (cc := cX1_contentLength) (maxL := 5) (ret := (some .int)) (by decide) rfl ?_
  intro p ev s m args below meth c s₁ B hml hv
  obtain ⟨rfl, hP, hK, hSt, hnw⟩ := hv
  have hx := B.exec
  have hb := B.bytes
  have hr := B.returns
  have hts := atoms_spec (ws := wX1_contentLength :: wb) B.pre
  have htb : ∀ w ∈ wb, w.before ([.ref (a 4)]).toArray s = true := fun w h => hts w (List.mem_cons_of_mem _ h)
  have hown : s.vm.findClass RX1 = some m.cls := findClass_of_methodNamed B.named
  have hlocks := B.notSynchronized
  have hS : va_S (fun _ => False) s.heap s.heap [] := va_S.rf
  obtain ⟨⟨tt, ff, hZT, hTT, hZF, hTF⟩, hXS⟩ := id hSt
  have hl := lv_entry ([.ref (a 4)]) (n := 5) (Nat.le_of_ble_eq_true rfl)
  rw [lg_entry_eq]
  generalize (lg_sl ([.ref (a 4)]) ++ List.replicate (5 - (lg_sl ([.ref (a 4)])).length) Slot.unset).toArray = ls at hl ⊢
  have hl : lv_has ls 5 [(0, .ref (a 4))] := hl
  refine zb_abs (fun Q hQ => ?_)
  refine lv_aload_n hx hb dX1_contentLength_0 rfl (lv_at hl 0 rfl) ?_
  refine zb_ci (va_runV (As := []) (rest := []) ⟨hx, hb, hml, hown, htb⟩ (c_countG l D a cA N f ob tr nd cn hcn hcn4) (cwV 0 htb (wb_V kM_X1_50 kI_X1_count kS_X1_count kN_X1 kD_X1_count) rfl rfl rfl (by decide +kernel) ⟨Nat.le_of_ble_eq_true rfl, Nat.le_of_ble_eq_true rfl⟩) (zp_V 4 rfl rfl hP hK hSt hS hnw) rfl rfl hl.1 rfl (lv_room (Nat.le_of_ble_eq_true rfl)) dX1_contentLength_1 ⟨Nat.le_of_ble_eq_true rfl, Nat.le_of_ble_eq_true rfl⟩) ?_
  refine lv_istore_n hx hb dX1_contentLength_4 rfl hl (by decide) rfl (fun ls hl => ?_)
  have hl : lv_has ls 5 [(1, .int (nI cn)), (0, .ref (a 4))] := hl
  refine lv_iconst (v := 0) hx hb dX1_contentLength_5 (by decide) ?_
  refine lv_istore_n hx hb dX1_contentLength_6 rfl hl (by decide) rfl (fun ls hl => ?_)
  have hl : lv_has ls 5 [(2, .int 0), (1, .int (nI cn)), (0, .ref (a 4))] := hl
  refine lv_iconst (v := 1) hx hb dX1_contentLength_7 (by decide) ?_
  refine lv_istore_n hx hb dX1_contentLength_8 rfl hl (by decide) rfl (fun ls hl => ?_)
  have hl : lv_has ls 5 [(3, .int 1), (2, .int 0), (1, .int (nI cn)), (0, .ref (a 4))] := hl
  have lp : ∀ (nn k : Nat) (ls : Array Slot), k + nn = cn → lv_has ls 5 [(0, .ref (a 4)), (1, .int (nI cn)), (2, .int (nI (mL f 9 5 (k)))), (3, .int (nI (k + 1)))] → W p l ev ({ frames := 2, cells := 0, slots := 0, locals := 48 } : Room) s m ([.ref (a 4)]).toArray below meth c s.heap [] 0 0 Q (F0 m 9 ls []) := by
    intro nn
    induction nn with
    | zero =>
      intro k ls hk_lp  hl
      have hk0_lp : k = cn := by omega
      refine lv_iload_n hx hb dX1_contentLength_9 rfl (lv_at hl 3 rfl) ?_
      refine lv_iload_n hx hb dX1_contentLength_10 rfl (lv_at hl 1 rfl) ?_
      refine lv_icmp_gt (tgt := 41) hx hb dX1_contentLength_11 (by decide) (fun _ => ?_) (fun hno => absurd (by rw [hk0_lp]; exact nI_lt (Nat.lt_succ_self _) (by omega)) hno)
      refine lv_iload_n hx hb dX1_contentLength_41 rfl (lv_at hl 2 rfl) ?_
      rw [hQ]
      exact W.iret (v := nI (mL f 9 5 (k))) hx hb hr (fun t ht hW => ⟨congrArg (fun z => Outcome.returned (some (Value.int z))) (by rw [hk0_lp]), ht⟩) (fun q h => nomatch h) dX1_contentLength_42
    | succ nn ih_lp =>
      intro k ls hk_lp  hl
      have hk1_lp : k < cn := by omega
      refine lv_iload_n hx hb dX1_contentLength_9 rfl (lv_at hl 3 rfl) ?_
      refine lv_iload_n hx hb dX1_contentLength_10 rfl (lv_at hl 1 rfl) ?_
      refine lv_icmp_gt (tgt := 41) hx hb dX1_contentLength_11 (by decide) (fun hno => absurd hno (nI_nlt hk1_lp (by omega))) (fun _ => ?_)
      refine lv_aload_n hx hb dX1_contentLength_14 rfl (lv_at hl 0 rfl) ?_
      refine lv_iload_n hx hb dX1_contentLength_15 rfl (lv_at hl 3 rfl) ?_
      refine zb_ci (va_runV (As := [.int (nI (k + 1))]) (rest := []) ⟨hx, hb, hml, hown, htb⟩ (c_targetG l D a cA N f ob tr nd (k + 1) hB (by omega) (by omega)) (cwV 1 htb (wb_V kM_X1_41 kI_X1_target kS_X1_target kN_X1 kD_X1_target) rfl rfl rfl (by decide +kernel) ⟨Nat.le_of_ble_eq_true rfl, Nat.le_of_ble_eq_true rfl⟩) (zp_V 4 rfl rfl hP hK hSt hS hnw) rfl rfl hl.1 rfl (lv_room (Nat.le_of_ble_eq_true rfl)) dX1_contentLength_16 ⟨Nat.le_of_ble_eq_true rfl, Nat.le_of_ble_eq_true rfl⟩) ?_
      cases hme : mE f 9 5 (k + 1) with
      | none =>
        refine zb_ti (y := (-1)) (rfl) ?_
        refine lv_istore hx hb dX1_contentLength_19 hl (by decide) rfl (fun ls hl => ?_)
        have hl : lv_has ls 5 [(4, .int (-1)), (0, .ref (a 4)), (1, .int (nI cn)), (2, .int (nI (mL f 9 5 (k)))), (3, .int (nI (k + 1)))] := hl
        refine lv_iload hx hb dX1_contentLength_21 (lv_at hl 0 rfl) ?_
        refine lv_iconst (v := (-1)) hx hb dX1_contentLength_23 (by decide) ?_
        refine lv_icmp_eq (tgt := 35) hx hb dX1_contentLength_24 (by decide) (fun _ => ?_) (fun hno => absurd (by decide) hno)
        have e1 : nI (mL f 9 5 (k)) = nI (mL f 9 5 (k + 1)) := by rw [mL_n hme]
        rw [e1] at hl
        have hl : lv_has ls 5 [(4, .int (-1)), (0, .ref (a 4)), (1, .int (nI cn)), (2, .int (nI (mL f 9 5 (k + 1)))), (3, .int (nI (k + 1)))] := hl
        refine lv_iinc (k := 4) (v := nI ((k + 1) + 1)) hx hb dX1_contentLength_35 hl rfl (nI_1 (k + 1)) (by decide) rfl (fun ls hl => ?_)
        have hl : lv_has ls 5 [(3, .int (nI ((k + 1) + 1))), (4, .int (-1)), (0, .ref (a 4)), (1, .int (nI cn)), (2, .int (nI (mL f 9 5 (k + 1))))] := hl
        refine lv_goto (tgt := 9) hx hb dX1_contentLength_38 (by decide) ?_
        exact ih_lp (k + 1) ls (by omega) (lv_sub hl [2, 3, 4, 0] rfl)
      | some e9 =>
        refine zb_ti (y := nI e9) (rfl) ?_
        have h22_e9 : e9 < 22 := mE_lt hme
        refine lv_istore hx hb dX1_contentLength_19 hl (by decide) rfl (fun ls hl => ?_)
        have hl : lv_has ls 5 [(4, .int (nI e9)), (0, .ref (a 4)), (1, .int (nI cn)), (2, .int (nI (mL f 9 5 (k)))), (3, .int (nI (k + 1)))] := hl
        refine lv_iload hx hb dX1_contentLength_21 (lv_at hl 0 rfl) ?_
        refine lv_iconst (v := (-1)) hx hb dX1_contentLength_23 (by decide) ?_
        refine lv_icmp_eq (tgt := 35) hx hb dX1_contentLength_24 (by decide) (fun hno => absurd hno (ni_m1 h22_e9)) (fun _ => ?_)
        refine lv_iload_n hx hb dX1_contentLength_27 rfl (lv_at hl 3 rfl) ?_
        refine lv_iload hx hb dX1_contentLength_28 (lv_at hl 0 rfl) ?_
        refine zb_ci (va_runS (As := [.int (nI e9)]) (rest := [.int (nI (mL f 9 5 (k)))]) ⟨hx, hb, hml, hown, htb⟩ (c_sizeOf l D a cA N f ob tr nd e9 h22_e9) (va_cwS 1 htb (wb_S kM_X1_46 kZ_X0_sizeOf kN_X0 kD_X0_sizeOf) rfl rfl rfl (by decide +kernel) ⟨Nat.le_of_ble_eq_true rfl, Nat.le_of_ble_eq_true rfl⟩) (zp_S hP hK hSt hS hnw) rfl rfl hl.1 rfl (lv_room (Nat.le_of_ble_eq_true rfl)) dX1_contentLength_30 ⟨Nat.le_of_ble_eq_true rfl, Nat.le_of_ble_eq_true rfl⟩) ?_
        refine lv_iadd hx hb dX1_contentLength_33 ?_
        refine zb_ti (nI_add (mL f 9 5 (k)) (xZ e9)) ?_
        refine zb_ti (y := nI (mL f 9 5 (k + 1))) (by rw [mL_s hme]) ?_
        refine lv_istore_n hx hb dX1_contentLength_34 rfl hl (by decide) rfl (fun ls hl => ?_)
        have hl : lv_has ls 5 [(2, .int (nI (mL f 9 5 (k + 1)))), (4, .int (nI e9)), (0, .ref (a 4)), (1, .int (nI cn)), (3, .int (nI (k + 1)))] := hl
        refine lv_iinc (k := 4) (v := nI ((k + 1) + 1)) hx hb dX1_contentLength_35 hl rfl (nI_1 (k + 1)) (by decide) rfl (fun ls hl => ?_)
        have hl : lv_has ls 5 [(3, .int (nI ((k + 1) + 1))), (2, .int (nI (mL f 9 5 (k + 1)))), (4, .int (nI e9)), (0, .ref (a 4)), (1, .int (nI cn))] := hl
        refine lv_goto (tgt := 9) hx hb dX1_contentLength_38 (by decide) ?_
        exact ih_lp (k + 1) ls (by omega) (lv_sub hl [3, 4, 1, 0] rfl)
  exact lp (cn - 0) (0) ls (by omega) (lv_sub hl [3, 2, 1, 0] rfl)
set_option maxHeartbeats 4000000 in
set_option maxRecDepth 100000 in
theorem c_contentG (l : Launch) (D : va_G) (a : Nat → Nat) (cA : ClassId) (N : Int32) (f : Nat → Int32) (ob : OB) (tr : TR) (nd : ND) (cn : Nat) (hcn : f (xP 9) = nI cn) (hcn4 : cn ≤ 4) (hB : isB f) (h8 : mL f 9 5 cn ≤ 8) : Met l yX1_content (wX1_content :: wb) ({ frames := 2, cells := 0, slots := 0, locals := 48 } : Room) (va_Pc [.ref (a 4)] (zPu D [(cA, .int)] (cw a cA N f ob tr nd))) (zb_L (lN (mC f 9 5 cn))) 0 0 (fun _ => False) := by
  refine Met.ofW (cc := cX1_content) (maxL := 8) (ret := (some .long)) (by decide) rfl ?_
  intro p ev s m args below meth c s₁ B hml hv
  obtain ⟨rfl, hP, hK, hSt, hnw⟩ := hv
  have hx := B.exec
  have hb := B.bytes
  have hr := B.returns
  have hts := atoms_spec (ws := wX1_content :: wb) B.pre
  have htb : ∀ w ∈ wb, w.before ([.ref (a 4)]).toArray s = true := fun w h => hts w (List.mem_cons_of_mem _ h)
  have hown : s.vm.findClass RX1 = some m.cls := findClass_of_methodNamed B.named
  have hlocks := B.notSynchronized
  have hS : va_S (fun _ => False) s.heap s.heap [] := va_S.rf
  obtain ⟨⟨tt, ff, hZT, hTT, hZF, hTF⟩, hXS⟩ := id hSt
  have hl := lv_entry ([.ref (a 4)]) (n := 8) (Nat.le_of_ble_eq_true rfl)
  rw [lg_entry_eq]
  generalize (lg_sl ([.ref (a 4)]) ++ List.replicate (8 - (lg_sl ([.ref (a 4)])).length) Slot.unset).toArray = ls at hl ⊢
  have hl : lv_has ls 8 [(0, .ref (a 4))] := hl
  refine zb_abs (fun Q hQ => ?_)
  refine lv_aload_n hx hb dX1_content_0 rfl (lv_at hl 0 rfl) ?_
  refine zb_ci (va_runV (As := []) (rest := []) ⟨hx, hb, hml, hown, htb⟩ (c_countG l D a cA N f ob tr nd cn hcn hcn4) (cwV 0 htb (wb_V kM_X1_50 kI_X1_count kS_X1_count kN_X1 kD_X1_count) rfl rfl rfl (by decide +kernel) ⟨Nat.le_of_ble_eq_true rfl, Nat.le_of_ble_eq_true rfl⟩) (zp_V 4 rfl rfl hP hK hSt hS hnw) rfl rfl hl.1 rfl (lv_room (Nat.le_of_ble_eq_true rfl)) dX1_content_1 ⟨Nat.le_of_ble_eq_true rfl, Nat.le_of_ble_eq_true rfl⟩) ?_
  refine lv_istore_n hx hb dX1_content_4 rfl hl (by decide) rfl (fun ls hl => ?_)
  have hl : lv_has ls 8 [(1, .int (nI cn)), (0, .ref (a 4))] := hl
  refine lv_lconst (v := 0) hx hb dX1_content_5 (by decide) ?_
  refine lv_lstore_n hx hb dX1_content_6 rfl hl (by decide) rfl (fun ls hl => ?_)
  have hl : lv_has ls 8 [(2, .long 0), (1, .int (nI cn)), (0, .ref (a 4))] := hl
  refine lv_iconst (v := 0) hx hb dX1_content_7 (by decide) ?_
  refine lv_istore hx hb dX1_content_8 hl (by decide) rfl (fun ls hl => ?_)
  have hl : lv_has ls 8 [(4, .int 0), (2, .long 0), (1, .int (nI cn)), (0, .ref (a 4))] := hl
  refine lv_iconst (v := 1) hx hb dX1_content_10 (by decide) ?_
  refine lv_istore hx hb dX1_content_11 hl (by decide) rfl (fun ls hl => ?_)
  have hl : lv_has ls 8 [(5, .int 1), (4, .int 0), (2, .long 0), (1, .int (nI cn)), (0, .ref (a 4))] := hl
  have lp : ∀ (nn k : Nat) (ls : Array Slot), k + nn = cn → lv_has ls 8 [(0, .ref (a 4)), (1, .int (nI cn)), (2, .long (lN (mC f 9 5 (k)))), (4, .int (nI (mL f 9 5 (k)))), (5, .int (nI (k + 1)))] → W p l ev ({ frames := 2, cells := 0, slots := 0, locals := 48 } : Room) s m ([.ref (a 4)]).toArray below meth c s.heap [] 0 0 Q (F0 m 13 ls []) := by
    intro nn
    induction nn with
    | zero =>
      intro k ls hk_lp  hl
      have hk0_lp : k = cn := by omega
      refine lv_iload hx hb dX1_content_13 (lv_at hl 4 rfl) ?_
      refine lv_iload_n hx hb dX1_content_15 rfl (lv_at hl 1 rfl) ?_
      refine lv_icmp_gt (tgt := 74) hx hb dX1_content_16 (by decide) (fun _ => ?_) (fun hno => absurd (by rw [hk0_lp]; exact nI_lt (Nat.lt_succ_self _) (by omega)) hno)
      refine lv_lload_n hx hb dX1_content_74 rfl (lv_at hl 2 rfl) ?_
      rw [hQ]
      exact W.lret (v := lN (mC f 9 5 (k))) hx hb hr (fun t ht hW => ⟨congrArg (fun z => Outcome.returned (some (Value.long z))) (by rw [hk0_lp]), ht⟩) (fun q h => nomatch h) dX1_content_75
    | succ nn ih_lp =>
      intro k ls hk_lp  hl
      have hk1_lp : k < cn := by omega
      refine lv_iload hx hb dX1_content_13 (lv_at hl 4 rfl) ?_
      refine lv_iload_n hx hb dX1_content_15 rfl (lv_at hl 1 rfl) ?_
      refine lv_icmp_gt (tgt := 74) hx hb dX1_content_16 (by decide) (fun hno => absurd hno (nI_nlt hk1_lp (by omega))) (fun _ => ?_)
      refine lv_aload_n hx hb dX1_content_19 rfl (lv_at hl 0 rfl) ?_
      refine lv_iload hx hb dX1_content_20 (lv_at hl 4 rfl) ?_
      refine zb_ci (va_runV (As := [.int (nI (k + 1))]) (rest := []) ⟨hx, hb, hml, hown, htb⟩ (c_targetG l D a cA N f ob tr nd (k + 1) hB (by omega) (by omega)) (cwV 1 htb (wb_V kM_X1_41 kI_X1_target kS_X1_target kN_X1 kD_X1_target) rfl rfl rfl (by decide +kernel) ⟨Nat.le_of_ble_eq_true rfl, Nat.le_of_ble_eq_true rfl⟩) (zp_V 4 rfl rfl hP hK hSt hS hnw) rfl rfl hl.1 rfl (lv_room (Nat.le_of_ble_eq_true rfl)) dX1_content_22 ⟨Nat.le_of_ble_eq_true rfl, Nat.le_of_ble_eq_true rfl⟩) ?_
      cases hme : mE f 9 5 (k + 1) with
      | none =>
        refine zb_ti (y := (-1)) (rfl) ?_
        refine lv_istore hx hb dX1_content_25 hl (by decide) rfl (fun ls hl => ?_)
        have hl : lv_has ls 8 [(6, .int (-1)), (0, .ref (a 4)), (1, .int (nI cn)), (2, .long (lN (mC f 9 5 (k)))), (4, .int (nI (mL f 9 5 (k)))), (5, .int (nI (k + 1)))] := hl
        refine lv_iload hx hb dX1_content_27 (lv_at hl 0 rfl) ?_
        refine lv_iconst (v := (-1)) hx hb dX1_content_29 (by decide) ?_
        refine lv_icmp_eq (tgt := 68) hx hb dX1_content_30 (by decide) (fun _ => ?_) (fun hno => absurd (by decide) hno)
        have e1 : lN (mC f 9 5 (k)) = lN (mC f 9 5 (k + 1)) := by rw [mC_n hme]
        rw [e1] at hl
        have hl : lv_has ls 8 [(6, .int (-1)), (0, .ref (a 4)), (1, .int (nI cn)), (2, .long (lN (mC f 9 5 (k + 1)))), (4, .int (nI (mL f 9 5 (k)))), (5, .int (nI (k + 1)))] := hl
        have e2 : nI (mL f 9 5 (k)) = nI (mL f 9 5 (k + 1)) := by rw [mL_n hme]
        rw [e2] at hl
        have hl : lv_has ls 8 [(6, .int (-1)), (0, .ref (a 4)), (1, .int (nI cn)), (2, .long (lN (mC f 9 5 (k + 1)))), (4, .int (nI (mL f 9 5 (k + 1)))), (5, .int (nI (k + 1)))] := hl
        refine lv_iinc (k := 5) (v := nI ((k + 1) + 1)) hx hb dX1_content_68 hl rfl (nI_1 (k + 1)) (by decide) rfl (fun ls hl => ?_)
        have hl : lv_has ls 8 [(5, .int (nI ((k + 1) + 1))), (6, .int (-1)), (0, .ref (a 4)), (1, .int (nI cn)), (2, .long (lN (mC f 9 5 (k + 1)))), (4, .int (nI (mL f 9 5 (k + 1))))] := hl
        refine lv_goto (tgt := 13) hx hb dX1_content_71 (by decide) ?_
        exact ih_lp (k + 1) ls (by omega) (lv_sub hl [2, 3, 4, 5, 0] rfl)
      | some e9 =>
        refine zb_ti (y := nI e9) (rfl) ?_
        have h22_e9 : e9 < 22 := mE_lt hme
        refine lv_istore hx hb dX1_content_25 hl (by decide) rfl (fun ls hl => ?_)
        have hl : lv_has ls 8 [(6, .int (nI e9)), (0, .ref (a 4)), (1, .int (nI cn)), (2, .long (lN (mC f 9 5 (k)))), (4, .int (nI (mL f 9 5 (k)))), (5, .int (nI (k + 1)))] := hl
        refine lv_iload hx hb dX1_content_27 (lv_at hl 0 rfl) ?_
        refine lv_iconst (v := (-1)) hx hb dX1_content_29 (by decide) ?_
        refine lv_icmp_eq (tgt := 68) hx hb dX1_content_30 (by decide) (fun hno => absurd hno (ni_m1 h22_e9)) (fun _ => ?_)
        have hft9 := x_fit e9 h22_e9
        have hm9 := mL_mono f 9 5 (show k + 1 ≤ cn by omega)
        have hs9 := mL_s hme
        refine lv_iload hx hb dX1_content_33 (lv_at hl 0 rfl) ?_
        refine zb_ci (va_runS (As := [.int (nI e9)]) (rest := []) ⟨hx, hb, hml, hown, htb⟩ (c_sizeOf l D a cA N f ob tr nd e9 h22_e9) (va_cwS 1 htb (wb_S kM_X1_46 kZ_X0_sizeOf kN_X0 kD_X0_sizeOf) rfl rfl rfl (by decide +kernel) ⟨Nat.le_of_ble_eq_true rfl, Nat.le_of_ble_eq_true rfl⟩) (zp_S hP hK hSt hS hnw) rfl rfl hl.1 rfl (lv_room (Nat.le_of_ble_eq_true rfl)) dX1_content_35 ⟨Nat.le_of_ble_eq_true rfl, Nat.le_of_ble_eq_true rfl⟩) ?_
        refine lv_istore hx hb dX1_content_38 hl (by decide) rfl (fun ls hl => ?_)
        have hl : lv_has ls 8 [(7, .int (nI (xZ e9))), (6, .int (nI e9)), (0, .ref (a 4)), (1, .int (nI cn)), (2, .long (lN (mC f 9 5 (k)))), (4, .int (nI (mL f 9 5 (k)))), (5, .int (nI (k + 1)))] := hl
        refine lv_lload_n hx hb dX1_content_40 rfl (lv_at hl 4 rfl) ?_
        refine lv_aload_n hx hb dX1_content_41 rfl (lv_at hl 2 rfl) ?_
        refine va_get (D := D) (ci := 1) (v := .ref (a 1)) (fs := [.ref (a 1), .int 9, .int 5]) (C := RX1) (T := TX1) (N := 3) hx hb htb inX1 hown hK hP 4 rfl rfl 0 (by decide) (htb _ kF_X1_9) (fun _ h9 => h9) rfl dX1_content_42 ?_
        refine lv_iload hx hb dX1_content_45 (lv_at hl 1 rfl) ?_
        refine lv_iconst (v := 0) hx hb dX1_content_47 (by decide) ?_
        refine lv_iload hx hb dX1_content_48 (lv_at hl 0 rfl) ?_
        refine zb_cl (va_runV (As := [.int (nI e9), .int 0, .int (nI (xZ e9))]) (rest := [.long (lN (mC f 9 5 (k)))]) ⟨hx, hb, hml, hown, htb⟩ (c_part l D a cA N f ob tr nd e9 0 (xZ e9) hB h22_e9 (by omega) (mE_z (by decide) (by decide) hme)) (cwV 3 htb (wb_V kM_X1_33 kI_X0_part kS_X0_part kN_X0 kD_X0_part) rfl rfl rfl (by decide +kernel) ⟨Nat.le_of_ble_eq_true rfl, Nat.le_of_ble_eq_true rfl⟩) (zp_V 1 rfl rfl hP hK hSt hS hnw) rfl rfl hl.1 rfl (lv_room (Nat.le_of_ble_eq_true rfl)) dX1_content_50 ⟨Nat.le_of_ble_eq_true rfl, Nat.le_of_ble_eq_true rfl⟩) ?_
        refine zb_tl (y := lN (sm f (xP e9) (xZ e9))) (by rw [Nat.add_zero]) ?_
        refine lv_bipush (v := 8) hx hb dX1_content_53 (by decide) ?_
        refine lv_iload hx hb dX1_content_55 (lv_at hl 5 rfl) ?_
        refine lv_imul hx hb dX1_content_57 ?_
        refine zb_ti (pk_mul 8 (mL f 9 5 (k))) ?_
        refine lv_lshl hx hb dX1_content_58 rfl ?_
        refine lv_lor hx hb dX1_content_59 ?_
        refine zb_tl (y := lN (mC f 9 5 (k + 1))) (mC_or hB hme (by omega) (by omega)) ?_
        refine lv_lstore_n hx hb dX1_content_60 rfl hl (by decide) rfl (fun ls hl => ?_)
        have hl : lv_has ls 8 [(2, .long (lN (mC f 9 5 (k + 1)))), (7, .int (nI (xZ e9))), (6, .int (nI e9)), (0, .ref (a 4)), (1, .int (nI cn)), (4, .int (nI (mL f 9 5 (k)))), (5, .int (nI (k + 1)))] := hl
        refine lv_iload hx hb dX1_content_61 (lv_at hl 5 rfl) ?_
        refine lv_iload hx hb dX1_content_63 (lv_at hl 1 rfl) ?_
        refine lv_iadd hx hb dX1_content_65 ?_
        refine zb_ti (nI_add (mL f 9 5 (k)) (xZ e9)) ?_
        refine zb_ti (y := nI (mL f 9 5 (k + 1))) (by rw [hs9]) ?_
        refine lv_istore hx hb dX1_content_66 hl (by decide) rfl (fun ls hl => ?_)
        have hl : lv_has ls 8 [(4, .int (nI (mL f 9 5 (k + 1)))), (2, .long (lN (mC f 9 5 (k + 1)))), (7, .int (nI (xZ e9))), (6, .int (nI e9)), (0, .ref (a 4)), (1, .int (nI cn)), (5, .int (nI (k + 1)))] := hl
        refine lv_iinc (k := 6) (v := nI ((k + 1) + 1)) hx hb dX1_content_68 hl rfl (nI_1 (k + 1)) (by decide) rfl (fun ls hl => ?_)
        have hl : lv_has ls 8 [(5, .int (nI ((k + 1) + 1))), (4, .int (nI (mL f 9 5 (k + 1)))), (2, .long (lN (mC f 9 5 (k + 1)))), (7, .int (nI (xZ e9))), (6, .int (nI e9)), (0, .ref (a 4)), (1, .int (nI cn))] := hl
        refine lv_goto (tgt := 13) hx hb dX1_content_71 (by decide) ?_
        exact ih_lp (k + 1) ls (by omega) (lv_sub hl [5, 6, 2, 1, 0] rfl)
  exact lp (cn - 0) (0) ls (by omega) (lv_sub hl [4, 3, 2, 1, 0] rfl)
set_option maxHeartbeats 4000000 in
set_option maxRecDepth 100000 in
theorem c_countFaultG (l : Launch) (D : va_G) (a : Nat → Nat) (cA : ClassId) (N : Int32) (f : Nat → Int32) (ob : OB) (tr : TR) (nd : ND) (v : Nat) (hv31 : v < 256) (hB : isB f) : Met l yX1_countFault (wX1_countFault :: wb) ({ frames := 2, cells := 0, slots := 0, locals := 48 } : Room) (va_Pc [.ref (a 4), .int (nI v)] (zPu D [(cA, .int)] (cw a cA N f ob tr nd))) (zb_I (nI (cF f 9 5 v))) 0 0 (fun _ => False) := by
  refine Met.ofW (cc := cX1_countFault) (maxL := 5) (ret := (some .int)) (by decide) rfl ?_
  intro p ev s m args below meth c s₁ B hml hv
  obtain ⟨rfl, hP, hK, hSt, hnw⟩ := hv
  have hx := B.exec
  have hb := B.bytes
  have hr := B.returns
  have hts := atoms_spec (ws := wX1_countFault :: wb) B.pre
  have htb : ∀ w ∈ wb, w.before ([.ref (a 4), .int (nI v)]).toArray s = true := fun w h => hts w (List.mem_cons_of_mem _ h)
  have hown : s.vm.findClass RX1 = some m.cls := findClass_of_methodNamed B.named
  have hlocks := B.notSynchronized
  have hS : va_S (fun _ => False) s.heap s.heap [] := va_S.rf
  obtain ⟨⟨tt, ff, hZT, hTT, hZF, hTF⟩, hXS⟩ := id hSt
  have hl := lv_entry ([.ref (a 4), .int (nI v)]) (n := 5) (Nat.le_of_ble_eq_true rfl)
  rw [lg_entry_eq]
  generalize (lg_sl ([.ref (a 4), .int (nI v)]) ++ List.replicate (5 - (lg_sl ([.ref (a 4), .int (nI v)])).length) Slot.unset).toArray = ls at hl ⊢
  have hl : lv_has ls 5 [(0, .ref (a 4)), (1, .int (nI v))] := hl
  refine zb_abs (fun Q hQ => ?_)
  refine lv_iload_n hx hb dX1_countFault_0 rfl (lv_at hl 1 rfl) ?_
  refine lv_iconst (v := 4) hx hb dX1_countFault_1 (by decide) ?_
  refine lv_icmp_le (tgt := 8) hx hb dX1_countFault_2 (by decide) (fun hc1 => ?_) (fun hc1 => ?_)
  · have hv4 : v ≤ 4 := (nI_leI (by omega) (by decide)).mp hc1
    refine lv_iconst (v := 0) hx hb dX1_countFault_8 (by decide) ?_
    refine lv_istore_n hx hb dX1_countFault_9 rfl hl (by decide) rfl (fun ls hl => ?_)
    have hl : lv_has ls 5 [(2, .int 0), (0, .ref (a 4)), (1, .int (nI v))] := hl
    refine lv_iconst (v := 1) hx hb dX1_countFault_10 (by decide) ?_
    refine lv_istore_n hx hb dX1_countFault_11 rfl hl (by decide) rfl (fun ls hl => ?_)
    have hl : lv_has ls 5 [(3, .int 1), (2, .int 0), (0, .ref (a 4)), (1, .int (nI v))] := hl
    have lp : ∀ (nn k : Nat) (ls : Array Slot), k + nn = v → (mOk f 9 5 k = true) → lv_has ls 5 [(0, .ref (a 4)), (1, .int (nI v)), (2, .int (nI (mL f 9 5 (k)))), (3, .int (nI (k + 1)))] → W p l ev ({ frames := 2, cells := 0, slots := 0, locals := 48 } : Room) s m ([.ref (a 4), .int (nI v)]).toArray below meth c s.heap [] 0 0 Q (F0 m 12 ls []) := by
      intro nn
      induction nn with
      | zero =>
        intro k ls hk_lp hok hl
        have hk0_lp : k = v := by omega
        refine lv_iload_n hx hb dX1_countFault_12 rfl (lv_at hl 3 rfl) ?_
        refine lv_iload_n hx hb dX1_countFault_13 rfl (lv_at hl 1 rfl) ?_
        refine lv_icmp_gt (tgt := 47) hx hb dX1_countFault_14 (by decide) (fun _ => ?_) (fun hno => absurd (by rw [hk0_lp]; exact nI_lt (Nat.lt_succ_self _) (by omega)) hno)
        have hm31 : mL f 9 5 k < 2 ^ 31 := mL_31 f 9 5 k (by omega)
        refine lv_iload_n hx hb dX1_countFault_47 rfl (lv_at hl 2 rfl) ?_
        refine lv_bipush (v := 8) hx hb dX1_countFault_48 (by decide) ?_
        refine lv_icmp_le (tgt := 58) hx hb dX1_countFault_50 (by decide) (fun hc2 => ?_) (fun hc2 => ?_)
        · refine lv_iconst (v := 0) hx hb dX1_countFault_58 (by decide) ?_
          rw [hQ]
          exact W.iret (v := 0) hx hb hr (fun t ht hW => ⟨congrArg (fun z => Outcome.returned (some (Value.int z))) (by unfold cF; rw [if_neg (show ¬ 4 < v by omega), if_pos (by rw [← hk0_lp]; exact hok), if_neg (by rw [← hk0_lp]; have h9 : mL f 9 5 k ≤ 8 := (nI_leI (b := 8) (by omega) (by decide)).mp hc2; omega)]; rfl), ht⟩) (fun q h => nomatch h) dX1_countFault_59
        refine lv_ldc (v := 100925506) hx hb hown (htb _ kK_X1_49) dX1_countFault_53 ?_
        refine lv_goto (tgt := 59) hx hb dX1_countFault_55 (by decide) ?_
        rw [hQ]
        exact W.iret (v := 100925506) hx hb hr (fun t ht hW => ⟨congrArg (fun z => Outcome.returned (some (Value.int z))) (by unfold cF; rw [if_neg (show ¬ 4 < v by omega), if_pos (by rw [← hk0_lp]; exact hok), if_pos (by rw [← hk0_lp]; have h9 : ¬ mL f 9 5 k ≤ 8 := fun h => hc2 (nI_le h (by decide)); omega)]; rfl), ht⟩) (fun q h => nomatch h) dX1_countFault_59
      | succ nn ih_lp =>
        intro k ls hk_lp hok hl
        have hk1_lp : k < v := by omega
        refine lv_iload_n hx hb dX1_countFault_12 rfl (lv_at hl 3 rfl) ?_
        refine lv_iload_n hx hb dX1_countFault_13 rfl (lv_at hl 1 rfl) ?_
        refine lv_icmp_gt (tgt := 47) hx hb dX1_countFault_14 (by decide) (fun hno => absurd hno (nI_nlt hk1_lp (by omega))) (fun _ => ?_)
        refine lv_aload_n hx hb dX1_countFault_17 rfl (lv_at hl 0 rfl) ?_
        refine lv_iload_n hx hb dX1_countFault_18 rfl (lv_at hl 3 rfl) ?_
        refine zb_ci (va_runV (As := [.int (nI (k + 1))]) (rest := []) ⟨hx, hb, hml, hown, htb⟩ (c_targetG l D a cA N f ob tr nd (k + 1) hB (by omega) (by omega)) (cwV 1 htb (wb_V kM_X1_41 kI_X1_target kS_X1_target kN_X1 kD_X1_target) rfl rfl rfl (by decide +kernel) ⟨Nat.le_of_ble_eq_true rfl, Nat.le_of_ble_eq_true rfl⟩) (zp_V 4 rfl rfl hP hK hSt hS hnw) rfl rfl hl.1 rfl (lv_room (Nat.le_of_ble_eq_true rfl)) dX1_countFault_19 ⟨Nat.le_of_ble_eq_true rfl, Nat.le_of_ble_eq_true rfl⟩) ?_
        cases hme : mE f 9 5 (k + 1) with
        | none =>
          refine zb_ti (y := (-1)) (rfl) ?_
          refine lv_istore hx hb dX1_countFault_22 hl (by decide) rfl (fun ls hl => ?_)
          have hl : lv_has ls 5 [(4, .int (-1)), (0, .ref (a 4)), (1, .int (nI v)), (2, .int (nI (mL f 9 5 (k)))), (3, .int (nI (k + 1)))] := hl
          refine lv_iload hx hb dX1_countFault_24 (lv_at hl 0 rfl) ?_
          refine lv_iconst (v := (-1)) hx hb dX1_countFault_26 (by decide) ?_
          refine lv_icmp_ne (tgt := 33) hx hb dX1_countFault_27 (by decide) (fun hno => absurd (by decide) hno) (fun _ => ?_)
          refine lv_ldc (v := 100925505) hx hb hown (htb _ kK_X1_45) dX1_countFault_30 ?_
          rw [hQ]
          exact W.iret (v := 100925505) hx hb hr (fun t ht hW => ⟨congrArg (fun z => Outcome.returned (some (Value.int z))) (by unfold cF; rw [if_neg (show ¬ 4 < v by omega), if_neg (by rw [mOk_n hme hk1_lp]; decide)]; rfl), ht⟩) (fun q h => nomatch h) dX1_countFault_32
        | some e9 =>
          refine zb_ti (y := nI e9) (rfl) ?_
          have h22_e9 : e9 < 22 := mE_lt hme
          refine lv_istore hx hb dX1_countFault_22 hl (by decide) rfl (fun ls hl => ?_)
          have hl : lv_has ls 5 [(4, .int (nI e9)), (0, .ref (a 4)), (1, .int (nI v)), (2, .int (nI (mL f 9 5 (k)))), (3, .int (nI (k + 1)))] := hl
          refine lv_iload hx hb dX1_countFault_24 (lv_at hl 0 rfl) ?_
          refine lv_iconst (v := (-1)) hx hb dX1_countFault_26 (by decide) ?_
          refine lv_icmp_ne (tgt := 33) hx hb dX1_countFault_27 (by decide) (fun _ => ?_) (fun hno => absurd hno (ni_m1 h22_e9))
          refine lv_iload_n hx hb dX1_countFault_33 rfl (lv_at hl 3 rfl) ?_
          refine lv_iload hx hb dX1_countFault_34 (lv_at hl 0 rfl) ?_
          refine zb_ci (va_runS (As := [.int (nI e9)]) (rest := [.int (nI (mL f 9 5 (k)))]) ⟨hx, hb, hml, hown, htb⟩ (c_sizeOf l D a cA N f ob tr nd e9 h22_e9) (va_cwS 1 htb (wb_S kM_X1_46 kZ_X0_sizeOf kN_X0 kD_X0_sizeOf) rfl rfl rfl (by decide +kernel) ⟨Nat.le_of_ble_eq_true rfl, Nat.le_of_ble_eq_true rfl⟩) (zp_S hP hK hSt hS hnw) rfl rfl hl.1 rfl (lv_room (Nat.le_of_ble_eq_true rfl)) dX1_countFault_36 ⟨Nat.le_of_ble_eq_true rfl, Nat.le_of_ble_eq_true rfl⟩) ?_
          refine lv_iadd hx hb dX1_countFault_39 ?_
          refine zb_ti (nI_add (mL f 9 5 (k)) (xZ e9)) ?_
          refine zb_ti (y := nI (mL f 9 5 (k + 1))) (by rw [mL_s hme]) ?_
          refine lv_istore_n hx hb dX1_countFault_40 rfl hl (by decide) rfl (fun ls hl => ?_)
          have hl : lv_has ls 5 [(2, .int (nI (mL f 9 5 (k + 1)))), (4, .int (nI e9)), (0, .ref (a 4)), (1, .int (nI v)), (3, .int (nI (k + 1)))] := hl
          refine lv_iinc (k := 4) (v := nI ((k + 1) + 1)) hx hb dX1_countFault_41 hl rfl (nI_1 (k + 1)) (by decide) rfl (fun ls hl => ?_)
          have hl : lv_has ls 5 [(3, .int (nI ((k + 1) + 1))), (2, .int (nI (mL f 9 5 (k + 1)))), (4, .int (nI e9)), (0, .ref (a 4)), (1, .int (nI v))] := hl
          refine lv_goto (tgt := 12) hx hb dX1_countFault_44 (by decide) ?_
          exact ih_lp (k + 1) ls (by omega) (mOk_s hok hme) (lv_sub hl [3, 4, 1, 0] rfl)
    exact lp (v - 0) (0) ls (by omega) (rfl) (lv_sub hl [2, 3, 1, 0] rfl)
  refine lv_ldc (v := 101253168) hx hb hown (htb _ kK_X1_40) dX1_countFault_5 ?_
  rw [hQ]
  exact W.iret (v := 101253168) hx hb hr (fun t ht hW => ⟨congrArg (fun z => Outcome.returned (some (Value.int z))) (by unfold cF; rw [if_pos (show 4 < v by have h9 : ¬ v ≤ 4 := fun h => hc1 (nI_le h (by decide)); omega)]; rfl), ht⟩) (fun q h => nomatch h) dX1_countFault_7
set_option maxHeartbeats 4000000 in
set_option maxRecDepth 100000 in
theorem c_nameFaultG (l : Launch) (D : va_G) (a : Nat → Nat) (cA : ClassId) (N : Int32) (f : Nat → Int32) (ob : OB) (tr : TR) (nd : ND) (cn : Nat) (nm : Int32) (hcn : f (xP 9) = nI cn) (hcn4 : cn ≤ 4) : Met l yX1_nameFault (wX1_nameFault :: wb) ({ frames := 2, cells := 0, slots := 0, locals := 42 } : Room) (va_Pc [.ref (a 4), .int nm] (zPu D [(cA, .int)] (cw a cA N f ob tr nd))) (zb_I (nI (nF cn 5 nm))) 0 0 (fun _ => False) := by
  refine Met.ofW (cc := cX1_nameFault) (maxL := 3) (ret := (some .int)) (by decide) rfl ?_
  intro p ev s m args below meth c s₁ B hml hv
  obtain ⟨rfl, hP, hK, hSt, hnw⟩ := hv
  have hx := B.exec
  have hb := B.bytes
  have hr := B.returns
  have hts := atoms_spec (ws := wX1_nameFault :: wb) B.pre
  have htb : ∀ w ∈ wb, w.before ([.ref (a 4), .int nm]).toArray s = true := fun w h => hts w (List.mem_cons_of_mem _ h)
  have hown : s.vm.findClass RX1 = some m.cls := findClass_of_methodNamed B.named
  have hlocks := B.notSynchronized
  have hS : va_S (fun _ => False) s.heap s.heap [] := va_S.rf
  obtain ⟨⟨tt, ff, hZT, hTT, hZF, hTF⟩, hXS⟩ := id hSt
  have hl := lv_entry ([.ref (a 4), .int nm]) (n := 3) (Nat.le_of_ble_eq_true rfl)
  rw [lg_entry_eq]
  generalize (lg_sl ([.ref (a 4), .int nm]) ++ List.replicate (3 - (lg_sl ([.ref (a 4), .int nm])).length) Slot.unset).toArray = ls at hl ⊢
  have hl : lv_has ls 3 [(0, .ref (a 4)), (1, .int nm)] := hl
  refine zb_abs (fun Q hQ => ?_)
  refine lv_aload_n hx hb dX1_nameFault_0 rfl (lv_at hl 0 rfl) ?_
  refine zb_ci (va_runV (As := []) (rest := []) ⟨hx, hb, hml, hown, htb⟩ (c_countG l D a cA N f ob tr nd cn hcn hcn4) (cwV 0 htb (wb_V kM_X1_50 kI_X1_count kS_X1_count kN_X1 kD_X1_count) rfl rfl rfl (by decide +kernel) ⟨Nat.le_of_ble_eq_true rfl, Nat.le_of_ble_eq_true rfl⟩) (zp_V 4 rfl rfl hP hK hSt hS hnw) rfl rfl hl.1 rfl (lv_room (Nat.le_of_ble_eq_true rfl)) dX1_nameFault_1 ⟨Nat.le_of_ble_eq_true rfl, Nat.le_of_ble_eq_true rfl⟩) ?_
  refine lv_if_eq (tgt := 10) hx hb dX1_nameFault_4 (by decide) (fun hc1 => ?_) (fun hc1 => ?_)
  · refine lv_iload_n hx hb dX1_nameFault_10 rfl (lv_at hl 1 rfl) ?_
    refine lv_if_eq (tgt := 30) hx hb dX1_nameFault_11 (by decide) (fun hc2 => ?_) (fun hc2 => ?_)
    · refine lv_iconst (v := 1) hx hb dX1_nameFault_30 (by decide) ?_
      refine lv_goto (tgt := 35) hx hb dX1_nameFault_31 (by decide) ?_
      refine lv_istore_n hx hb dX1_nameFault_35 rfl hl (by decide) rfl (fun ls hl => ?_)
      have hl : lv_has ls 3 [(2, .int 1), (0, .ref (a 4)), (1, .int nm)] := hl
      refine lv_iload_n hx hb dX1_nameFault_36 rfl (lv_at hl 0 rfl) ?_
      refine lv_if_eq (tgt := 44) hx hb dX1_nameFault_37 (by decide) (fun hno => absurd hno (by decide)) (fun _ => ?_)
      refine lv_iconst (v := 0) hx hb dX1_nameFault_40 (by decide) ?_
      refine lv_goto (tgt := 46) hx hb dX1_nameFault_41 (by decide) ?_
      rw [hQ]
      exact W.iret (v := 0) hx hb hr (fun t ht hW => ⟨congrArg (fun z => Outcome.returned (some (Value.int z))) (by unfold nF; rw [if_pos (show cn = 0 from (nI_eq (by omega) (by decide)).mp hc1), if_pos hc2]; rfl), ht⟩) (fun q h => nomatch h) dX1_nameFault_46
    refine lv_aload_n hx hb dX1_nameFault_14 rfl (lv_at hl 0 rfl) ?_
    refine va_get (D := D) (ci := 1) (v := .ref (a 1)) (fs := [.ref (a 1), .int 9, .int 5]) (C := RX1) (T := TX1) (N := 3) hx hb htb inX1 hown hK hP 4 rfl rfl 0 (by decide) (htb _ kF_X1_9) (fun _ h9 => h9) rfl dX1_nameFault_15 ?_
    refine lv_iload_n hx hb dX1_nameFault_18 rfl (lv_at hl 1 rfl) ?_
    refine lv_aload_n hx hb dX1_nameFault_19 rfl (lv_at hl 0 rfl) ?_
    refine va_get (D := D) (ci := 1) (v := .int 5) (fs := [.ref (a 1), .int 9, .int 5]) (C := RX1) (T := TX1) (N := 3) hx hb htb inX1 hown hK hP 4 rfl rfl 2 (by decide) (htb _ kF_X1_21) (fun _ h9 => h9) rfl dX1_nameFault_20 ?_
    refine zb_ci (va_runV (As := [.int nm, .int 5]) (rest := []) ⟨hx, hb, hml, hown, htb⟩ (c_named l D a cA N f ob tr nd nm 5 (by decide)) (cwV 2 htb (wb_V kM_X1_37 kI_X0_named kS_X0_named kN_X0 kD_X0_named) rfl rfl rfl (by decide +kernel) ⟨Nat.le_of_ble_eq_true rfl, Nat.le_of_ble_eq_true rfl⟩) (zp_V 1 rfl rfl hP hK hSt hS hnw) rfl rfl hl.1 rfl (lv_room (Nat.le_of_ble_eq_true rfl)) dX1_nameFault_23 ⟨Nat.le_of_ble_eq_true rfl, Nat.le_of_ble_eq_true rfl⟩) ?_
    cases hme : mp nm 5 with
    | none =>
      refine zb_ti (y := (-1)) (rfl) ?_
      refine lv_iconst (v := (-1)) hx hb dX1_nameFault_26 (by decide) ?_
      refine lv_icmp_eq (tgt := 34) hx hb dX1_nameFault_27 (by decide) (fun _ => ?_) (fun hno => absurd (by decide) hno)
      refine lv_iconst (v := 0) hx hb dX1_nameFault_34 (by decide) ?_
      refine lv_istore_n hx hb dX1_nameFault_35 rfl hl (by decide) rfl (fun ls hl => ?_)
      have hl : lv_has ls 3 [(2, .int 0), (0, .ref (a 4)), (1, .int nm)] := hl
      refine lv_iload_n hx hb dX1_nameFault_36 rfl (lv_at hl 0 rfl) ?_
      refine lv_if_eq (tgt := 44) hx hb dX1_nameFault_37 (by decide) (fun _ => ?_) (fun hno => absurd (by decide) hno)
      refine lv_ldc (v := 100925505) hx hb hown (htb _ kK_X1_45) dX1_nameFault_44 ?_
      rw [hQ]
      exact W.iret (v := 100925505) hx hb hr (fun t ht hW => ⟨congrArg (fun z => Outcome.returned (some (Value.int z))) (by unfold nF; rw [if_pos (show cn = 0 from (nI_eq (by omega) (by decide)).mp hc1), if_neg hc2, if_pos hme]; rfl), ht⟩) (fun q h => nomatch h) dX1_nameFault_46
    | some e9 =>
      refine zb_ti (y := nI e9) (rfl) ?_
      have h22_e9 : e9 < 22 := (fun h => (mp_lt h).1) hme
      refine lv_iconst (v := (-1)) hx hb dX1_nameFault_26 (by decide) ?_
      refine lv_icmp_eq (tgt := 34) hx hb dX1_nameFault_27 (by decide) (fun hno => absurd hno (ni_m1 h22_e9)) (fun _ => ?_)
      refine lv_iconst (v := 1) hx hb dX1_nameFault_30 (by decide) ?_
      refine lv_goto (tgt := 35) hx hb dX1_nameFault_31 (by decide) ?_
      refine lv_istore_n hx hb dX1_nameFault_35 rfl hl (by decide) rfl (fun ls hl => ?_)
      have hl : lv_has ls 3 [(2, .int 1), (0, .ref (a 4)), (1, .int nm)] := hl
      refine lv_iload_n hx hb dX1_nameFault_36 rfl (lv_at hl 0 rfl) ?_
      refine lv_if_eq (tgt := 44) hx hb dX1_nameFault_37 (by decide) (fun hno => absurd hno (by decide)) (fun _ => ?_)
      refine lv_iconst (v := 0) hx hb dX1_nameFault_40 (by decide) ?_
      refine lv_goto (tgt := 46) hx hb dX1_nameFault_41 (by decide) ?_
      rw [hQ]
      exact W.iret (v := 0) hx hb hr (fun t ht hW => ⟨congrArg (fun z => Outcome.returned (some (Value.int z))) (by unfold nF; rw [if_pos (show cn = 0 from (nI_eq (by omega) (by decide)).mp hc1), if_neg hc2, if_neg (by rw [hme]; exact fun h => nomatch h)]; rfl), ht⟩) (fun q h => nomatch h) dX1_nameFault_46
  refine lv_ldc (v := 100728832) hx hb hown (htb _ kK_X1_54) dX1_nameFault_7 ?_
  rw [hQ]
  exact W.iret (v := 100728832) hx hb hr (fun t ht hW => ⟨congrArg (fun z => Outcome.returned (some (Value.int z))) (by unfold nF; rw [if_neg (fun h : cn = 0 => hc1 (by rw [h]; rfl))]; rfl), ht⟩) (fun q h => nomatch h) dX1_nameFault_9
set_option maxHeartbeats 4000000 in
set_option maxRecDepth 100000 in
theorem c_spread (l : Launch) (D : va_G) (a : Nat → Nat) (cA : ClassId) (N : Int32) (f : Nat → Int32) (ob : OB) (tr : TR) (nd : ND) (sz : Nat) (cn x : Nat) (hcn : f (xP 3) = nI cn) (hcn4 : cn ≤ 4) (hB : isB f) (h8 : (mW 3 6 x f cn).2 ≤ 8) (hx64 : x < 2 ^ 64) : Met l yX1_spread (wX1_spread :: wb) ({ frames := 2, cells := 0, slots := 0, locals := 48 } : Room) (va_Pc [.ref (a 3), .long (lN x)] (zPre D [(cA, .int)] (cw a cA N f ob tr nd) sz)) (zb_Vv D vwCl (cw a cA N (mW 3 6 x f cn).1 ob tr nd) (va_A (cw a cA N f ob tr nd) sz)) 0 0 (va_A (cw a cA N f ob tr nd) sz) := by
  refine Met.ofW (cc := cX1_spread) (maxL := 7) (ret := none) (by decide) rfl ?_
  intro p ev s m args below meth c s₁ B hml hv
  obtain ⟨rfl, hsz, hP, hK, hD0, hSt, hnw⟩ := hv
  have hx := B.exec
  have hb := B.bytes
  have hr := B.returns
  have hts := atoms_spec (ws := wX1_spread :: wb) B.pre
  have htb : ∀ w ∈ wb, w.before ([.ref (a 3), .long (lN x)]).toArray s = true := fun w h => hts w (List.mem_cons_of_mem _ h)
  have hown : s.vm.findClass RX1 = some m.cls := findClass_of_methodNamed B.named
  have hlocks := B.notSynchronized
  subst hsz
  have hD := hD0.self (sz := s.heap.size)
  clear hD0
  generalize hAe : va_A (cw a cA N f ob tr nd) s.heap.size = A at hD hSt ⊢
  have hA : ∀ q : Nat, s.heap.size ≤ q → A q := fun q h => by rw [← hAe]; exact Or.inr h
  have hS : va_S A s.heap s.heap [] := va_S.rf
  obtain ⟨⟨tt, ff, hZT, hTT, hZF, hTF⟩, hXS⟩ := id hSt
  have hl := lv_entry ([.ref (a 3), .long (lN x)]) (n := 7) (Nat.le_of_ble_eq_true rfl)
  rw [lg_entry_eq]
  generalize (lg_sl ([.ref (a 3), .long (lN x)]) ++ List.replicate (7 - (lg_sl ([.ref (a 3), .long (lN x)])).length) Slot.unset).toArray = ls at hl ⊢
  have hl : lv_has ls 7 [(0, .ref (a 3)), (1, .long (lN x))] := hl
  refine zb_abs (fun Q hQ => ?_)
  refine lv_aload_n hx hb dX1_spread_0 rfl (lv_at hl 0 rfl) ?_
  refine zb_ci (va_runV (As := []) (rest := []) ⟨hx, hb, hml, hown, htb⟩ (c_countT l D a cA N f ob tr nd cn hcn hcn4) (cwV 0 htb (wb_V kM_X1_50 kI_X1_count kS_X1_count kN_X1 kD_X1_count) rfl rfl rfl (by decide +kernel) ⟨Nat.le_of_ble_eq_true rfl, Nat.le_of_ble_eq_true rfl⟩) (zp_V 3 rfl rfl hP hK hSt hS hnw) rfl rfl hl.1 rfl (lv_room (Nat.le_of_ble_eq_true rfl)) dX1_spread_1 ⟨Nat.le_of_ble_eq_true rfl, Nat.le_of_ble_eq_true rfl⟩) ?_
  refine lv_istore_n hx hb dX1_spread_4 rfl hl (by decide) rfl (fun ls hl => ?_)
  have hl : lv_has ls 7 [(3, .int (nI cn)), (0, .ref (a 3)), (1, .long (lN x))] := hl
  refine lv_iconst (v := 0) hx hb dX1_spread_5 (by decide) ?_
  refine lv_istore hx hb dX1_spread_6 hl (by decide) rfl (fun ls hl => ?_)
  have hl : lv_has ls 7 [(4, .int 0), (3, .int (nI cn)), (0, .ref (a 3)), (1, .long (lN x))] := hl
  refine lv_iconst (v := 1) hx hb dX1_spread_8 (by decide) ?_
  refine lv_istore hx hb dX1_spread_9 hl (by decide) rfl (fun ls hl => ?_)
  have hl : lv_has ls 7 [(5, .int 1), (4, .int 0), (3, .int (nI cn)), (0, .ref (a 3)), (1, .long (lN x))] := hl
  have lp : ∀ (nn k : Nat) (ls : Array Slot) (H : Heap) (locs : List Loc), va_P D vwCl (cw a cA N ((mW 3 6 x f (k)).1) ob tr nd) H → va_D A (cw a cA N ((mW 3 6 x f (k)).1) ob tr nd) → va_S A s.heap H locs → k + nn = cn → lv_has ls 7 [(0, .ref (a 3)), (1, .long (lN x)), (3, .int (nI cn)), (4, .int (nI (mW 3 6 x f (k)).2)), (5, .int (nI (k + 1)))] → W p l ev ({ frames := 2, cells := 0, slots := 0, locals := 48 } : Room) s m ([.ref (a 3), .long (lN x)]).toArray below meth c H locs 0 0 Q (F0 m 11 ls []) := by
    intro nn
    induction nn with
    | zero =>
      intro k ls H locs hP hD hS hk_lp  hl
      have hk0_lp : k = cn := by omega
      refine lv_iload hx hb dX1_spread_11 (lv_at hl 4 rfl) ?_
      refine lv_iload_n hx hb dX1_spread_13 rfl (lv_at hl 2 rfl) ?_
      refine lv_icmp_gt (tgt := 63) hx hb dX1_spread_14 (by decide) (fun _ => ?_) (fun hno => absurd (by rw [hk0_lp]; exact nI_lt (Nat.lt_succ_self _) (by omega)) hno)
      rw [hQ]
      have hw9 : (cw a cA N ((mW 3 6 x f (k)).1) ob tr nd) = (cw a cA N (mW 3 6 x f cn).1 ob tr nd) := by rw [hk0_lp]
      exact W.vret hx hb hr (fun t ht hW => ⟨rfl, by rw [ht, ← hw9]; exact hP, by rw [← hw9]; exact hD, hS.F ht⟩) hS.2.2 dX1_spread_63
    | succ nn ih_lp =>
      intro k ls H locs hP hD hS hk_lp  hl
      have hk1_lp : k < cn := by omega
      refine lv_iload hx hb dX1_spread_11 (lv_at hl 4 rfl) ?_
      refine lv_iload_n hx hb dX1_spread_13 rfl (lv_at hl 2 rfl) ?_
      refine lv_icmp_gt (tgt := 63) hx hb dX1_spread_14 (by decide) (fun hno => absurd hno (nI_nlt hk1_lp (by omega))) (fun _ => ?_)
      refine lv_aload_n hx hb dX1_spread_17 rfl (lv_at hl 0 rfl) ?_
      refine lv_iload hx hb dX1_spread_18 (lv_at hl 4 rfl) ?_
      refine zb_ci (va_runV (As := [.int (nI (k + 1))]) (rest := []) ⟨hx, hb, hml, hown, htb⟩ (c_targetT l D a cA N ((mW 3 6 x f (k)).1) ob tr nd (k + 1) (mW_B hB 3 6 x k) (by omega) (by omega)) (cwV 1 htb (wb_V kM_X1_41 kI_X1_target kS_X1_target kN_X1 kD_X1_target) rfl rfl rfl (by decide +kernel) ⟨Nat.le_of_ble_eq_true rfl, Nat.le_of_ble_eq_true rfl⟩) (zp_V 3 rfl rfl hP hK hSt hS hnw) rfl rfl hl.1 rfl (lv_room (Nat.le_of_ble_eq_true rfl)) dX1_spread_20 ⟨Nat.le_of_ble_eq_true rfl, Nat.le_of_ble_eq_true rfl⟩) ?_
      cases hme : mE (mW 3 6 x f k).1 3 6 (k + 1) with
      | none =>
        refine zb_ti (y := (-1)) (rfl) ?_
        refine lv_istore hx hb dX1_spread_23 hl (by decide) rfl (fun ls hl => ?_)
        have hl : lv_has ls 7 [(6, .int (-1)), (0, .ref (a 3)), (1, .long (lN x)), (3, .int (nI cn)), (4, .int (nI (mW 3 6 x f (k)).2)), (5, .int (nI (k + 1)))] := hl
        refine lv_iload hx hb dX1_spread_25 (lv_at hl 0 rfl) ?_
        refine lv_iconst (v := (-1)) hx hb dX1_spread_27 (by decide) ?_
        refine lv_icmp_eq (tgt := 57) hx hb dX1_spread_28 (by decide) (fun _ => ?_) (fun hno => absurd (by decide) hno)
        have e1 : nI (mW 3 6 x f (k)).2 = nI (mW 3 6 x f (k + 1)).2 := by rw [mW_n hme]
        rw [e1] at hl
        have hl : lv_has ls 7 [(6, .int (-1)), (0, .ref (a 3)), (1, .long (lN x)), (3, .int (nI cn)), (4, .int (nI (mW 3 6 x f (k + 1)).2)), (5, .int (nI (k + 1)))] := hl
        have hP : va_P D vwCl (cw a cA N (mW 3 6 x f (k + 1)).1 ob tr nd) H := by rw [mW_n hme]; exact hP
        have hD : va_D A (cw a cA N (mW 3 6 x f (k + 1)).1 ob tr nd) := by rw [mW_n hme]; exact hD
        refine lv_iinc (k := 5) (v := nI ((k + 1) + 1)) hx hb dX1_spread_57 hl rfl (nI_1 (k + 1)) (by decide) rfl (fun ls hl => ?_)
        have hl : lv_has ls 7 [(5, .int (nI ((k + 1) + 1))), (6, .int (-1)), (0, .ref (a 3)), (1, .long (lN x)), (3, .int (nI cn)), (4, .int (nI (mW 3 6 x f (k + 1)).2))] := hl
        refine lv_goto (tgt := 11) hx hb dX1_spread_60 (by decide) ?_
        exact ih_lp (k + 1) ls _ _ hP hD hS (by omega) (lv_sub hl [2, 3, 4, 5, 0] rfl)
      | some e9 =>
        refine zb_ti (y := nI e9) (rfl) ?_
        have h22_e9 : e9 < 22 := mE_lt hme
        refine lv_istore hx hb dX1_spread_23 hl (by decide) rfl (fun ls hl => ?_)
        have hl : lv_has ls 7 [(6, .int (nI e9)), (0, .ref (a 3)), (1, .long (lN x)), (3, .int (nI cn)), (4, .int (nI (mW 3 6 x f (k)).2)), (5, .int (nI (k + 1)))] := hl
        refine lv_iload hx hb dX1_spread_25 (lv_at hl 0 rfl) ?_
        refine lv_iconst (v := (-1)) hx hb dX1_spread_27 (by decide) ?_
        refine lv_icmp_eq (tgt := 57) hx hb dX1_spread_28 (by decide) (fun hno => absurd hno (ni_m1 h22_e9)) (fun _ => ?_)
        have hft9 := x_fit e9 h22_e9
        have hm9 := mW_mono 3 6 x f (show k + 1 ≤ cn by omega)
        have hs9 := mW_s hme
        rw [hs9] at hm9
        have hm9 : (mW 3 6 x f k).2 + xZ e9 ≤ (mW 3 6 x f cn).2 := hm9
        refine lv_aload_n hx hb dX1_spread_31 rfl (lv_at hl 1 rfl) ?_
        refine va_get (D := D) (ci := 1) (v := .ref (a 1)) (fs := [.ref (a 1), .int 3, .int 6]) (C := RX1) (T := TX1) (N := 3) hx hb htb inX1 hown hK hP 3 rfl rfl 0 (by decide) (htb _ kF_X1_9) (fun _ h9 => h9) rfl dX1_spread_32 ?_
        refine lv_iload hx hb dX1_spread_35 (lv_at hl 0 rfl) ?_
        refine lv_lload_n hx hb dX1_spread_37 rfl (lv_at hl 2 rfl) ?_
        refine lv_bipush (v := 8) hx hb dX1_spread_38 (by decide) ?_
        refine lv_iload hx hb dX1_spread_40 (lv_at hl 4 rfl) ?_
        refine lv_imul hx hb dX1_spread_42 ?_
        refine zb_ti (pk_mul 8 ((mW 3 6 x f (k)).2)) ?_
        refine lv_lushr hx hb dX1_spread_43 rfl ?_
        refine zb_tl (y := lN (x / 2 ^ (8 * (mW 3 6 x f k).2))) (wb_shr hx64 (by omega)) ?_
        refine zb_cv (va_runV (As := [.int (nI e9), .long (lN (x / 2 ^ (8 * (mW 3 6 x f k).2)))]) (rest := []) ⟨hx, hb, hml, hown, htb⟩ (c_put l D a cA N ((mW 3 6 x f (k)).1) ob tr nd _ e9 (x / 2 ^ (8 * (mW 3 6 x f k).2)) h22_e9 (mE_z (by decide) (by decide) hme) (Nat.lt_of_le_of_lt (Nat.div_le_self _ _) hx64)) (cwV 2 htb (wb_V kM_X1_55 kI_X0_put kS_X0_put kN_X0 kD_X0_put) rfl rfl rfl (by decide +kernel) ⟨Nat.le_of_ble_eq_true rfl, Nat.le_of_ble_eq_true rfl⟩) (zp_VW 1 rfl rfl hP hD hK hSt hS hA hnw) rfl rfl hl.1 rfl (lv_room (Nat.le_of_ble_eq_true rfl)) dX1_spread_44 ⟨Nat.le_of_ble_eq_true rfl, Nat.le_of_ble_eq_true rfl⟩) hD hS hA (fun H locs hP hD hS => ?_)
        have hP : va_P D vwCl (cw a cA N (pF ((mW 3 6 x f (k)).1) (xP e9) (xZ e9) (x / 2 ^ (8 * (mW 3 6 x f k).2)) 0) ob tr nd) H := hP
        have hD : va_D A (cw a cA N (pF ((mW 3 6 x f (k)).1) (xP e9) (xZ e9) (x / 2 ^ (8 * (mW 3 6 x f k).2)) 0) ob tr nd) := hD
        rw [pF_sh, show pF (mW 3 6 x f k).1 (xP e9) (xZ e9) x (mW 3 6 x f k).2 = (mW 3 6 x f (k + 1)).1 by rw [hs9]] at hP hD
        have hP : va_P D vwCl (cw a cA N ((mW 3 6 x f (k + 1)).1) ob tr nd) H := hP
        have hD : va_D A (cw a cA N ((mW 3 6 x f (k + 1)).1) ob tr nd) := hD
        refine lv_iload hx hb dX1_spread_47 (lv_at hl 4 rfl) ?_
        refine lv_iload hx hb dX1_spread_49 (lv_at hl 0 rfl) ?_
        refine zb_ci (va_runS (As := [.int (nI e9)]) (rest := [.int (nI (mW 3 6 x f (k)).2)]) ⟨hx, hb, hml, hown, htb⟩ (c_sizeOf l D a cA N ((mW 3 6 x f (k + 1)).1) ob tr nd e9 h22_e9) (va_cwS 1 htb (wb_S kM_X1_46 kZ_X0_sizeOf kN_X0 kD_X0_sizeOf) rfl rfl rfl (by decide +kernel) ⟨Nat.le_of_ble_eq_true rfl, Nat.le_of_ble_eq_true rfl⟩) (zp_S hP hK hSt hS hnw) rfl rfl hl.1 rfl (lv_room (Nat.le_of_ble_eq_true rfl)) dX1_spread_51 ⟨Nat.le_of_ble_eq_true rfl, Nat.le_of_ble_eq_true rfl⟩) ?_
        refine lv_iadd hx hb dX1_spread_54 ?_
        refine zb_ti (nI_add ((mW 3 6 x f (k)).2) (xZ e9)) ?_
        refine zb_ti (y := nI (mW 3 6 x f (k + 1)).2) (by rw [hs9]) ?_
        refine lv_istore hx hb dX1_spread_55 hl (by decide) rfl (fun ls hl => ?_)
        have hl : lv_has ls 7 [(4, .int (nI (mW 3 6 x f (k + 1)).2)), (6, .int (nI e9)), (0, .ref (a 3)), (1, .long (lN x)), (3, .int (nI cn)), (5, .int (nI (k + 1)))] := hl
        refine lv_iinc (k := 5) (v := nI ((k + 1) + 1)) hx hb dX1_spread_57 hl rfl (nI_1 (k + 1)) (by decide) rfl (fun ls hl => ?_)
        have hl : lv_has ls 7 [(5, .int (nI ((k + 1) + 1))), (4, .int (nI (mW 3 6 x f (k + 1)).2)), (6, .int (nI e9)), (0, .ref (a 3)), (1, .long (lN x)), (3, .int (nI cn))] := hl
        refine lv_goto (tgt := 11) hx hb dX1_spread_60 (by decide) ?_
        exact ih_lp (k + 1) ls _ _ hP hD hS (by omega) (lv_sub hl [3, 4, 5, 1, 0] rfl)
  exact lp (cn - 0) (0) ls _ _ hP hD hS (by omega) (lv_sub hl [3, 4, 2, 1, 0] rfl)
