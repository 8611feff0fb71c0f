theorem or16 {b : Nat} (h : b < 256) : b ||| 16 < 256 := Nat.or_lt_two_pow (n := 8) h (by decide)
set_option maxHeartbeats 4000000 in
set_option maxRecDepth 100000 in
theorem c_joined (l : Launch) (D : va_G) (a : Nat → Nat) (cA : ClassId) (N : Int32) (f : Nat → Int32) (ob : OB) (tr : TR) (nd : ND) (lo hg : Nat) (hlo : lo < 2 ^ 32) (hhg : hg < 2 ^ 32) : Met l yX4_joined (wX4_joined :: wb) ({ frames := 0, cells := 0, slots := 0, locals := 0 } : Room) (va_Pc [.int (nI lo), .int (nI hg)] (zPu D [(cA, .int)] (cw a cA N f ob tr nd))) (zb_L (lN (lo + 4294967296 * hg))) 0 0 (fun _ => False) := by
  refine Met.ofW (cc := cX4_joined) (maxL := 2) (ret := (some .long)) (by decide) rfl ?_
  intro p ev s m args below meth c s₁ B hml hv
  obtain ⟨rfl, hP, hK, hSt, hnw⟩ := hv
  have hx := B.exec
  have hb := B.bytes
  have hr := B.returns
  have hts := atoms_spec (ws := wX4_joined :: wb) B.pre
  have htb : ∀ w ∈ wb, w.before ([.int (nI lo), .int (nI hg)]).toArray s = true := fun w h => hts w (List.mem_cons_of_mem _ h)
  have hown : s.vm.findClass RX4 = some m.cls := findClass_of_methodNamed B.named
  have hlocks := B.notSynchronized
  have hS : va_S (fun _ => False) s.heap s.heap [] := va_S.rf
  obtain ⟨⟨tt, ff, hZT, hTT, hZF, hTF⟩, hXS⟩ := id hSt
  have hl := lv_entry ([.int (nI lo), .int (nI hg)]) (n := 2) (Nat.le_of_ble_eq_true rfl)
  rw [lg_entry_eq]
  generalize (lg_sl ([.int (nI lo), .int (nI hg)]) ++ List.replicate (2 - (lg_sl ([.int (nI lo), .int (nI hg)])).length) Slot.unset).toArray = ls at hl ⊢
  have hl : lv_has ls 2 [(0, .int (nI lo)), (1, .int (nI hg))] := hl
  refine zb_abs (fun Q hQ => ?_)
  refine lv_iload_n hx hb dX4_joined_0 rfl (lv_at hl 1 rfl) ?_
  refine lv_i2l hx hb dX4_joined_1 rfl ?_
  refine lv_bipush (v := 32) hx hb dX4_joined_2 (by decide) ?_
  refine lv_lshl hx hb dX4_joined_4 rfl ?_
  refine lv_iload_n hx hb dX4_joined_5 rfl (lv_at hl 0 rfl) ?_
  refine lv_i2l hx hb dX4_joined_6 rfl ?_
  refine lv_ldc2 (v := 4294967295) hx hb hown (htb _ kQ_X4_130) dX4_joined_7 ?_
  refine lv_land hx hb dX4_joined_10 ?_
  refine lv_lor hx hb dX4_joined_11 ?_
  rw [hQ]
  exact W.lret (v := (((nI hg).toInt64) <<< ((32 : Int32).toInt64 &&& 63)) ||| (((nI lo).toInt64) &&& 4294967295)) hx hb hr (fun t ht hW => ⟨congrArg (fun z => Outcome.returned (some (Value.long z))) (jn_eq hlo hhg), ht⟩) (fun q h => nomatch h) dX4_joined_12
set_option maxHeartbeats 4000000 in
set_option maxRecDepth 100000 in
theorem c_boot (l : Launch) (D : va_G) (a : Nat → Nat) (cA : ClassId) (N : Int32) (f : Nat → Int32) (ob : OB) (tr : TR) (nd : ND) (sz : Nat)  (ho : obK ob) : Met l yX4_boot (wX4_boot :: wb) ({ frames := 1, cells := 0, slots := 0, locals := 25 } : Room) (va_Pc [.ref (a 0)] (zPre D [(cA, .int)] (cw a cA N f ob tr nd) sz)) (zb_Vv D vwCl (cw a cA N f (kBoot N ob) (tr_end tr) (nBoot nd)) (va_A (cw a cA N f ob tr nd) sz)) 0 0 (va_A (cw a cA N f ob tr nd) sz) := by
  refine Met.ofW (cc := cX4_boot) (maxL := 1) (ret := none) (by decide) rfl ?_
  intro p ev s m args below meth c s₁ B hml hv
  obtain ⟨rfl, hsz, hP, hK, hD0, hSt, hnw⟩ := hv
  have hx := B.exec
  have hb := B.bytes
  have hr := B.returns
  have hts := atoms_spec (ws := wX4_boot :: wb) B.pre
  have htb : ∀ w ∈ wb, w.before ([.ref (a 0)]).toArray s = true := fun w h => hts w (List.mem_cons_of_mem _ h)
  have hown : s.vm.findClass RX4 = some m.cls := findClass_of_methodNamed B.named
  have hlocks := B.notSynchronized
  subst hsz
  have hD := hD0.self (sz := s.heap.size)
  clear hD0
  generalize hAe : va_A (cw a cA N f ob tr nd) s.heap.size = A at hD hSt ⊢
  have hA : ∀ q : Nat, s.heap.size ≤ q → A q := fun q h => by rw [← hAe]; exact Or.inr h
  have hS : va_S A s.heap s.heap [] := va_S.rf
  obtain ⟨⟨tt, ff, hZT, hTT, hZF, hTF⟩, hXS⟩ := id hSt
  have hl := lv_entry ([.ref (a 0)]) (n := 1) (Nat.le_of_ble_eq_true rfl)
  rw [lg_entry_eq]
  generalize (lg_sl ([.ref (a 0)]) ++ List.replicate (1 - (lg_sl ([.ref (a 0)])).length) Slot.unset).toArray = ls at hl ⊢
  have hl : lv_has ls 1 [(0, .ref (a 0))] := hl
  refine zb_abs (fun Q hQ => ?_)
  obtain ⟨kp, hkp32, hkp⟩ := ho
  refine lv_aload_n hx hb dX4_boot_0 rfl (lv_at hl 0 rfl) ?_
  refine lv_bipush (v := 127) hx hb dX4_boot_1 (by decide) ?_
  refine va_put (D := D) (ci := 4) (v := .int 127) (fs := [.int N, .ref (a 1), .ref (a 3), .ref (a 4), .ref (a 5), .ref (a 7), .int nd.1, .int nd.2.1, .int nd.2.2.1, .long nd.2.2.2]) (ty := .int) (C := RX4) (T := TX4) (N := 10) hx hb htb inX4 tyX4 tyX4_ok nmX4 hown hK hP hD hS 0 rfl rfl 6 (by decide) (htb _ kF_X4_79) (fun _ h9 => h9) rfl (by decide +kernel) rfl rfl (Nat.le_of_ble_eq_true rfl) dX4_boot_3 (fun H locs hP hD hS => ?_)
  have hP : va_P D vwCl (cw a cA N f ob tr (127, nd.2.1, nd.2.2.1, nd.2.2.2)) H := hP
  have hD : va_D A (cw a cA N f ob tr (127, nd.2.1, nd.2.2.1, nd.2.2.2)) := hD
  refine lv_aload_n hx hb dX4_boot_6 rfl (lv_at hl 0 rfl) ?_
  refine va_get (D := D) (ci := 4) (v := .ref (a 7)) (fs := [.int N, .ref (a 1), .ref (a 3), .ref (a 4), .ref (a 5), .ref (a 7), .int 127, .int nd.2.1, .int nd.2.2.1, .long nd.2.2.2]) (C := RX4) (T := TX4) (N := 10) hx hb htb inX4 hown hK hP 0 rfl rfl 5 (by decide) (htb _ kF_X4_51) (fun _ h9 => h9) rfl dX4_boot_7 ?_
  refine zb_cv (va_runV (As := []) (rest := []) ⟨hx, hb, hml, hown, htb⟩ (c_trEnd l D a cA N f ob tr (127, nd.2.1, nd.2.2.1, nd.2.2.2) _ ) (cwV 0 htb (wb_V kM_X4_132 kI_X3_end kS_X3_end kN_X3 kD_X3_end) rfl rfl rfl (by decide +kernel) ⟨Nat.le_of_ble_eq_true rfl, Nat.le_of_ble_eq_true rfl⟩) (zp_VW 7 rfl rfl hP hD hK hSt hS hA hnw) rfl rfl hl.1 rfl (lv_room (Nat.le_of_ble_eq_true rfl)) dX4_boot_10 ⟨Nat.le_of_ble_eq_true rfl, Nat.le_of_ble_eq_true rfl⟩) hD hS hA (fun H locs hP hD hS => ?_)
  have hP : va_P D vwCl (cw a cA N f ob (tr_end tr) (127, nd.2.1, nd.2.2.1, nd.2.2.2)) H := hP
  have hD : va_D A (cw a cA N f ob (tr_end tr) (127, nd.2.1, nd.2.2.1, nd.2.2.2)) := hD
  refine lv_aload_n hx hb dX4_boot_13 rfl (lv_at hl 0 rfl) ?_
  refine lv_iconst (v := 0) hx hb dX4_boot_14 (by decide) ?_
  refine va_put (D := D) (ci := 4) (v := .int 0) (fs := [.int N, .ref (a 1), .ref (a 3), .ref (a 4), .ref (a 5), .ref (a 7), .int 127, .int nd.2.1, .int nd.2.2.1, .long nd.2.2.2]) (ty := .int) (C := RX4) (T := TX4) (N := 10) hx hb htb inX4 tyX4 tyX4_ok nmX4 hown hK hP hD hS 0 rfl rfl 7 (by decide) (htb _ kF_X4_135) (fun _ h9 => h9) rfl (by decide +kernel) rfl rfl (Nat.le_of_ble_eq_true rfl) dX4_boot_15 (fun H locs hP hD hS => ?_)
  have hP : va_P D vwCl (cw a cA N f ob (tr_end tr) (127, 0, nd.2.2.1, nd.2.2.2)) H := hP
  have hD : va_D A (cw a cA N f ob (tr_end tr) (127, 0, nd.2.2.1, nd.2.2.2)) := hD
  refine lv_aload_n hx hb dX4_boot_18 rfl (lv_at hl 0 rfl) ?_
  refine lv_iconst (v := 0) hx hb dX4_boot_19 (by decide) ?_
  refine va_put (D := D) (ci := 4) (v := .int 0) (fs := [.int N, .ref (a 1), .ref (a 3), .ref (a 4), .ref (a 5), .ref (a 7), .int 127, .int 0, .int nd.2.2.1, .long nd.2.2.2]) (ty := .int) (C := RX4) (T := TX4) (N := 10) hx hb htb inX4 tyX4 tyX4_ok nmX4 hown hK hP hD hS 0 rfl rfl 8 (by decide) (htb _ kF_X4_138) (fun _ h9 => h9) rfl (by decide +kernel) rfl rfl (Nat.le_of_ble_eq_true rfl) dX4_boot_20 (fun H locs hP hD hS => ?_)
  have hP : va_P D vwCl (cw a cA N f ob (tr_end tr) (127, 0, 0, nd.2.2.2)) H := hP
  have hD : va_D A (cw a cA N f ob (tr_end tr) (127, 0, 0, nd.2.2.2)) := hD
  refine lv_aload_n hx hb dX4_boot_23 rfl (lv_at hl 0 rfl) ?_
  refine va_get (D := D) (ci := 4) (v := .ref (a 5)) (fs := [.int N, .ref (a 1), .ref (a 3), .ref (a 4), .ref (a 5), .ref (a 7), .int 127, .int 0, .int 0, .long nd.2.2.2]) (C := RX4) (T := TX4) (N := 10) hx hb htb inX4 hown hK hP 0 rfl rfl 4 (by decide) (htb _ kF_X4_44) (fun _ h9 => h9) rfl dX4_boot_24 ?_
  refine lv_sipush (v := 1792) hx hb dX4_boot_27 (by decide) ?_
  refine lv_aload_n hx hb dX4_boot_30 rfl (lv_at hl 0 rfl) ?_
  refine va_get (D := D) (ci := 4) (v := .int N) (fs := [.int N, .ref (a 1), .ref (a 3), .ref (a 4), .ref (a 5), .ref (a 7), .int 127, .int 0, .int 0, .long nd.2.2.2]) (C := RX4) (T := TX4) (N := 10) hx hb htb inX4 hown hK hP 0 rfl rfl 0 (by decide) (htb _ kF_X4_16) (fun _ h9 => h9) rfl dX4_boot_31 ?_
  refine lv_iadd hx hb dX4_boot_34 ?_
  refine lv_iconst (v := 1) hx hb dX4_boot_35 (by decide) ?_
  refine lv_lconst (v := 0) hx hb dX4_boot_36 (by decide) ?_
  refine zb_cv (va_runV (As := [.int (1792 + N), .int 1, .long 0]) (rest := []) ⟨hx, hb, hml, hown, htb⟩ (c_send l D a cA N f ob (tr_end tr) (127, 0, 0, nd.2.2.2) _ kp (1792 + N) 1 0 hkp hkp32 (by decide)) (cwV 3 htb (wb_V kM_X4_141 kI_X2_send kS_X2_send kN_X2 kD_X2_send) rfl rfl rfl (by decide +kernel) ⟨Nat.le_of_ble_eq_true rfl, Nat.le_of_ble_eq_true rfl⟩) (zp_VW 5 rfl rfl hP hD hK hSt hS hA hnw) rfl rfl hl.1 rfl (lv_room (Nat.le_of_ble_eq_true rfl)) dX4_boot_37 ⟨Nat.le_of_ble_eq_true rfl, Nat.le_of_ble_eq_true rfl⟩) hD hS hA (fun H locs hP hD hS => ?_)
  have hP : va_P D vwCl (cw a cA N f (ob_send ob (1792 + N) 1 0) (tr_end tr) (127, 0, 0, nd.2.2.2)) H := hP
  have hD : va_D A (cw a cA N f (ob_send ob (1792 + N) 1 0) (tr_end tr) (127, 0, 0, nd.2.2.2)) := hD
  rw [hQ]
  have hw9 : (cw a cA N f (ob_send ob (1792 + N) 1 0) (tr_end tr) (127, 0, 0, nd.2.2.2)) = (cw a cA N f (kBoot N ob) (tr_end tr) (nBoot nd)) := rfl
  exact W.vret hx hb hr (fun t ht hW => ⟨rfl, by rw [ht, ← hw9]; exact hP, by rw [← hw9]; exact hD, hS.F ht⟩) hS.2.2 dX4_boot_40
set_option maxHeartbeats 4000000 in
set_option maxRecDepth 100000 in
theorem c_beat (l : Launch) (D : va_G) (a : Nat → Nat) (cA : ClassId) (N : Int32) (f : Nat → Int32) (ob : OB) (tr : TR) (nd : ND) (sz : Nat) (sv : Nat) (hB : isB f) (ho : obK ob) (hst : nd.1 = nI sv) (hsv : sv < 128) : Met l yX4_beat (wX4_beat :: wb) ({ frames := 1, cells := 0, slots := 0, locals := 27 } : Room) (va_Pc [.ref (a 0)] (zPre D [(cA, .int)] (cw a cA N f ob tr nd) sz)) (zb_Vv D vwCl (cw a cA N f (kBeat N f ob nd sv) tr (nBeat f nd)) (va_A (cw a cA N f ob tr nd) sz)) 0 0 (va_A (cw a cA N f ob tr nd) sz) := by
  refine Met.ofW (cc := cX4_beat) (maxL := 2) (ret := none) (by decide) rfl ?_
  intro p ev s m args below meth c s₁ B hml hv
  obtain ⟨rfl, hsz, hP, hK, hD0, hSt, hnw⟩ := hv
  have hx := B.exec
  have hb := B.bytes
  have hr := B.returns
  have hts := atoms_spec (ws := wX4_beat :: wb) B.pre
  have htb : ∀ w ∈ wb, w.before ([.ref (a 0)]).toArray s = true := fun w h => hts w (List.mem_cons_of_mem _ h)
  have hown : s.vm.findClass RX4 = some m.cls := findClass_of_methodNamed B.named
  have hlocks := B.notSynchronized
  subst hsz
  have hD := hD0.self (sz := s.heap.size)
  clear hD0
  generalize hAe : va_A (cw a cA N f ob tr nd) s.heap.size = A at hD hSt ⊢
  have hA : ∀ q : Nat, s.heap.size ≤ q → A q := fun q h => by rw [← hAe]; exact Or.inr h
  have hS : va_S A s.heap s.heap [] := va_S.rf
  obtain ⟨⟨tt, ff, hZT, hTT, hZF, hTF⟩, hXS⟩ := id hSt
  have hl := lv_entry ([.ref (a 0)]) (n := 2) (Nat.le_of_ble_eq_true rfl)
  rw [lg_entry_eq]
  generalize (lg_sl ([.ref (a 0)]) ++ List.replicate (2 - (lg_sl ([.ref (a 0)])).length) Slot.unset).toArray = ls at hl ⊢
  have hl : lv_has ls 2 [(0, .ref (a 0))] := hl
  refine zb_abs (fun Q hQ => ?_)
  obtain ⟨kp, hkp32, hkp⟩ := ho
  obtain ⟨st0, sy0, li0, gi0⟩ := nd
  obtain rfl : st0 = nI sv := hst
  refine lv_aload_n hx hb dX4_beat_0 rfl (lv_at hl 0 rfl) ?_
  refine va_get (D := D) (ci := 4) (v := .ref (a 1)) (fs := [.int N, .ref (a 1), .ref (a 3), .ref (a 4), .ref (a 5), .ref (a 7), .int (nI sv), .int sy0, .int li0, .long gi0]) (C := RX4) (T := TX4) (N := 10) hx hb htb inX4 hown hK hP 0 rfl rfl 1 (by decide) (htb _ kF_X4_25) (fun _ h9 => h9) rfl dX4_beat_1 ?_
  refine lv_iconst (v := 2) hx hb dX4_beat_4 (by decide) ?_
  refine lv_iconst (v := 0) hx hb dX4_beat_5 (by decide) ?_
  refine lv_iconst (v := 2) hx hb dX4_beat_6 (by decide) ?_
  refine zb_cl (va_runV (As := [.int 2, .int 0, .int 2]) (rest := []) ⟨hx, hb, hml, hown, htb⟩ (c_part l D a cA N f ob tr (nI sv, sy0, li0, gi0) 2 0 2 hB (by decide) (by decide) (by decide)) (cwV 3 htb (wb_V kM_X4_145 kI_X0_part kS_X0_part kN_X0 kD_X0_part) rfl rfl rfl (by decide +kernel) ⟨Nat.le_of_ble_eq_true rfl, Nat.le_of_ble_eq_true rfl⟩) (zp_V 1 rfl rfl hP hK hSt hS hnw) rfl rfl hl.1 rfl (lv_room (Nat.le_of_ble_eq_true rfl)) dX4_beat_7 ⟨Nat.le_of_ble_eq_true rfl, Nat.le_of_ble_eq_true rfl⟩) ?_
  refine lv_l2i hx hb dX4_beat_10 rfl ?_
  refine zb_ti (y := nI (kLife f)) (lN_i _) ?_
  refine lv_istore_n hx hb dX4_beat_11 rfl hl (by decide) rfl (fun ls hl => ?_)
  have hl : lv_has ls 2 [(1, .int (nI (kLife f))), (0, .ref (a 0))] := hl
  refine lv_iload_n hx hb dX4_beat_12 rfl (lv_at hl 0 rfl) ?_
  refine lv_if_ne (tgt := 17) hx hb dX4_beat_13 (by decide) (fun hc1 => ?_) (fun hc1 => ?_)
  · refine lv_aload_n hx hb dX4_beat_17 rfl (lv_at hl 1 rfl) ?_
    refine lv_dup hx hb dX4_beat_18 rfl ?_
    refine va_get (D := D) (ci := 4) (v := .int li0) (fs := [.int N, .ref (a 1), .ref (a 3), .ref (a 4), .ref (a 5), .ref (a 7), .int (nI sv), .int sy0, .int li0, .long gi0]) (C := RX4) (T := TX4) (N := 10) hx hb htb inX4 hown hK hP 0 rfl rfl 8 (by decide) (htb _ kF_X4_138) (fun _ h9 => h9) rfl dX4_beat_19 ?_
    refine lv_iconst (v := 1) hx hb dX4_beat_22 (by decide) ?_
    refine lv_iadd hx hb dX4_beat_23 ?_
    refine va_put (D := D) (ci := 4) (v := .int (li0 + 1)) (fs := [.int N, .ref (a 1), .ref (a 3), .ref (a 4), .ref (a 5), .ref (a 7), .int (nI sv), .int sy0, .int li0, .long gi0]) (ty := .int) (C := RX4) (T := TX4) (N := 10) hx hb htb inX4 tyX4 tyX4_ok nmX4 hown hK hP hD hS 0 rfl rfl 8 (by decide) (htb _ kF_X4_138) (fun _ h9 => h9) rfl (by decide +kernel) rfl rfl (Nat.le_of_ble_eq_true rfl) dX4_beat_24 (fun H locs hP hD hS => ?_)
    have hP : va_P D vwCl (cw a cA N f ob tr (nI sv, sy0, li0 + 1, gi0)) H := hP
    have hD : va_D A (cw a cA N f ob tr (nI sv, sy0, li0 + 1, gi0)) := hD
    refine lv_aload_n hx hb dX4_beat_27 rfl (lv_at hl 1 rfl) ?_
    refine va_get (D := D) (ci := 4) (v := .int (li0 + 1)) (fs := [.int N, .ref (a 1), .ref (a 3), .ref (a 4), .ref (a 5), .ref (a 7), .int (nI sv), .int sy0, .int (li0 + 1), .long gi0]) (C := RX4) (T := TX4) (N := 10) hx hb htb inX4 hown hK hP 0 rfl rfl 8 (by decide) (htb _ kF_X4_138) (fun _ h9 => h9) rfl dX4_beat_28 ?_
    refine lv_iload_n hx hb dX4_beat_31 rfl (lv_at hl 0 rfl) ?_
    refine lv_icmp_lt (tgt := 61) hx hb dX4_beat_32 (by decide) (fun hc2 => ?_) (fun hc2 => ?_)
    · rw [hQ]
      have hw9 : (cw a cA N f ob tr (nI sv, sy0, li0 + 1, gi0)) = (cw a cA N f (kBeat N f ob (nI sv, sy0, li0, gi0) sv) tr (nBeat f (nI sv, sy0, li0, gi0))) := by simp only [kBeat, nBeat, if_neg hc1, if_pos hc2]
      exact W.vret hx hb hr (fun t ht hW => ⟨rfl, by rw [ht, ← hw9]; exact hP, by rw [← hw9]; exact hD, hS.F ht⟩) hS.2.2 dX4_beat_61
    refine lv_aload_n hx hb dX4_beat_35 rfl (lv_at hl 1 rfl) ?_
    refine lv_iconst (v := 0) hx hb dX4_beat_36 (by decide) ?_
    refine va_put (D := D) (ci := 4) (v := .int 0) (fs := [.int N, .ref (a 1), .ref (a 3), .ref (a 4), .ref (a 5), .ref (a 7), .int (nI sv), .int sy0, .int (li0 + 1), .long gi0]) (ty := .int) (C := RX4) (T := TX4) (N := 10) hx hb htb inX4 tyX4 tyX4_ok nmX4 hown hK hP hD hS 0 rfl rfl 8 (by decide) (htb _ kF_X4_138) (fun _ h9 => h9) rfl (by decide +kernel) rfl rfl (Nat.le_of_ble_eq_true rfl) dX4_beat_37 (fun H locs hP hD hS => ?_)
    have hP : va_P D vwCl (cw a cA N f ob tr (nI sv, sy0, 0, gi0)) H := hP
    have hD : va_D A (cw a cA N f ob tr (nI sv, sy0, 0, gi0)) := hD
    refine lv_aload_n hx hb dX4_beat_40 rfl (lv_at hl 1 rfl) ?_
    refine va_get (D := D) (ci := 4) (v := .ref (a 5)) (fs := [.int N, .ref (a 1), .ref (a 3), .ref (a 4), .ref (a 5), .ref (a 7), .int (nI sv), .int sy0, .int 0, .long gi0]) (C := RX4) (T := TX4) (N := 10) hx hb htb inX4 hown hK hP 0 rfl rfl 4 (by decide) (htb _ kF_X4_44) (fun _ h9 => h9) rfl dX4_beat_41 ?_
    refine lv_sipush (v := 1792) hx hb dX4_beat_44 (by decide) ?_
    refine lv_aload_n hx hb dX4_beat_47 rfl (lv_at hl 1 rfl) ?_
    refine va_get (D := D) (ci := 4) (v := .int N) (fs := [.int N, .ref (a 1), .ref (a 3), .ref (a 4), .ref (a 5), .ref (a 7), .int (nI sv), .int sy0, .int 0, .long gi0]) (C := RX4) (T := TX4) (N := 10) hx hb htb inX4 hown hK hP 0 rfl rfl 0 (by decide) (htb _ kF_X4_16) (fun _ h9 => h9) rfl dX4_beat_48 ?_
    refine lv_iadd hx hb dX4_beat_51 ?_
    refine lv_iconst (v := 1) hx hb dX4_beat_52 (by decide) ?_
    refine lv_aload_n hx hb dX4_beat_53 rfl (lv_at hl 1 rfl) ?_
    refine va_get (D := D) (ci := 4) (v := .int (nI sv)) (fs := [.int N, .ref (a 1), .ref (a 3), .ref (a 4), .ref (a 5), .ref (a 7), .int (nI sv), .int sy0, .int 0, .long gi0]) (C := RX4) (T := TX4) (N := 10) hx hb htb inX4 hown hK hP 0 rfl rfl 6 (by decide) (htb _ kF_X4_79) (fun _ h9 => h9) rfl dX4_beat_54 ?_
    refine lv_i2l hx hb dX4_beat_57 rfl ?_
    refine zb_tl (y := lN sv) (nI_l (by omega)) ?_
    refine zb_cv (va_runV (As := [.int (1792 + N), .int 1, .long (lN sv)]) (rest := []) ⟨hx, hb, hml, hown, htb⟩ (c_send l D a cA N f ob tr (nI sv, sy0, 0, gi0) _ kp (1792 + N) 1 sv hkp hkp32 (by omega)) (cwV 3 htb (wb_V kM_X4_141 kI_X2_send kS_X2_send kN_X2 kD_X2_send) rfl rfl rfl (by decide +kernel) ⟨Nat.le_of_ble_eq_true rfl, Nat.le_of_ble_eq_true rfl⟩) (zp_VW 5 rfl rfl hP hD hK hSt hS hA hnw) rfl rfl hl.1 rfl (lv_room (Nat.le_of_ble_eq_true rfl)) dX4_beat_58 ⟨Nat.le_of_ble_eq_true rfl, Nat.le_of_ble_eq_true rfl⟩) hD hS hA (fun H locs hP hD hS => ?_)
    have hP : va_P D vwCl (cw a cA N f (ob_send ob (1792 + N) 1 sv) tr (nI sv, sy0, 0, gi0)) H := hP
    have hD : va_D A (cw a cA N f (ob_send ob (1792 + N) 1 sv) tr (nI sv, sy0, 0, gi0)) := hD
    rw [hQ]
    have hw9 : (cw a cA N f (ob_send ob (1792 + N) 1 sv) tr (nI sv, sy0, 0, gi0)) = (cw a cA N f (kBeat N f ob (nI sv, sy0, li0, gi0) sv) tr (nBeat f (nI sv, sy0, li0, gi0))) := by simp only [kBeat, nBeat, if_neg hc1, if_neg hc2]
    exact W.vret hx hb hr (fun t ht hW => ⟨rfl, by rw [ht, ← hw9]; exact hP, by rw [← hw9]; exact hD, hS.F ht⟩) hS.2.2 dX4_beat_61
  rw [hQ]
  have hw9 : (cw a cA N f ob tr (nI sv, sy0, li0, gi0)) = (cw a cA N f (kBeat N f ob (nI sv, sy0, li0, gi0) sv) tr (nBeat f (nI sv, sy0, li0, gi0))) := by simp only [kBeat, nBeat, if_pos hc1]
  exact W.vret hx hb hr (fun t ht hW => ⟨rfl, by rw [ht, ← hw9]; exact hP, by rw [← hw9]; exact hD, hS.F ht⟩) hS.2.2 dX4_beat_16
set_option maxHeartbeats 4000000 in
set_option maxRecDepth 100000 in
theorem c_run (l : Launch) (D : va_G) (a : Nat → Nat) (cA : ClassId) (N : Int32) (f : Nat → Int32) (ob : OB) (tr : TR) (nd : ND) (sz : Nat)  (hB : isB f) (hG : mapK f 9 5) : Met l yX4_run (wX4_run :: wb) ({ frames := 3, cells := 0, slots := 0, locals := 75 } : Room) (va_Pc [.ref (a 0)] (zPre D [(cA, .int)] (cw a cA N f ob tr nd) sz)) (zb_Vv D vwCl (cw a cA N f ob tr (nRun f nd)) (va_A (cw a cA N f ob tr nd) sz)) 0 0 (va_A (cw a cA N f ob tr nd) sz) := by
  refine Met.ofW (cc := cX4_run) (maxL := 1) (ret := none) (by decide) rfl ?_
  intro p ev s m args below meth c s₁ B hml hv
  obtain ⟨rfl, hsz, hP, hK, hD0, hSt, hnw⟩ := hv
  have hx := B.exec
  have hb := B.bytes
  have hr := B.returns
  have hts := atoms_spec (ws := wX4_run :: wb) B.pre
  have htb : ∀ w ∈ wb, w.before ([.ref (a 0)]).toArray s = true := fun w h => hts w (List.mem_cons_of_mem _ h)
  have hown : s.vm.findClass RX4 = some m.cls := findClass_of_methodNamed B.named
  have hlocks := B.notSynchronized
  subst hsz
  have hD := hD0.self (sz := s.heap.size)
  clear hD0
  generalize hAe : va_A (cw a cA N f ob tr nd) s.heap.size = A at hD hSt ⊢
  have hA : ∀ q : Nat, s.heap.size ≤ q → A q := fun q h => by rw [← hAe]; exact Or.inr h
  have hS : va_S A s.heap s.heap [] := va_S.rf
  obtain ⟨⟨tt, ff, hZT, hTT, hZF, hTF⟩, hXS⟩ := id hSt
  have hl := lv_entry ([.ref (a 0)]) (n := 1) (Nat.le_of_ble_eq_true rfl)
  rw [lg_entry_eq]
  generalize (lg_sl ([.ref (a 0)]) ++ List.replicate (1 - (lg_sl ([.ref (a 0)])).length) Slot.unset).toArray = ls at hl ⊢
  have hl : lv_has ls 1 [(0, .ref (a 0))] := hl
  refine zb_abs (fun Q hQ => ?_)
  refine lv_aload_n hx hb dX4_run_0 rfl (lv_at hl 0 rfl) ?_
  refine va_get (D := D) (ci := 4) (v := .int nd.1) (fs := [.int N, .ref (a 1), .ref (a 3), .ref (a 4), .ref (a 5), .ref (a 7), .int nd.1, .int nd.2.1, .int nd.2.2.1, .long nd.2.2.2]) (C := RX4) (T := TX4) (N := 10) hx hb htb inX4 hown hK hP 0 rfl rfl 6 (by decide) (htb _ kF_X4_79) (fun _ h9 => h9) rfl dX4_run_1 ?_
  refine lv_iconst (v := 5) hx hb dX4_run_4 (by decide) ?_
  refine lv_icmp_ne (tgt := 9) hx hb dX4_run_5 (by decide) (fun hc1 => ?_) (fun hc1 => ?_)
  · refine lv_aload_n hx hb dX4_run_9 rfl (lv_at hl 0 rfl) ?_
    refine lv_iconst (v := 5) hx hb dX4_run_10 (by decide) ?_
    refine va_put (D := D) (ci := 4) (v := .int 5) (fs := [.int N, .ref (a 1), .ref (a 3), .ref (a 4), .ref (a 5), .ref (a 7), .int nd.1, .int nd.2.1, .int nd.2.2.1, .long nd.2.2.2]) (ty := .int) (C := RX4) (T := TX4) (N := 10) hx hb htb inX4 tyX4 tyX4_ok nmX4 hown hK hP hD hS 0 rfl rfl 6 (by decide) (htb _ kF_X4_79) (fun _ h9 => h9) rfl (by decide +kernel) rfl rfl (Nat.le_of_ble_eq_true rfl) dX4_run_11 (fun H locs hP hD hS => ?_)
    have hP : va_P D vwCl (cw a cA N f ob tr (5, nd.2.1, nd.2.2.1, nd.2.2.2)) H := hP
    have hD : va_D A (cw a cA N f ob tr (5, nd.2.1, nd.2.2.1, nd.2.2.2)) := hD
    refine lv_aload_n hx hb dX4_run_14 rfl (lv_at hl 0 rfl) ?_
    refine lv_iconst (v := 0) hx hb dX4_run_15 (by decide) ?_
    refine va_put (D := D) (ci := 4) (v := .int 0) (fs := [.int N, .ref (a 1), .ref (a 3), .ref (a 4), .ref (a 5), .ref (a 7), .int 5, .int nd.2.1, .int nd.2.2.1, .long nd.2.2.2]) (ty := .int) (C := RX4) (T := TX4) (N := 10) hx hb htb inX4 tyX4 tyX4_ok nmX4 hown hK hP hD hS 0 rfl rfl 7 (by decide) (htb _ kF_X4_135) (fun _ h9 => h9) rfl (by decide +kernel) rfl rfl (Nat.le_of_ble_eq_true rfl) dX4_run_16 (fun H locs hP hD hS => ?_)
    have hP : va_P D vwCl (cw a cA N f ob tr (5, 0, nd.2.2.1, nd.2.2.2)) H := hP
    have hD : va_D A (cw a cA N f ob tr (5, 0, nd.2.2.1, nd.2.2.2)) := hD
    refine lv_aload_n hx hb dX4_run_19 rfl (lv_at hl 0 rfl) ?_
    refine lv_aload_n hx hb dX4_run_20 rfl (lv_at hl 0 rfl) ?_
    refine va_get (D := D) (ci := 4) (v := .ref (a 4)) (fs := [.int N, .ref (a 1), .ref (a 3), .ref (a 4), .ref (a 5), .ref (a 7), .int 5, .int 0, .int nd.2.2.1, .long nd.2.2.2]) (C := RX4) (T := TX4) (N := 10) hx hb htb inX4 hown hK hP 0 rfl rfl 3 (by decide) (htb _ kF_X4_38) (fun _ h9 => h9) rfl dX4_run_21 ?_
    refine zb_cl (va_runV (As := []) (rest := [.ref (a 0)]) ⟨hx, hb, hml, hown, htb⟩ (c_contentG l D a cA N f ob tr (5, 0, nd.2.2.1, nd.2.2.2) (cG f) (bv_of hB _).2 hG.1 hB hG.2.2) (cwV 0 htb (wb_V kM_X4_157 kI_X1_content kS_X1_content kN_X1 kD_X1_content) rfl rfl rfl (by decide +kernel) ⟨Nat.le_of_ble_eq_true rfl, Nat.le_of_ble_eq_true rfl⟩) (zp_V 4 rfl rfl hP hK hSt hS hnw) rfl rfl hl.1 rfl (lv_room (Nat.le_of_ble_eq_true rfl)) dX4_run_24 ⟨Nat.le_of_ble_eq_true rfl, Nat.le_of_ble_eq_true rfl⟩) ?_
    refine zb_tl (y := lN (gC f)) (rfl) ?_
    refine va_put (D := D) (ci := 4) (v := .long (lN (gC f))) (fs := [.int N, .ref (a 1), .ref (a 3), .ref (a 4), .ref (a 5), .ref (a 7), .int 5, .int 0, .int nd.2.2.1, .long nd.2.2.2]) (ty := .long) (C := RX4) (T := TX4) (N := 10) hx hb htb inX4 tyX4 tyX4_ok nmX4 hown hK hP hD hS 0 rfl rfl 9 (by decide) (htb _ kF_X4_161) (fun _ h9 => h9) rfl (by decide +kernel) rfl rfl (Nat.le_of_ble_eq_true rfl) dX4_run_27 (fun H locs hP hD hS => ?_)
    have hP : va_P D vwCl (cw a cA N f ob tr (5, 0, nd.2.2.1, lN (gC f))) H := hP
    have hD : va_D A (cw a cA N f ob tr (5, 0, nd.2.2.1, lN (gC f))) := hD
    rw [hQ]
    have hw9 : (cw a cA N f ob tr (5, 0, nd.2.2.1, lN (gC f))) = (cw a cA N f ob tr (nRun f nd)) := by simp only [nRun, if_neg hc1]
    exact W.vret hx hb hr (fun t ht hW => ⟨rfl, by rw [ht, ← hw9]; exact hP, by rw [← hw9]; exact hD, hS.F ht⟩) hS.2.2 dX4_run_30
  rw [hQ]
  have hw9 : (cw a cA N f ob tr nd) = (cw a cA N f ob tr (nRun f nd)) := by simp only [nRun, if_pos hc1]
  exact W.vret hx hb hr (fun t ht hW => ⟨rfl, by rw [ht, ← hw9]; exact hP, by rw [← hw9]; exact hD, hS.F ht⟩) hS.2.2 dX4_run_8
set_option maxHeartbeats 4000000 in
set_option maxRecDepth 100000 in
theorem c_give (l : Launch) (D : va_G) (a : Nat → Nat) (cA : ClassId) (N : Int32) (f : Nat → Int32) (ob : OB) (tr : TR) (nd : ND) (sz : Nat)  (hB : isB f) (hG : mapK f 9 5) (ho : obK ob) : Met l yX4_give (wX4_give :: wb) ({ frames := 3, cells := 0, slots := 0, locals := 75 } : Room) (va_Pc [.ref (a 0)] (zPre D [(cA, .int)] (cw a cA N f ob tr nd) sz)) (zb_Vv D vwCl (cw a cA N f (kGive N f ob) tr (nGive f nd)) (va_A (cw a cA N f ob tr nd) sz)) 0 0 (va_A (cw a cA N f ob tr nd) sz) := by
  refine Met.ofW (cc := cX4_give) (maxL := 1) (ret := none) (by decide) rfl ?_
  intro p ev s m args below meth c s₁ B hml hv
  obtain ⟨rfl, hsz, hP, hK, hD0, hSt, hnw⟩ := hv
  have hx := B.exec
  have hb := B.bytes
  have hr := B.returns
  have hts := atoms_spec (ws := wX4_give :: wb) B.pre
  have htb : ∀ w ∈ wb, w.before ([.ref (a 0)]).toArray s = true := fun w h => hts w (List.mem_cons_of_mem _ h)
  have hown : s.vm.findClass RX4 = some m.cls := findClass_of_methodNamed B.named
  have hlocks := B.notSynchronized
  subst hsz
  have hD := hD0.self (sz := s.heap.size)
  clear hD0
  generalize hAe : va_A (cw a cA N f ob tr nd) s.heap.size = A at hD hSt ⊢
  have hA : ∀ q : Nat, s.heap.size ≤ q → A q := fun q h => by rw [← hAe]; exact Or.inr h
  have hS : va_S A s.heap s.heap [] := va_S.rf
  obtain ⟨⟨tt, ff, hZT, hTT, hZF, hTF⟩, hXS⟩ := id hSt
  have hl := lv_entry ([.ref (a 0)]) (n := 1) (Nat.le_of_ble_eq_true rfl)
  rw [lg_entry_eq]
  generalize (lg_sl ([.ref (a 0)]) ++ List.replicate (1 - (lg_sl ([.ref (a 0)])).length) Slot.unset).toArray = ls at hl ⊢
  have hl : lv_has ls 1 [(0, .ref (a 0))] := hl
  refine zb_abs (fun Q hQ => ?_)
  obtain ⟨kp, hkp32, hkp⟩ := ho
  refine lv_aload_n hx hb dX4_give_0 rfl (lv_at hl 0 rfl) ?_
  refine lv_aload_n hx hb dX4_give_1 rfl (lv_at hl 0 rfl) ?_
  refine va_get (D := D) (ci := 4) (v := .ref (a 4)) (fs := [.int N, .ref (a 1), .ref (a 3), .ref (a 4), .ref (a 5), .ref (a 7), .int nd.1, .int nd.2.1, .int nd.2.2.1, .long nd.2.2.2]) (C := RX4) (T := TX4) (N := 10) hx hb htb inX4 hown hK hP 0 rfl rfl 3 (by decide) (htb _ kF_X4_38) (fun _ h9 => h9) rfl dX4_give_2 ?_
  refine zb_cl (va_runV (As := []) (rest := [.ref (a 0)]) ⟨hx, hb, hml, hown, htb⟩ (c_contentG l D a cA N f ob tr nd (cG f) (bv_of hB _).2 hG.1 hB hG.2.2) (cwV 0 htb (wb_V kM_X4_157 kI_X1_content kS_X1_content kN_X1 kD_X1_content) rfl rfl rfl (by decide +kernel) ⟨Nat.le_of_ble_eq_true rfl, Nat.le_of_ble_eq_true rfl⟩) (zp_V 4 rfl rfl hP hK hSt hS hnw) rfl rfl hl.1 rfl (lv_room (Nat.le_of_ble_eq_true rfl)) dX4_give_5 ⟨Nat.le_of_ble_eq_true rfl, Nat.le_of_ble_eq_true rfl⟩) ?_
  refine zb_tl (y := lN (gC f)) (rfl) ?_
  refine va_put (D := D) (ci := 4) (v := .long (lN (gC f))) (fs := [.int N, .ref (a 1), .ref (a 3), .ref (a 4), .ref (a 5), .ref (a 7), .int nd.1, .int nd.2.1, .int nd.2.2.1, .long nd.2.2.2]) (ty := .long) (C := RX4) (T := TX4) (N := 10) hx hb htb inX4 tyX4 tyX4_ok nmX4 hown hK hP hD hS 0 rfl rfl 9 (by decide) (htb _ kF_X4_161) (fun _ h9 => h9) rfl (by decide +kernel) rfl rfl (Nat.le_of_ble_eq_true rfl) dX4_give_8 (fun H locs hP hD hS => ?_)
  have hP : va_P D vwCl (cw a cA N f ob tr (nd.1, nd.2.1, nd.2.2.1, lN (gC f))) H := hP
  have hD : va_D A (cw a cA N f ob tr (nd.1, nd.2.1, nd.2.2.1, lN (gC f))) := hD
  refine lv_aload_n hx hb dX4_give_11 rfl (lv_at hl 0 rfl) ?_
  refine va_get (D := D) (ci := 4) (v := .ref (a 5)) (fs := [.int N, .ref (a 1), .ref (a 3), .ref (a 4), .ref (a 5), .ref (a 7), .int nd.1, .int nd.2.1, .int nd.2.2.1, .long (lN (gC f))]) (C := RX4) (T := TX4) (N := 10) hx hb htb inX4 hown hK hP 0 rfl rfl 4 (by decide) (htb _ kF_X4_44) (fun _ h9 => h9) rfl dX4_give_12 ?_
  refine lv_sipush (v := 384) hx hb dX4_give_15 (by decide) ?_
  refine lv_aload_n hx hb dX4_give_18 rfl (lv_at hl 0 rfl) ?_
  refine va_get (D := D) (ci := 4) (v := .int N) (fs := [.int N, .ref (a 1), .ref (a 3), .ref (a 4), .ref (a 5), .ref (a 7), .int nd.1, .int nd.2.1, .int nd.2.2.1, .long (lN (gC f))]) (C := RX4) (T := TX4) (N := 10) hx hb htb inX4 hown hK hP 0 rfl rfl 0 (by decide) (htb _ kF_X4_16) (fun _ h9 => h9) rfl dX4_give_19 ?_
  refine lv_iadd hx hb dX4_give_22 ?_
  refine lv_aload_n hx hb dX4_give_23 rfl (lv_at hl 0 rfl) ?_
  refine va_get (D := D) (ci := 4) (v := .ref (a 4)) (fs := [.int N, .ref (a 1), .ref (a 3), .ref (a 4), .ref (a 5), .ref (a 7), .int nd.1, .int nd.2.1, .int nd.2.2.1, .long (lN (gC f))]) (C := RX4) (T := TX4) (N := 10) hx hb htb inX4 hown hK hP 0 rfl rfl 3 (by decide) (htb _ kF_X4_38) (fun _ h9 => h9) rfl dX4_give_24 ?_
  refine zb_ci (va_runV (As := []) (rest := [.int (384 + N), .ref (a 5)]) ⟨hx, hb, hml, hown, htb⟩ (c_lengthG l D a cA N f ob tr (nd.1, nd.2.1, nd.2.2.1, lN (gC f)) (cG f) (bv_of hB _).2 hG.1 hB) (cwV 0 htb (wb_V kM_X4_175 kI_X1_contentLength kS_X1_contentLength kN_X1 kD_X1_contentLength) rfl rfl rfl (by decide +kernel) ⟨Nat.le_of_ble_eq_true rfl, Nat.le_of_ble_eq_true rfl⟩) (zp_V 4 rfl rfl hP hK hSt hS hnw) rfl rfl hl.1 rfl (lv_room (Nat.le_of_ble_eq_true rfl)) dX4_give_27 ⟨Nat.le_of_ble_eq_true rfl, Nat.le_of_ble_eq_true rfl⟩) ?_
  refine zb_ti (y := nI (gL f)) (rfl) ?_
  refine lv_aload_n hx hb dX4_give_30 rfl (lv_at hl 0 rfl) ?_
  refine va_get (D := D) (ci := 4) (v := .long (lN (gC f))) (fs := [.int N, .ref (a 1), .ref (a 3), .ref (a 4), .ref (a 5), .ref (a 7), .int nd.1, .int nd.2.1, .int nd.2.2.1, .long (lN (gC f))]) (C := RX4) (T := TX4) (N := 10) hx hb htb inX4 hown hK hP 0 rfl rfl 9 (by decide) (htb _ kF_X4_161) (fun _ h9 => h9) rfl dX4_give_31 ?_
  refine zb_cv (va_runV (As := [.int (384 + N), .int (nI (gL f)), .long (lN (gC f))]) (rest := []) ⟨hx, hb, hml, hown, htb⟩ (c_send l D a cA N f ob tr (nd.1, nd.2.1, nd.2.2.1, lN (gC f)) _ kp (384 + N) (nI (gL f)) (gC f) hkp hkp32 (gC_lt hB hG)) (cwV 3 htb (wb_V kM_X4_141 kI_X2_send kS_X2_send kN_X2 kD_X2_send) rfl rfl rfl (by decide +kernel) ⟨Nat.le_of_ble_eq_true rfl, Nat.le_of_ble_eq_true rfl⟩) (zp_VW 5 rfl rfl hP hD hK hSt hS hA hnw) rfl rfl hl.1 rfl (lv_room (Nat.le_of_ble_eq_true rfl)) dX4_give_34 ⟨Nat.le_of_ble_eq_true rfl, Nat.le_of_ble_eq_true rfl⟩) hD hS hA (fun H locs hP hD hS => ?_)
  have hP : va_P D vwCl (cw a cA N f (ob_send ob (384 + N) (nI (gL f)) (gC f)) tr (nd.1, nd.2.1, nd.2.2.1, lN (gC f))) H := hP
  have hD : va_D A (cw a cA N f (ob_send ob (384 + N) (nI (gL f)) (gC f)) tr (nd.1, nd.2.1, nd.2.2.1, lN (gC f))) := hD
  rw [hQ]
  have hw9 : (cw a cA N f (ob_send ob (384 + N) (nI (gL f)) (gC f)) tr (nd.1, nd.2.1, nd.2.2.1, lN (gC f))) = (cw a cA N f (kGive N f ob) tr (nGive f nd)) := rfl
  exact W.vret hx hb hr (fun t ht hW => ⟨rfl, by rw [ht, ← hw9]; exact hP, by rw [← hw9]; exact hD, hS.F ht⟩) hS.2.2 dX4_give_37
set_option maxHeartbeats 4000000 in
set_option maxRecDepth 100000 in
theorem c_giveIfNew (l : Launch) (D : va_G) (a : Nat → Nat) (cA : ClassId) (N : Int32) (f : Nat → Int32) (ob : OB) (tr : TR) (nd : ND) (sz : Nat)  (hB : isB f) (hG : mapK f 9 5) (ho : obK ob) : Met l yX4_giveIfNew (wX4_giveIfNew :: wb) ({ frames := 4, cells := 0, slots := 0, locals := 95 } : Room) (va_Pc [.ref (a 0)] (zPre D [(cA, .int)] (cw a cA N f ob tr nd) sz)) (zb_Vv D vwCl (cw a cA N f (kNew N f ob nd) tr (nNew f nd)) (va_A (cw a cA N f ob tr nd) sz)) 0 0 (va_A (cw a cA N f ob tr nd) sz) := by
  refine Met.ofW (cc := cX4_giveIfNew) (maxL := 1) (ret := none) (by decide) rfl ?_
  intro p ev s m args below meth c s₁ B hml hv
  obtain ⟨rfl, hsz, hP, hK, hD0, hSt, hnw⟩ := hv
  have hx := B.exec
  have hb := B.bytes
  have hr := B.returns
  have hts := atoms_spec (ws := wX4_giveIfNew :: wb) B.pre
  have htb : ∀ w ∈ wb, w.before ([.ref (a 0)]).toArray s = true := fun w h => hts w (List.mem_cons_of_mem _ h)
  have hown : s.vm.findClass RX4 = some m.cls := findClass_of_methodNamed B.named
  have hlocks := B.notSynchronized
  subst hsz
  have hD := hD0.self (sz := s.heap.size)
  clear hD0
  generalize hAe : va_A (cw a cA N f ob tr nd) s.heap.size = A at hD hSt ⊢
  have hA : ∀ q : Nat, s.heap.size ≤ q → A q := fun q h => by rw [← hAe]; exact Or.inr h
  have hS : va_S A s.heap s.heap [] := va_S.rf
  obtain ⟨⟨tt, ff, hZT, hTT, hZF, hTF⟩, hXS⟩ := id hSt
  have hl := lv_entry ([.ref (a 0)]) (n := 1) (Nat.le_of_ble_eq_true rfl)
  rw [lg_entry_eq]
  generalize (lg_sl ([.ref (a 0)]) ++ List.replicate (1 - (lg_sl ([.ref (a 0)])).length) Slot.unset).toArray = ls at hl ⊢
  have hl : lv_has ls 1 [(0, .ref (a 0))] := hl
  refine zb_abs (fun Q hQ => ?_)
  refine lv_aload_n hx hb dX4_giveIfNew_0 rfl (lv_at hl 0 rfl) ?_
  refine va_get (D := D) (ci := 4) (v := .ref (a 4)) (fs := [.int N, .ref (a 1), .ref (a 3), .ref (a 4), .ref (a 5), .ref (a 7), .int nd.1, .int nd.2.1, .int nd.2.2.1, .long nd.2.2.2]) (C := RX4) (T := TX4) (N := 10) hx hb htb inX4 hown hK hP 0 rfl rfl 3 (by decide) (htb _ kF_X4_38) (fun _ h9 => h9) rfl dX4_giveIfNew_1 ?_
  refine zb_cl (va_runV (As := []) (rest := []) ⟨hx, hb, hml, hown, htb⟩ (c_contentG l D a cA N f ob tr nd (cG f) (bv_of hB _).2 hG.1 hB hG.2.2) (cwV 0 htb (wb_V kM_X4_157 kI_X1_content kS_X1_content kN_X1 kD_X1_content) rfl rfl rfl (by decide +kernel) ⟨Nat.le_of_ble_eq_true rfl, Nat.le_of_ble_eq_true rfl⟩) (zp_V 4 rfl rfl hP hK hSt hS hnw) rfl rfl hl.1 rfl (lv_room (Nat.le_of_ble_eq_true rfl)) dX4_giveIfNew_4 ⟨Nat.le_of_ble_eq_true rfl, Nat.le_of_ble_eq_true rfl⟩) ?_
  refine zb_tl (y := lN (gC f)) (rfl) ?_
  refine lv_aload_n hx hb dX4_giveIfNew_7 rfl (lv_at hl 0 rfl) ?_
  refine va_get (D := D) (ci := 4) (v := .long nd.2.2.2) (fs := [.int N, .ref (a 1), .ref (a 3), .ref (a 4), .ref (a 5), .ref (a 7), .int nd.1, .int nd.2.1, .int nd.2.2.1, .long nd.2.2.2]) (C := RX4) (T := TX4) (N := 10) hx hb htb inX4 hown hK hP 0 rfl rfl 9 (by decide) (htb _ kF_X4_161) (fun _ h9 => h9) rfl dX4_giveIfNew_8 ?_
  refine W.lcmp hx hb dX4_giveIfNew_11 ?_
  refine lv_if_eq (tgt := 19) hx hb dX4_giveIfNew_12 (by decide) (fun hc1 => ?_) (fun hc1 => ?_)
  · rw [hQ]
    have hw9 : (cw a cA N f ob tr nd) = (cw a cA N f (kNew N f ob nd) tr (nNew f nd)) := by simp only [kNew, nNew, if_pos ((lg_cmp_eq _ _).mp hc1)]
    exact W.vret hx hb hr (fun t ht hW => ⟨rfl, by rw [ht, ← hw9]; exact hP, by rw [← hw9]; exact hD, hS.F ht⟩) hS.2.2 dX4_giveIfNew_19
  refine lv_aload_n hx hb dX4_giveIfNew_15 rfl (lv_at hl 0 rfl) ?_
  refine zb_cv (va_runV (As := []) (rest := []) ⟨hx, hb, hml, hown, htb⟩ (c_give l D a cA N f ob tr nd _ hB hG ho) (cwV 0 htb (wb_V kM_X4_172 kI_X4_give kS_X4_give kN_X4 kD_X4_give) rfl rfl rfl (by decide +kernel) ⟨Nat.le_of_ble_eq_true rfl, Nat.le_of_ble_eq_true rfl⟩) (zp_VW 0 rfl rfl hP hD hK hSt hS hA hnw) rfl rfl hl.1 rfl (lv_room (Nat.le_of_ble_eq_true rfl)) dX4_giveIfNew_16 ⟨Nat.le_of_ble_eq_true rfl, Nat.le_of_ble_eq_true rfl⟩) hD hS hA (fun H locs hP hD hS => ?_)
  have hP : va_P D vwCl (cw a cA N f (kGive N f ob) tr (nGive f nd)) H := hP
  have hD : va_D A (cw a cA N f (kGive N f ob) tr (nGive f nd)) := hD
  rw [hQ]
  have hw9 : (cw a cA N f (kGive N f ob) tr (nGive f nd)) = (cw a cA N f (kNew N f ob nd) tr (nNew f nd)) := by simp only [kNew, nNew, if_neg (fun h => hc1 ((lg_cmp_eq _ _).mpr h))]
  exact W.vret hx hb hr (fun t ht hW => ⟨rfl, by rw [ht, ← hw9]; exact hP, by rw [← hw9]; exact hD, hS.F ht⟩) hS.2.2 dX4_giveIfNew_19
set_option maxHeartbeats 4000000 in
set_option maxRecDepth 100000 in
theorem c_ev (l : Launch) (D : va_G) (a : Nat → Nat) (cA : ClassId) (N : Int32) (f : Nat → Int32) (ob : OB) (tr : TR) (nd : ND) (sz : Nat)  (hB : isB f) (hG : mapK f 9 5) (ho : obK ob) : Met l yX4_giveWhenChanged (wX4_giveWhenChanged :: wb) ({ frames := 5, cells := 0, slots := 0, locals := 115 } : Room) (va_Pc [.ref (a 0)] (zPre D [(cA, .int)] (cw a cA N f ob tr nd) sz)) (zb_Vv D vwCl (cw a cA N f (kEv N f ob nd) tr (nEv f nd)) (va_A (cw a cA N f ob tr nd) sz)) 0 0 (va_A (cw a cA N f ob tr nd) sz) := by
  refine Met.ofW (cc := cX4_giveWhenChanged) (maxL := 1) (ret := none) (by decide) rfl ?_
  intro p ev s m args below meth c s₁ B hml hv
  obtain ⟨rfl, hsz, hP, hK, hD0, hSt, hnw⟩ := hv
  have hx := B.exec
  have hb := B.bytes
  have hr := B.returns
  have hts := atoms_spec (ws := wX4_giveWhenChanged :: wb) B.pre
  have htb : ∀ w ∈ wb, w.before ([.ref (a 0)]).toArray s = true := fun w h => hts w (List.mem_cons_of_mem _ h)
  have hown : s.vm.findClass RX4 = some m.cls := findClass_of_methodNamed B.named
  have hlocks := B.notSynchronized
  subst hsz
  have hD := hD0.self (sz := s.heap.size)
  clear hD0
  generalize hAe : va_A (cw a cA N f ob tr nd) s.heap.size = A at hD hSt ⊢
  have hA : ∀ q : Nat, s.heap.size ≤ q → A q := fun q h => by rw [← hAe]; exact Or.inr h
  have hS : va_S A s.heap s.heap [] := va_S.rf
  obtain ⟨⟨tt, ff, hZT, hTT, hZF, hTF⟩, hXS⟩ := id hSt
  have hl := lv_entry ([.ref (a 0)]) (n := 1) (Nat.le_of_ble_eq_true rfl)
  rw [lg_entry_eq]
  generalize (lg_sl ([.ref (a 0)]) ++ List.replicate (1 - (lg_sl ([.ref (a 0)])).length) Slot.unset).toArray = ls at hl ⊢
  have hl : lv_has ls 1 [(0, .ref (a 0))] := hl
  refine zb_abs (fun Q hQ => ?_)
  refine lv_aload_n hx hb dX4_giveWhenChanged_0 rfl (lv_at hl 0 rfl) ?_
  refine va_get (D := D) (ci := 4) (v := .int nd.1) (fs := [.int N, .ref (a 1), .ref (a 3), .ref (a 4), .ref (a 5), .ref (a 7), .int nd.1, .int nd.2.1, .int nd.2.2.1, .long nd.2.2.2]) (C := RX4) (T := TX4) (N := 10) hx hb htb inX4 hown hK hP 0 rfl rfl 6 (by decide) (htb _ kF_X4_79) (fun _ h9 => h9) rfl dX4_giveWhenChanged_1 ?_
  refine lv_iconst (v := 5) hx hb dX4_giveWhenChanged_4 (by decide) ?_
  refine lv_icmp_ne (tgt := 38) hx hb dX4_giveWhenChanged_5 (by decide) (fun hc1 => ?_) (fun hc1 => ?_)
  · rw [hQ]
    have hw9 : (cw a cA N f ob tr nd) = (cw a cA N f (kEv N f ob nd) tr (nEv f nd)) := by simp only [kEv, nEv, if_neg hc1]
    exact W.vret hx hb hr (fun t ht hW => ⟨rfl, by rw [ht, ← hw9]; exact hP, by rw [← hw9]; exact hD, hS.F ht⟩) hS.2.2 dX4_giveWhenChanged_38
  refine lv_aload_n hx hb dX4_giveWhenChanged_8 rfl (lv_at hl 0 rfl) ?_
  refine va_get (D := D) (ci := 4) (v := .ref (a 4)) (fs := [.int N, .ref (a 1), .ref (a 3), .ref (a 4), .ref (a 5), .ref (a 7), .int nd.1, .int nd.2.1, .int nd.2.2.1, .long nd.2.2.2]) (C := RX4) (T := TX4) (N := 10) hx hb htb inX4 hown hK hP 0 rfl rfl 3 (by decide) (htb _ kF_X4_38) (fun _ h9 => h9) rfl dX4_giveWhenChanged_9 ?_
  refine zb_ci (va_runV (As := []) (rest := []) ⟨hx, hb, hml, hown, htb⟩ (c_countG l D a cA N f ob tr nd (cG f) (bv_of hB _).2 hG.1) (cwV 0 htb (wb_V kM_X4_165 kI_X1_count kS_X1_count kN_X1 kD_X1_count) rfl rfl rfl (by decide +kernel) ⟨Nat.le_of_ble_eq_true rfl, Nat.le_of_ble_eq_true rfl⟩) (zp_V 4 rfl rfl hP hK hSt hS hnw) rfl rfl hl.1 rfl (lv_room (Nat.le_of_ble_eq_true rfl)) dX4_giveWhenChanged_12 ⟨Nat.le_of_ble_eq_true rfl, Nat.le_of_ble_eq_true rfl⟩) ?_
  refine lv_if_eq (tgt := 38) hx hb dX4_giveWhenChanged_15 (by decide) (fun hc2 => ?_) (fun hc2 => ?_)
  · rw [hQ]
    have hw9 : (cw a cA N f ob tr nd) = (cw a cA N f (kEv N f ob nd) tr (nEv f nd)) := by simp only [kEv, nEv, if_pos hc1, if_pos hc2]
    exact W.vret hx hb hr (fun t ht hW => ⟨rfl, by rw [ht, ← hw9]; exact hP, by rw [← hw9]; exact hD, hS.F ht⟩) hS.2.2 dX4_giveWhenChanged_38
  refine lv_aload_n hx hb dX4_giveWhenChanged_18 rfl (lv_at hl 0 rfl) ?_
  refine va_get (D := D) (ci := 4) (v := .ref (a 1)) (fs := [.int N, .ref (a 1), .ref (a 3), .ref (a 4), .ref (a 5), .ref (a 7), .int nd.1, .int nd.2.1, .int nd.2.2.1, .long nd.2.2.2]) (C := RX4) (T := TX4) (N := 10) hx hb htb inX4 hown hK hP 0 rfl rfl 1 (by decide) (htb _ kF_X4_25) (fun _ h9 => h9) rfl dX4_giveWhenChanged_19 ?_
  refine lv_bipush (v := 8) hx hb dX4_giveWhenChanged_22 (by decide) ?_
  refine lv_iconst (v := 0) hx hb dX4_giveWhenChanged_24 (by decide) ?_
  refine zb_ci (va_runV (As := [.int 8, .int 0]) (rest := []) ⟨hx, hb, hml, hown, htb⟩ (c_byteAt l D a cA N f ob tr nd 8 0 (by decide) (by decide)) (cwV 2 htb (wb_V kM_X4_118 kI_X0_byteAt kS_X0_byteAt kN_X0 kD_X0_byteAt) rfl rfl rfl (by decide +kernel) ⟨Nat.le_of_ble_eq_true rfl, Nat.le_of_ble_eq_true rfl⟩) (zp_V 1 rfl rfl hP hK hSt hS hnw) rfl rfl hl.1 rfl (lv_room (Nat.le_of_ble_eq_true rfl)) dX4_giveWhenChanged_25 ⟨Nat.le_of_ble_eq_true rfl, Nat.le_of_ble_eq_true rfl⟩) ?_
  refine zb_ti (y := nI (bv f (xP 8))) ((bv_of hB _).2) ?_
  refine lv_sipush (v := 254) hx hb dX4_giveWhenChanged_28 (by decide) ?_
  refine lv_icmp_lt (tgt := 38) hx hb dX4_giveWhenChanged_31 (by decide) (fun hc3 => ?_) (fun hc3 => ?_)
  · rw [hQ]
    have hw9 : (cw a cA N f ob tr nd) = (cw a cA N f (kEv N f ob nd) tr (nEv f nd)) := by simp only [kEv, nEv, if_pos hc1, if_neg hc2, if_pos hc3]
    exact W.vret hx hb hr (fun t ht hW => ⟨rfl, by rw [ht, ← hw9]; exact hP, by rw [← hw9]; exact hD, hS.F ht⟩) hS.2.2 dX4_giveWhenChanged_38
  refine lv_aload_n hx hb dX4_giveWhenChanged_34 rfl (lv_at hl 0 rfl) ?_
  refine zb_cv (va_runV (As := []) (rest := []) ⟨hx, hb, hml, hown, htb⟩ (c_giveIfNew l D a cA N f ob tr nd _ hB hG ho) (cwV 0 htb (wb_V kM_X4_169 kI_X4_giveIfNew kS_X4_giveIfNew kN_X4 kD_X4_giveIfNew) rfl rfl rfl (by decide +kernel) ⟨Nat.le_of_ble_eq_true rfl, Nat.le_of_ble_eq_true rfl⟩) (zp_VW 0 rfl rfl hP hD hK hSt hS hA hnw) rfl rfl hl.1 rfl (lv_room (Nat.le_of_ble_eq_true rfl)) dX4_giveWhenChanged_35 ⟨Nat.le_of_ble_eq_true rfl, Nat.le_of_ble_eq_true rfl⟩) hD hS hA (fun H locs hP hD hS => ?_)
  have hP : va_P D vwCl (cw a cA N f (kNew N f ob nd) tr (nNew f nd)) H := hP
  have hD : va_D A (cw a cA N f (kNew N f ob nd) tr (nNew f nd)) := hD
  rw [hQ]
  have hw9 : (cw a cA N f (kNew N f ob nd) tr (nNew f nd)) = (cw a cA N f (kEv N f ob nd) tr (nEv f nd)) := by simp only [kEv, nEv, if_pos hc1, if_neg hc2, if_neg hc3]
  exact W.vret hx hb hr (fun t ht hW => ⟨rfl, by rw [ht, ← hw9]; exact hP, by rw [← hw9]; exact hD, hS.F ht⟩) hS.2.2 dX4_giveWhenChanged_38
set_option maxHeartbeats 4000000 in
set_option maxRecDepth 100000 in
theorem c_sync (l : Launch) (D : va_G) (a : Nat → Nat) (cA : ClassId) (N : Int32) (f : Nat → Int32) (ob : OB) (tr : TR) (nd : ND) (sz : Nat)  (hB : isB f) (hG : mapK f 9 5) (ho : obK ob) : Met l yX4_sync (wX4_sync :: wb) ({ frames := 5, cells := 0, slots := 0, locals := 115 } : Room) (va_Pc [.ref (a 0)] (zPre D [(cA, .int)] (cw a cA N f ob tr nd) sz)) (zb_Vv D vwCl (cw a cA N f (kSync N f ob nd) tr (nSync f nd)) (va_A (cw a cA N f ob tr nd) sz)) 0 0 (va_A (cw a cA N f ob tr nd) sz) := by
  refine Met.ofW (cc := cX4_sync) (maxL := 2) (ret := none) (by decide) rfl ?_
  intro p ev s m args below meth c s₁ B hml hv
  obtain ⟨rfl, hsz, hP, hK, hD0, hSt, hnw⟩ := hv
  have hx := B.exec
  have hb := B.bytes
  have hr := B.returns
  have hts := atoms_spec (ws := wX4_sync :: wb) B.pre
  have htb : ∀ w ∈ wb, w.before ([.ref (a 0)]).toArray s = true := fun w h => hts w (List.mem_cons_of_mem _ h)
  have hown : s.vm.findClass RX4 = some m.cls := findClass_of_methodNamed B.named
  have hlocks := B.notSynchronized
  subst hsz
  have hD := hD0.self (sz := s.heap.size)
  clear hD0
  generalize hAe : va_A (cw a cA N f ob tr nd) s.heap.size = A at hD hSt ⊢
  have hA : ∀ q : Nat, s.heap.size ≤ q → A q := fun q h => by rw [← hAe]; exact Or.inr h
  have hS : va_S A s.heap s.heap [] := va_S.rf
  obtain ⟨⟨tt, ff, hZT, hTT, hZF, hTF⟩, hXS⟩ := id hSt
  have hl := lv_entry ([.ref (a 0)]) (n := 2) (Nat.le_of_ble_eq_true rfl)
  rw [lg_entry_eq]
  generalize (lg_sl ([.ref (a 0)]) ++ List.replicate (2 - (lg_sl ([.ref (a 0)])).length) Slot.unset).toArray = ls at hl ⊢
  have hl : lv_has ls 2 [(0, .ref (a 0))] := hl
  refine zb_abs (fun Q hQ => ?_)
  refine lv_aload_n hx hb dX4_sync_0 rfl (lv_at hl 0 rfl) ?_
  refine va_get (D := D) (ci := 4) (v := .int nd.1) (fs := [.int N, .ref (a 1), .ref (a 3), .ref (a 4), .ref (a 5), .ref (a 7), .int nd.1, .int nd.2.1, .int nd.2.2.1, .long nd.2.2.2]) (C := RX4) (T := TX4) (N := 10) hx hb htb inX4 hown hK hP 0 rfl rfl 6 (by decide) (htb _ kF_X4_79) (fun _ h9 => h9) rfl dX4_sync_1 ?_
  refine lv_iconst (v := 5) hx hb dX4_sync_4 (by decide) ?_
  refine lv_icmp_ne (tgt := 18) hx hb dX4_sync_5 (by decide) (fun hc1 => ?_) (fun hc1 => ?_)
  · rw [hQ]
    have hw9 : (cw a cA N f ob tr nd) = (cw a cA N f (kSync N f ob nd) tr (nSync f nd)) := by first | (simp only [kSync, nSync, if_neg hc1]; done) | (simp only [kSync, nSync, if_neg hc1]; rfl)
    exact W.vret hx hb hr (fun t ht hW => ⟨rfl, by rw [ht, ← hw9]; exact hP, by rw [← hw9]; exact hD, hS.F ht⟩) hS.2.2 dX4_sync_18
  refine lv_aload_n hx hb dX4_sync_8 rfl (lv_at hl 0 rfl) ?_
  refine va_get (D := D) (ci := 4) (v := .ref (a 4)) (fs := [.int N, .ref (a 1), .ref (a 3), .ref (a 4), .ref (a 5), .ref (a 7), .int nd.1, .int nd.2.1, .int nd.2.2.1, .long nd.2.2.2]) (C := RX4) (T := TX4) (N := 10) hx hb htb inX4 hown hK hP 0 rfl rfl 3 (by decide) (htb _ kF_X4_38) (fun _ h9 => h9) rfl dX4_sync_9 ?_
  refine zb_ci (va_runV (As := []) (rest := []) ⟨hx, hb, hml, hown, htb⟩ (c_countG l D a cA N f ob tr nd (cG f) (bv_of hB _).2 hG.1) (cwV 0 htb (wb_V kM_X4_165 kI_X1_count kS_X1_count kN_X1 kD_X1_count) rfl rfl rfl (by decide +kernel) ⟨Nat.le_of_ble_eq_true rfl, Nat.le_of_ble_eq_true rfl⟩) (zp_V 4 rfl rfl hP hK hSt hS hnw) rfl rfl hl.1 rfl (lv_room (Nat.le_of_ble_eq_true rfl)) dX4_sync_12 ⟨Nat.le_of_ble_eq_true rfl, Nat.le_of_ble_eq_true rfl⟩) ?_
  refine lv_if_ne (tgt := 19) hx hb dX4_sync_15 (by decide) (fun hc2 => ?_) (fun hc2 => ?_)
  · refine lv_aload_n hx hb dX4_sync_19 rfl (lv_at hl 0 rfl) ?_
    refine va_get (D := D) (ci := 4) (v := .ref (a 1)) (fs := [.int N, .ref (a 1), .ref (a 3), .ref (a 4), .ref (a 5), .ref (a 7), .int nd.1, .int nd.2.1, .int nd.2.2.1, .long nd.2.2.2]) (C := RX4) (T := TX4) (N := 10) hx hb htb inX4 hown hK hP 0 rfl rfl 1 (by decide) (htb _ kF_X4_25) (fun _ h9 => h9) rfl dX4_sync_20 ?_
    refine lv_bipush (v := 8) hx hb dX4_sync_23 (by decide) ?_
    refine lv_iconst (v := 0) hx hb dX4_sync_25 (by decide) ?_
    refine zb_ci (va_runV (As := [.int 8, .int 0]) (rest := []) ⟨hx, hb, hml, hown, htb⟩ (c_byteAt l D a cA N f ob tr nd 8 0 (by decide) (by decide)) (cwV 2 htb (wb_V kM_X4_118 kI_X0_byteAt kS_X0_byteAt kN_X0 kD_X0_byteAt) rfl rfl rfl (by decide +kernel) ⟨Nat.le_of_ble_eq_true rfl, Nat.le_of_ble_eq_true rfl⟩) (zp_V 1 rfl rfl hP hK hSt hS hnw) rfl rfl hl.1 rfl (lv_room (Nat.le_of_ble_eq_true rfl)) dX4_sync_26 ⟨Nat.le_of_ble_eq_true rfl, Nat.le_of_ble_eq_true rfl⟩) ?_
    refine zb_ti (y := nI (bv f (xP 8))) ((bv_of hB _).2) ?_
    refine lv_istore_n hx hb dX4_sync_29 rfl hl (by decide) rfl (fun ls hl => ?_)
    have hl : lv_has ls 2 [(1, .int (nI (bv f (xP 8)))), (0, .ref (a 0))] := hl
    refine lv_iload_n hx hb dX4_sync_30 rfl (lv_at hl 0 rfl) ?_
    refine lv_if_ne (tgt := 41) hx hb dX4_sync_31 (by decide) (fun hc3 => ?_) (fun hc3 => ?_)
    · refine lv_iload_n hx hb dX4_sync_41 rfl (lv_at hl 0 rfl) ?_
      refine lv_sipush (v := 240) hx hb dX4_sync_42 (by decide) ?_
      refine lv_icmp_gt (tgt := 75) hx hb dX4_sync_45 (by decide) (fun hc4 => ?_) (fun hc4 => ?_)
      · rw [hQ]
        have hw9 : (cw a cA N f ob tr nd) = (cw a cA N f (kSync N f ob nd) tr (nSync f nd)) := by first | (simp only [kSync, nSync, if_pos hc1, if_neg hc2, if_neg hc3, if_pos hc4]; done) | (simp only [kSync, nSync, if_pos hc1, if_neg hc2, if_neg hc3, if_pos hc4]; rfl)
        exact W.vret hx hb hr (fun t ht hW => ⟨rfl, by rw [ht, ← hw9]; exact hP, by rw [← hw9]; exact hD, hS.F ht⟩) hS.2.2 dX4_sync_75
      refine lv_aload_n hx hb dX4_sync_48 rfl (lv_at hl 1 rfl) ?_
      refine lv_dup hx hb dX4_sync_49 rfl ?_
      refine va_get (D := D) (ci := 4) (v := .int nd.2.1) (fs := [.int N, .ref (a 1), .ref (a 3), .ref (a 4), .ref (a 5), .ref (a 7), .int nd.1, .int nd.2.1, .int nd.2.2.1, .long nd.2.2.2]) (C := RX4) (T := TX4) (N := 10) hx hb htb inX4 hown hK hP 0 rfl rfl 7 (by decide) (htb _ kF_X4_135) (fun _ h9 => h9) rfl dX4_sync_50 ?_
      refine lv_iconst (v := 1) hx hb dX4_sync_53 (by decide) ?_
      refine lv_iadd hx hb dX4_sync_54 ?_
      refine va_put (D := D) (ci := 4) (v := .int (nd.2.1 + 1)) (fs := [.int N, .ref (a 1), .ref (a 3), .ref (a 4), .ref (a 5), .ref (a 7), .int nd.1, .int nd.2.1, .int nd.2.2.1, .long nd.2.2.2]) (ty := .int) (C := RX4) (T := TX4) (N := 10) hx hb htb inX4 tyX4 tyX4_ok nmX4 hown hK hP hD hS 0 rfl rfl 7 (by decide) (htb _ kF_X4_135) (fun _ h9 => h9) rfl (by decide +kernel) rfl rfl (Nat.le_of_ble_eq_true rfl) dX4_sync_55 (fun H locs hP hD hS => ?_)
      have hP : va_P D vwCl (cw a cA N f ob tr (nd.1, nd.2.1 + 1, nd.2.2.1, nd.2.2.2)) H := hP
      have hD : va_D A (cw a cA N f ob tr (nd.1, nd.2.1 + 1, nd.2.2.1, nd.2.2.2)) := hD
      refine lv_aload_n hx hb dX4_sync_58 rfl (lv_at hl 1 rfl) ?_
      refine va_get (D := D) (ci := 4) (v := .int (nd.2.1 + 1)) (fs := [.int N, .ref (a 1), .ref (a 3), .ref (a 4), .ref (a 5), .ref (a 7), .int nd.1, .int (nd.2.1 + 1), .int nd.2.2.1, .long nd.2.2.2]) (C := RX4) (T := TX4) (N := 10) hx hb htb inX4 hown hK hP 0 rfl rfl 7 (by decide) (htb _ kF_X4_135) (fun _ h9 => h9) rfl dX4_sync_59 ?_
      refine lv_iload_n hx hb dX4_sync_62 rfl (lv_at hl 0 rfl) ?_
      refine lv_icmp_lt (tgt := 75) hx hb dX4_sync_63 (by decide) (fun hc5 => ?_) (fun hc5 => ?_)
      · rw [hQ]
        have hw9 : (cw a cA N f ob tr (nd.1, nd.2.1 + 1, nd.2.2.1, nd.2.2.2)) = (cw a cA N f (kSync N f ob nd) tr (nSync f nd)) := by first | (simp only [kSync, nSync, if_pos hc1, if_neg hc2, if_neg hc3, if_neg hc4, if_pos hc5]; done) | (simp only [kSync, nSync, if_pos hc1, if_neg hc2, if_neg hc3, if_neg hc4, if_pos hc5]; rfl)
        exact W.vret hx hb hr (fun t ht hW => ⟨rfl, by rw [ht, ← hw9]; exact hP, by rw [← hw9]; exact hD, hS.F ht⟩) hS.2.2 dX4_sync_75
      refine lv_aload_n hx hb dX4_sync_66 rfl (lv_at hl 1 rfl) ?_
      refine lv_iconst (v := 0) hx hb dX4_sync_67 (by decide) ?_
      refine va_put (D := D) (ci := 4) (v := .int 0) (fs := [.int N, .ref (a 1), .ref (a 3), .ref (a 4), .ref (a 5), .ref (a 7), .int nd.1, .int (nd.2.1 + 1), .int nd.2.2.1, .long nd.2.2.2]) (ty := .int) (C := RX4) (T := TX4) (N := 10) hx hb htb inX4 tyX4 tyX4_ok nmX4 hown hK hP hD hS 0 rfl rfl 7 (by decide) (htb _ kF_X4_135) (fun _ h9 => h9) rfl (by decide +kernel) rfl rfl (Nat.le_of_ble_eq_true rfl) dX4_sync_68 (fun H locs hP hD hS => ?_)
      have hP : va_P D vwCl (cw a cA N f ob tr (nd.1, 0, nd.2.2.1, nd.2.2.2)) H := hP
      have hD : va_D A (cw a cA N f ob tr (nd.1, 0, nd.2.2.1, nd.2.2.2)) := hD
      refine lv_aload_n hx hb dX4_sync_71 rfl (lv_at hl 1 rfl) ?_
      refine zb_cv (va_runV (As := []) (rest := []) ⟨hx, hb, hml, hown, htb⟩ (c_give l D a cA N f ob tr (nd.1, 0, nd.2.2.1, nd.2.2.2) _ hB hG ho) (cwV 0 htb (wb_V kM_X4_172 kI_X4_give kS_X4_give kN_X4 kD_X4_give) rfl rfl rfl (by decide +kernel) ⟨Nat.le_of_ble_eq_true rfl, Nat.le_of_ble_eq_true rfl⟩) (zp_VW 0 rfl rfl hP hD hK hSt hS hA hnw) rfl rfl hl.1 rfl (lv_room (Nat.le_of_ble_eq_true rfl)) dX4_sync_72 ⟨Nat.le_of_ble_eq_true rfl, Nat.le_of_ble_eq_true rfl⟩) hD hS hA (fun H locs hP hD hS => ?_)
      have hP : va_P D vwCl (cw a cA N f (kGive N f ob) tr (nGive f (nd.1, 0, nd.2.2.1, nd.2.2.2))) H := hP
      have hD : va_D A (cw a cA N f (kGive N f ob) tr (nGive f (nd.1, 0, nd.2.2.1, nd.2.2.2))) := hD
      rw [hQ]
      have hw9 : (cw a cA N f (kGive N f ob) tr (nGive f (nd.1, 0, nd.2.2.1, nd.2.2.2))) = (cw a cA N f (kSync N f ob nd) tr (nSync f nd)) := by first | (simp only [kSync, nSync, if_pos hc1, if_neg hc2, if_neg hc3, if_neg hc4, if_neg hc5]; done) | (simp only [kSync, nSync, if_pos hc1, if_neg hc2, if_neg hc3, if_neg hc4, if_neg hc5]; rfl)
      exact W.vret hx hb hr (fun t ht hW => ⟨rfl, by rw [ht, ← hw9]; exact hP, by rw [← hw9]; exact hD, hS.F ht⟩) hS.2.2 dX4_sync_75
    refine lv_aload_n hx hb dX4_sync_34 rfl (lv_at hl 1 rfl) ?_
    refine zb_cv (va_runV (As := []) (rest := []) ⟨hx, hb, hml, hown, htb⟩ (c_giveIfNew l D a cA N f ob tr nd _ hB hG ho) (cwV 0 htb (wb_V kM_X4_169 kI_X4_giveIfNew kS_X4_giveIfNew kN_X4 kD_X4_giveIfNew) rfl rfl rfl (by decide +kernel) ⟨Nat.le_of_ble_eq_true rfl, Nat.le_of_ble_eq_true rfl⟩) (zp_VW 0 rfl rfl hP hD hK hSt hS hA hnw) rfl rfl hl.1 rfl (lv_room (Nat.le_of_ble_eq_true rfl)) dX4_sync_35 ⟨Nat.le_of_ble_eq_true rfl, Nat.le_of_ble_eq_true rfl⟩) hD hS hA (fun H locs hP hD hS => ?_)
    have hP : va_P D vwCl (cw a cA N f (kNew N f ob nd) tr (nNew f nd)) H := hP
    have hD : va_D A (cw a cA N f (kNew N f ob nd) tr (nNew f nd)) := hD
    refine lv_goto (tgt := 75) hx hb dX4_sync_38 (by decide) ?_
    rw [hQ]
    have hw9 : (cw a cA N f (kNew N f ob nd) tr (nNew f nd)) = (cw a cA N f (kSync N f ob nd) tr (nSync f nd)) := by first | (simp only [kSync, nSync, if_pos hc1, if_neg hc2, if_pos hc3]; done) | (simp only [kSync, nSync, if_pos hc1, if_neg hc2, if_pos hc3]; rfl)
    exact W.vret hx hb hr (fun t ht hW => ⟨rfl, by rw [ht, ← hw9]; exact hP, by rw [← hw9]; exact hD, hS.F ht⟩) hS.2.2 dX4_sync_75
  rw [hQ]
  have hw9 : (cw a cA N f ob tr nd) = (cw a cA N f (kSync N f ob nd) tr (nSync f nd)) := by first | (simp only [kSync, nSync, if_pos hc1, if_pos hc2]; done) | (simp only [kSync, nSync, if_pos hc1, if_pos hc2]; rfl)
  exact W.vret hx hb hr (fun t ht hW => ⟨rfl, by rw [ht, ← hw9]; exact hP, by rw [← hw9]; exact hD, hS.F ht⟩) hS.2.2 dX4_sync_18
set_option maxHeartbeats 4000000 in
set_option maxRecDepth 100000 in
theorem c_take (l : Launch) (D : va_G) (a : Nat → Nat) (cA : ClassId) (N : Int32) (f : Nat → Int32) (ob : OB) (tr : TR) (nd : ND) (sz : Nat) (ln : Int32) (x : Nat) (hB : isB f) (hT : mapK f 3 6) (h8 : (mW 3 6 x f (cT f)).2 ≤ 8) (hx64 : x < 2 ^ 64) : Met l yX4_take (wX4_take :: wb) ({ frames := 3, cells := 0, slots := 0, locals := 74 } : Room) (va_Pc [.ref (a 0), .int ln, .long (lN x)] (zPre D [(cA, .int)] (cw a cA N f ob tr nd) sz)) (zb_Vv D vwCl (cw a cA N (fTake f nd ln x) ob tr nd) (va_A (cw a cA N f ob tr nd) sz)) 0 0 (va_A (cw a cA N f ob tr nd) sz) := by
  refine Met.ofW (cc := cX4_take) (maxL := 5) (ret := none) (by decide) rfl ?_
  intro p ev s m args below meth c s₁ B hml hv
  obtain ⟨rfl, hsz, hP, hK, hD0, hSt, hnw⟩ := hv
  have hx := B.exec
  have hb := B.bytes
  have hr := B.returns
  have hts := atoms_spec (ws := wX4_take :: wb) B.pre
  have htb : ∀ w ∈ wb, w.before ([.ref (a 0), .int ln, .long (lN x)]).toArray s = true := fun w h => hts w (List.mem_cons_of_mem _ h)
  have hown : s.vm.findClass RX4 = some m.cls := findClass_of_methodNamed B.named
  have hlocks := B.notSynchronized
  subst hsz
  have hD := hD0.self (sz := s.heap.size)
  clear hD0
  generalize hAe : va_A (cw a cA N f ob tr nd) s.heap.size = A at hD hSt ⊢
  have hA : ∀ q : Nat, s.heap.size ≤ q → A q := fun q h => by rw [← hAe]; exact Or.inr h
  have hS : va_S A s.heap s.heap [] := va_S.rf
  obtain ⟨⟨tt, ff, hZT, hTT, hZF, hTF⟩, hXS⟩ := id hSt
  have hl := lv_entry ([.ref (a 0), .int ln, .long (lN x)]) (n := 5) (Nat.le_of_ble_eq_true rfl)
  rw [lg_entry_eq]
  generalize (lg_sl ([.ref (a 0), .int ln, .long (lN x)]) ++ List.replicate (5 - (lg_sl ([.ref (a 0), .int ln, .long (lN x)])).length) Slot.unset).toArray = ls at hl ⊢
  have hl : lv_has ls 5 [(0, .ref (a 0)), (1, .int ln), (2, .long (lN x))] := hl
  refine zb_abs (fun Q hQ => ?_)
  refine lv_aload_n hx hb dX4_take_0 rfl (lv_at hl 0 rfl) ?_
  refine va_get (D := D) (ci := 4) (v := .int nd.1) (fs := [.int N, .ref (a 1), .ref (a 3), .ref (a 4), .ref (a 5), .ref (a 7), .int nd.1, .int nd.2.1, .int nd.2.2.1, .long nd.2.2.2]) (C := RX4) (T := TX4) (N := 10) hx hb htb inX4 hown hK hP 0 rfl rfl 6 (by decide) (htb _ kF_X4_79) (fun _ h9 => h9) rfl dX4_take_1 ?_
  refine lv_iconst (v := 5) hx hb dX4_take_4 (by decide) ?_
  refine lv_icmp_ne (tgt := 18) hx hb dX4_take_5 (by decide) (fun hc1 => ?_) (fun hc1 => ?_)
  · rw [hQ]
    have hw9 : (cw a cA N f ob tr nd) = (cw a cA N (fTake f nd ln x) ob tr nd) := by first | (simp only [fTake, if_neg hc1]; done) | (simp only [fTake, if_neg hc1]; rfl)
    exact W.vret hx hb hr (fun t ht hW => ⟨rfl, by rw [ht, ← hw9]; exact hP, by rw [← hw9]; exact hD, hS.F ht⟩) hS.2.2 dX4_take_18
  refine lv_aload_n hx hb dX4_take_8 rfl (lv_at hl 0 rfl) ?_
  refine va_get (D := D) (ci := 4) (v := .ref (a 3)) (fs := [.int N, .ref (a 1), .ref (a 3), .ref (a 4), .ref (a 5), .ref (a 7), .int nd.1, .int nd.2.1, .int nd.2.2.1, .long nd.2.2.2]) (C := RX4) (T := TX4) (N := 10) hx hb htb inX4 hown hK hP 0 rfl rfl 2 (by decide) (htb _ kF_X4_34) (fun _ h9 => h9) rfl dX4_take_9 ?_
  refine zb_ci (va_runV (As := []) (rest := []) ⟨hx, hb, hml, hown, htb⟩ (c_countT l D a cA N f ob tr nd (cT f) (bv_of hB _).2 hT.1) (cwV 0 htb (wb_V kM_X4_165 kI_X1_count kS_X1_count kN_X1 kD_X1_count) rfl rfl rfl (by decide +kernel) ⟨Nat.le_of_ble_eq_true rfl, Nat.le_of_ble_eq_true rfl⟩) (zp_V 3 rfl rfl hP hK hSt hS hnw) rfl rfl hl.1 rfl (lv_room (Nat.le_of_ble_eq_true rfl)) dX4_take_12 ⟨Nat.le_of_ble_eq_true rfl, Nat.le_of_ble_eq_true rfl⟩) ?_
  refine lv_if_ne (tgt := 19) hx hb dX4_take_15 (by decide) (fun hc2 => ?_) (fun hc2 => ?_)
  · refine lv_iload_n hx hb dX4_take_19 rfl (lv_at hl 1 rfl) ?_
    refine lv_aload_n hx hb dX4_take_20 rfl (lv_at hl 0 rfl) ?_
    refine va_get (D := D) (ci := 4) (v := .ref (a 3)) (fs := [.int N, .ref (a 1), .ref (a 3), .ref (a 4), .ref (a 5), .ref (a 7), .int nd.1, .int nd.2.1, .int nd.2.2.1, .long nd.2.2.2]) (C := RX4) (T := TX4) (N := 10) hx hb htb inX4 hown hK hP 0 rfl rfl 2 (by decide) (htb _ kF_X4_34) (fun _ h9 => h9) rfl dX4_take_21 ?_
    refine zb_ci (va_runV (As := []) (rest := [.int ln]) ⟨hx, hb, hml, hown, htb⟩ (c_lengthT l D a cA N f ob tr nd (cT f) (bv_of hB _).2 hT.1 hB) (cwV 0 htb (wb_V kM_X4_175 kI_X1_contentLength kS_X1_contentLength kN_X1 kD_X1_contentLength) rfl rfl rfl (by decide +kernel) ⟨Nat.le_of_ble_eq_true rfl, Nat.le_of_ble_eq_true rfl⟩) (zp_V 3 rfl rfl hP hK hSt hS hnw) rfl rfl hl.1 rfl (lv_room (Nat.le_of_ble_eq_true rfl)) dX4_take_24 ⟨Nat.le_of_ble_eq_true rfl, Nat.le_of_ble_eq_true rfl⟩) ?_
    refine lv_icmp_lt (tgt := 41) hx hb dX4_take_27 (by decide) (fun hc3 => ?_) (fun hc3 => ?_)
    · refine lv_aload_n hx hb dX4_take_41 rfl (lv_at hl 0 rfl) ?_
      refine va_get (D := D) (ci := 4) (v := .ref (a 1)) (fs := [.int N, .ref (a 1), .ref (a 3), .ref (a 4), .ref (a 5), .ref (a 7), .int nd.1, .int nd.2.1, .int nd.2.2.1, .long nd.2.2.2]) (C := RX4) (T := TX4) (N := 10) hx hb htb inX4 hown hK hP 0 rfl rfl 1 (by decide) (htb _ kF_X4_25) (fun _ h9 => h9) rfl dX4_take_42 ?_
      refine lv_iconst (v := 1) hx hb dX4_take_45 (by decide) ?_
      refine lv_iconst (v := 0) hx hb dX4_take_46 (by decide) ?_
      refine zb_ci (va_runV (As := [.int 1, .int 0]) (rest := []) ⟨hx, hb, hml, hown, htb⟩ (c_byteAt l D a cA N f ob tr nd 1 0 (by decide) (by decide)) (cwV 2 htb (wb_V kM_X4_118 kI_X0_byteAt kS_X0_byteAt kN_X0 kD_X0_byteAt) rfl rfl rfl (by decide +kernel) ⟨Nat.le_of_ble_eq_true rfl, Nat.le_of_ble_eq_true rfl⟩) (zp_V 1 rfl rfl hP hK hSt hS hnw) rfl rfl hl.1 rfl (lv_room (Nat.le_of_ble_eq_true rfl)) dX4_take_47 ⟨Nat.le_of_ble_eq_true rfl, Nat.le_of_ble_eq_true rfl⟩) ?_
      refine zb_ti (y := nI (bv f 4)) ((bv_of hB _).2) ?_
      refine lv_istore hx hb dX4_take_50 hl (by decide) rfl (fun ls hl => ?_)
      have hl : lv_has ls 5 [(4, .int (nI (bv f 4))), (0, .ref (a 0)), (1, .int ln), (2, .long (lN x))] := hl
      refine lv_aload_n hx hb dX4_take_52 rfl (lv_at hl 1 rfl) ?_
      refine va_get (D := D) (ci := 4) (v := .ref (a 1)) (fs := [.int N, .ref (a 1), .ref (a 3), .ref (a 4), .ref (a 5), .ref (a 7), .int nd.1, .int nd.2.1, .int nd.2.2.1, .long nd.2.2.2]) (C := RX4) (T := TX4) (N := 10) hx hb htb inX4 hown hK hP 0 rfl rfl 1 (by decide) (htb _ kF_X4_25) (fun _ h9 => h9) rfl dX4_take_53 ?_
      refine lv_iconst (v := 1) hx hb dX4_take_56 (by decide) ?_
      refine lv_iload hx hb dX4_take_57 (lv_at hl 0 rfl) ?_
      refine lv_bipush (v := 16) hx hb dX4_take_59 (by decide) ?_
      refine lv_ior hx hb dX4_take_61 ?_
      refine zb_ti (y := nI (bv f 4 ||| 16)) (nI_or _ _) ?_
      refine lv_i2l hx hb dX4_take_62 rfl ?_
      refine zb_tl (y := lN (bv f 4 ||| 16)) (nI_l (by have := or16 (bv_of hB 4).1; omega)) ?_
      refine zb_cv (va_runV (As := [.int 1, .long (lN (bv f 4 ||| 16))]) (rest := []) ⟨hx, hb, hml, hown, htb⟩ (c_put l D a cA N f ob tr nd _ 1 (bv f 4 ||| 16) (by decide) (by decide) (by have := or16 (bv_of hB 4).1; omega)) (cwV 2 htb (wb_V kM_X4_115 kI_X0_put kS_X0_put kN_X0 kD_X0_put) rfl rfl rfl (by decide +kernel) ⟨Nat.le_of_ble_eq_true rfl, Nat.le_of_ble_eq_true rfl⟩) (zp_VW 1 rfl rfl hP hD hK hSt hS hA hnw) rfl rfl hl.1 rfl (lv_room (Nat.le_of_ble_eq_true rfl)) dX4_take_63 ⟨Nat.le_of_ble_eq_true rfl, Nat.le_of_ble_eq_true rfl⟩) hD hS hA (fun H locs hP hD hS => ?_)
      have hP : va_P D vwCl (cw a cA N (pF f (xP 1) (xZ 1) (bv f 4 ||| 16) 0) ob tr nd) H := hP
      have hD : va_D A (cw a cA N (pF f (xP 1) (xZ 1) (bv f 4 ||| 16) 0) ob tr nd) := hD
      rw [hQ]
      have hw9 : (cw a cA N (pF f (xP 1) (xZ 1) (bv f 4 ||| 16) 0) ob tr nd) = (cw a cA N (fTake f nd ln x) ob tr nd) := by first | (simp only [fTake, if_pos hc1, if_neg hc2, if_pos hc3]; done) | (simp only [fTake, if_pos hc1, if_neg hc2, if_pos hc3]; rfl)
      exact W.vret hx hb hr (fun t ht hW => ⟨rfl, by rw [ht, ← hw9]; exact hP, by rw [← hw9]; exact hD, hS.F ht⟩) hS.2.2 dX4_take_66
    refine lv_aload_n hx hb dX4_take_30 rfl (lv_at hl 0 rfl) ?_
    refine va_get (D := D) (ci := 4) (v := .ref (a 3)) (fs := [.int N, .ref (a 1), .ref (a 3), .ref (a 4), .ref (a 5), .ref (a 7), .int nd.1, .int nd.2.1, .int nd.2.2.1, .long nd.2.2.2]) (C := RX4) (T := TX4) (N := 10) hx hb htb inX4 hown hK hP 0 rfl rfl 2 (by decide) (htb _ kF_X4_34) (fun _ h9 => h9) rfl dX4_take_31 ?_
    refine lv_lload_n hx hb dX4_take_34 rfl (lv_at hl 2 rfl) ?_
    refine zb_cv (va_runV (As := [.long (lN x)]) (rest := []) ⟨hx, hb, hml, hown, htb⟩ (c_spread l D a cA N f ob tr nd _ (cT f) x (bv_of hB _).2 hT.1 hB h8 hx64) (cwV 1 htb (wb_V kM_X4_178 kI_X1_spread kS_X1_spread kN_X1 kD_X1_spread) rfl rfl rfl (by decide +kernel) ⟨Nat.le_of_ble_eq_true rfl, Nat.le_of_ble_eq_true rfl⟩) (zp_VW 3 rfl rfl hP hD hK hSt hS hA hnw) rfl rfl hl.1 rfl (lv_room (Nat.le_of_ble_eq_true rfl)) dX4_take_35 ⟨Nat.le_of_ble_eq_true rfl, Nat.le_of_ble_eq_true rfl⟩) hD hS hA (fun H locs hP hD hS => ?_)
    have hP : va_P D vwCl (cw a cA N ((mW 3 6 x f (cT f)).1) ob tr nd) H := hP
    have hD : va_D A (cw a cA N ((mW 3 6 x f (cT f)).1) ob tr nd) := hD
    refine lv_goto (tgt := 66) hx hb dX4_take_38 (by decide) ?_
    rw [hQ]
    have hw9 : (cw a cA N ((mW 3 6 x f (cT f)).1) ob tr nd) = (cw a cA N (fTake f nd ln x) ob tr nd) := by first | (simp only [fTake, if_pos hc1, if_neg hc2, if_neg hc3]; done) | (simp only [fTake, if_pos hc1, if_neg hc2, if_neg hc3]; rfl)
    exact W.vret hx hb hr (fun t ht hW => ⟨rfl, by rw [ht, ← hw9]; exact hP, by rw [← hw9]; exact hD, hS.F ht⟩) hS.2.2 dX4_take_66
  rw [hQ]
  have hw9 : (cw a cA N f ob tr nd) = (cw a cA N (fTake f nd ln x) ob tr nd) := by first | (simp only [fTake, if_pos hc1, if_pos hc2]; done) | (simp only [fTake, if_pos hc1, if_pos hc2]; rfl)
  exact W.vret hx hb hr (fun t ht hW => ⟨rfl, by rw [ht, ← hw9]; exact hP, by rw [← hw9]; exact hD, hS.F ht⟩) hS.2.2 dX4_take_18
