theorem owT1 : ∀ e, e < 22 → 3 ≤ e → e ≤ 7 → (if nI e < 3 then (0 : Int32) else if 7 < nI e then 0 else 1) = 1 := by decide +kernel
theorem owT0 : ∀ e, e < 22 → (e < 3 ∨ 7 < e) → (if nI e < 3 then (0 : Int32) else if 7 < nI e then 0 else 1) = 0 := by decide +kernel
theorem owG1 : ∀ e, e < 22 → 9 ≤ e → e ≤ 13 → (if nI e < 9 then (0 : Int32) else if 13 < nI e then 0 else 1) = 1 := by decide +kernel
theorem owG0 : ∀ e, e < 22 → (e < 9 ∨ 13 < e) → (if nI e < 9 then (0 : Int32) else if 13 < nI e then 0 else 1) = 0 := by decide +kernel
set_option maxHeartbeats 4000000 in
set_option maxRecDepth 100000 in
theorem c_cmdOn (l : Launch) (D : va_G) (a : Nat → Nat) (cA : ClassId) (N : Int32) (f : Nat → Int32) (ob : OB) (tr : TR) (nd : ND) (sz : Nat) (wh wo : Nat) (hB : isB f) (hG : mapK f 9 5) (ho : obK ob) (hwh : wh < 256) (hon : nI wo = 0 ∨ nI wo = N) : Met l yX4_command (wX4_command :: wb) ({ frames := 4, cells := 0, slots := 0, locals := 95 } : Room) (va_Pc [.ref (a 0), .int (nI wh), .int (nI wo)] (zPre D [(cA, .int)] (cw a cA N f ob tr nd) sz)) (zb_Vv D vwCl (c4 a cA N (kCmd N f ob tr nd wh)) (va_A (cw a cA N f ob tr nd) sz)) 0 0 (va_A (cw a cA N f ob tr nd) sz) := by
  refine Met.ofW (cc := cX4_command) (maxL := 3) (ret := none) (by decide) rfl ?_
  intro p ev s m args below meth c s₁ B hml hv
  obtain ⟨rfl, hsz, hP, hK, hD0, hSt, hnw⟩ := hv
  have hx := B.exec
  have hb := B.bytes
  have hr := B.returns
  have hts := atoms_spec (ws := wX4_command :: wb) B.pre
  have htb : ∀ w ∈ wb, w.before ([.ref (a 0), .int (nI wh), .int (nI wo)]).toArray s = true := fun w h => hts w (List.mem_cons_of_mem _ h)
  have hown : s.vm.findClass RX4 = some m.cls := findClass_of_methodNamed B.named
  have hlocks := B.notSynchronized
  subst hsz
  have hD := hD0.self (sz := s.heap.size)
  clear hD0
  generalize hAe : va_A (cw a cA N f ob tr nd) s.heap.size = A at hD hSt ⊢
  have hA : ∀ q : Nat, s.heap.size ≤ q → A q := fun q h => by rw [← hAe]; exact Or.inr h
  have hS : va_S A s.heap s.heap [] := va_S.rf
  obtain ⟨⟨tt, ff, hZT, hTT, hZF, hTF⟩, hXS⟩ := id hSt
  have hl := lv_entry ([.ref (a 0), .int (nI wh), .int (nI wo)]) (n := 3) (Nat.le_of_ble_eq_true rfl)
  rw [lg_entry_eq]
  generalize (lg_sl ([.ref (a 0), .int (nI wh), .int (nI wo)]) ++ List.replicate (3 - (lg_sl ([.ref (a 0), .int (nI wh), .int (nI wo)])).length) Slot.unset).toArray = ls at hl ⊢
  have hl : lv_has ls 3 [(0, .ref (a 0)), (1, .int (nI wh)), (2, .int (nI wo))] := hl
  refine zb_abs (fun Q hQ => ?_)
  refine lv_iload_n hx hb dX4_command_0 rfl (lv_at hl 2 rfl) ?_
  refine lv_if_eq (tgt := 13) hx hb dX4_command_1 (by decide) (fun hc1 => ?_) (fun hc1 => ?_)
  · refine lv_iload_n hx hb dX4_command_13 rfl (lv_at hl 1 rfl) ?_
    by_cases hc2 : wh = 1
    · refine lv_lookup (off := 50) (tgt := 64) hx hb dX4_command_14 (by decide) (by rw [hc2]; decide) (by decide) ?_
      refine lv_aload_n hx hb dX4_command_64 rfl (lv_at hl 0 rfl) ?_
      refine zb_cv (va_runV (As := []) (rest := []) ⟨hx, hb, hml, hown, htb⟩ (c_run l D a cA N f ob tr nd _ hB hG) (cwV 0 htb (wb_V kM_X4_148 kI_X4_run kS_X4_run kN_X4 kD_X4_run) rfl rfl rfl (by decide +kernel) ⟨Nat.le_of_ble_eq_true rfl, Nat.le_of_ble_eq_true rfl⟩) (zp_VW 0 rfl rfl hP hD hK hSt hS hA hnw) rfl rfl hl.1 rfl (lv_room (Nat.le_of_ble_eq_true rfl)) dX4_command_65 ⟨Nat.le_of_ble_eq_true rfl, Nat.le_of_ble_eq_true rfl⟩) hD hS hA (fun H locs hP hD hS => ?_)
      have hP : va_P D vwCl (cw a cA N f ob tr (nRun f nd)) H := hP
      have hD : va_D A (cw a cA N f ob tr (nRun f nd)) := hD
      refine lv_goto (tgt := 123) hx hb dX4_command_68 (by decide) ?_
      rw [hQ]
      have hw9 : (cw a cA N f ob tr (nRun f nd)) = (c4 a cA N (kCmd N f ob tr nd wh)) := by rw [hc2]; rfl
      exact W.vret hx hb hr (fun t ht hW => ⟨rfl, by rw [ht, ← hw9]; exact hP, by rw [← hw9]; exact hD, hS.F ht⟩) hS.2.2 dX4_command_123
    by_cases hc3 : wh = 2
    · refine lv_lookup (off := 57) (tgt := 71) hx hb dX4_command_14 (by decide) (by rw [hc3]; decide) (by decide) ?_
      refine lv_aload_n hx hb dX4_command_71 rfl (lv_at hl 0 rfl) ?_
      refine lv_iconst (v := 4) hx hb dX4_command_72 (by decide) ?_
      refine va_put (D := D) (ci := 4) (v := .int 4) (fs := [.int N, .ref (a 1), .ref (a 3), .ref (a 4), .ref (a 5), .ref (a 7), .int nd.1, .int nd.2.1, .int nd.2.2.1, .long nd.2.2.2]) (ty := .int) (C := RX4) (T := TX4) (N := 10) hx hb htb inX4 tyX4 tyX4_ok nmX4 hown hK hP hD hS 0 rfl rfl 6 (by decide) (htb _ kF_X4_79) (fun _ h9 => h9) rfl (by decide +kernel) rfl rfl (Nat.le_of_ble_eq_true rfl) dX4_command_73 (fun H locs hP hD hS => ?_)
      have hP : va_P D vwCl (cw a cA N f ob tr (4, nd.2.1, nd.2.2.1, nd.2.2.2)) H := hP
      have hD : va_D A (cw a cA N f ob tr (4, nd.2.1, nd.2.2.1, nd.2.2.2)) := hD
      refine lv_aload_n hx hb dX4_command_76 rfl (lv_at hl 0 rfl) ?_
      refine va_get (D := D) (ci := 4) (v := .ref (a 7)) (fs := [.int N, .ref (a 1), .ref (a 3), .ref (a 4), .ref (a 5), .ref (a 7), .int 4, .int nd.2.1, .int nd.2.2.1, .long nd.2.2.2]) (C := RX4) (T := TX4) (N := 10) hx hb htb inX4 hown hK hP 0 rfl rfl 5 (by decide) (htb _ kF_X4_51) (fun _ h9 => h9) rfl dX4_command_77 ?_
      refine zb_cv (va_runV (As := []) (rest := []) ⟨hx, hb, hml, hown, htb⟩ (c_trEnd l D a cA N f ob tr (4, nd.2.1, nd.2.2.1, nd.2.2.2) _ ) (cwV 0 htb (wb_V kM_X4_132 kI_X3_end kS_X3_end kN_X3 kD_X3_end) rfl rfl rfl (by decide +kernel) ⟨Nat.le_of_ble_eq_true rfl, Nat.le_of_ble_eq_true rfl⟩) (zp_VW 7 rfl rfl hP hD hK hSt hS hA hnw) rfl rfl hl.1 rfl (lv_room (Nat.le_of_ble_eq_true rfl)) dX4_command_80 ⟨Nat.le_of_ble_eq_true rfl, Nat.le_of_ble_eq_true rfl⟩) hD hS hA (fun H locs hP hD hS => ?_)
      have hP : va_P D vwCl (cw a cA N f ob (tr_end tr) (4, nd.2.1, nd.2.2.1, nd.2.2.2)) H := hP
      have hD : va_D A (cw a cA N f ob (tr_end tr) (4, nd.2.1, nd.2.2.1, nd.2.2.2)) := hD
      refine lv_goto (tgt := 123) hx hb dX4_command_83 (by decide) ?_
      rw [hQ]
      have hw9 : (cw a cA N f ob (tr_end tr) (4, nd.2.1, nd.2.2.1, nd.2.2.2)) = (c4 a cA N (kCmd N f ob tr nd wh)) := by rw [hc3]; rfl
      exact W.vret hx hb hr (fun t ht hW => ⟨rfl, by rw [ht, ← hw9]; exact hP, by rw [← hw9]; exact hD, hS.F ht⟩) hS.2.2 dX4_command_123
    by_cases hc4 : wh = 128
    · refine lv_lookup (off := 72) (tgt := 86) hx hb dX4_command_14 (by decide) (by rw [hc4]; decide) (by decide) ?_
      refine lv_aload_n hx hb dX4_command_86 rfl (lv_at hl 0 rfl) ?_
      refine lv_bipush (v := 127) hx hb dX4_command_87 (by decide) ?_
      refine va_put (D := D) (ci := 4) (v := .int 127) (fs := [.int N, .ref (a 1), .ref (a 3), .ref (a 4), .ref (a 5), .ref (a 7), .int nd.1, .int nd.2.1, .int nd.2.2.1, .long nd.2.2.2]) (ty := .int) (C := RX4) (T := TX4) (N := 10) hx hb htb inX4 tyX4 tyX4_ok nmX4 hown hK hP hD hS 0 rfl rfl 6 (by decide) (htb _ kF_X4_79) (fun _ h9 => h9) rfl (by decide +kernel) rfl rfl (Nat.le_of_ble_eq_true rfl) dX4_command_89 (fun H locs hP hD hS => ?_)
      have hP : va_P D vwCl (cw a cA N f ob tr (127, nd.2.1, nd.2.2.1, nd.2.2.2)) H := hP
      have hD : va_D A (cw a cA N f ob tr (127, nd.2.1, nd.2.2.1, nd.2.2.2)) := hD
      refine lv_goto (tgt := 123) hx hb dX4_command_92 (by decide) ?_
      rw [hQ]
      have hw9 : (cw a cA N f ob tr (127, nd.2.1, nd.2.2.1, nd.2.2.2)) = (c4 a cA N (kCmd N f ob tr nd wh)) := by rw [hc4]; rfl
      exact W.vret hx hb hr (fun t ht hW => ⟨rfl, by rw [ht, ← hw9]; exact hP, by rw [← hw9]; exact hD, hS.F ht⟩) hS.2.2 dX4_command_123
    by_cases hc5 : wh = 129
    · refine lv_lookup (off := 81) (tgt := 95) hx hb dX4_command_14 (by decide) (by rw [hc5]; decide) (by decide) ?_
      refine lv_aload_n hx hb dX4_command_95 rfl (lv_at hl 0 rfl) ?_
      refine va_get (D := D) (ci := 4) (v := .ref (a 1)) (fs := [.int N, .ref (a 1), .ref (a 3), .ref (a 4), .ref (a 5), .ref (a 7), .int nd.1, .int nd.2.1, .int nd.2.2.1, .long nd.2.2.2]) (C := RX4) (T := TX4) (N := 10) hx hb htb inX4 hown hK hP 0 rfl rfl 1 (by decide) (htb _ kF_X4_25) (fun _ h9 => h9) rfl dX4_command_96 ?_
      refine zb_cv (va_runV (As := []) (rest := []) ⟨hx, hb, hml, hown, htb⟩ (c_resetAll l D a cA N f ob tr nd _) (cwV 0 htb (wb_V kM_X4_151 kI_X0_resetAll kS_X0_resetAll kN_X0 kD_X0_resetAll) rfl rfl rfl (by decide +kernel) ⟨Nat.le_of_ble_eq_true rfl, Nat.le_of_ble_eq_true rfl⟩) (zp_VW 1 rfl rfl hP hD hK hSt hS hA hnw) rfl rfl hl.1 rfl (lv_room (Nat.le_of_ble_eq_true rfl)) dX4_command_99 ⟨Nat.le_of_ble_eq_true rfl, Nat.le_of_ble_eq_true rfl⟩) hD hS hA (fun H locs hP hD hS => ?_)
      have hP : va_P D vwCl (cw a cA N (va_cpy tF f 0 0 95) ob tr nd) H := hP
      have hD : va_D A (cw a cA N (va_cpy tF f 0 0 95) ob tr nd) := hD
      refine lv_aload_n hx hb dX4_command_102 rfl (lv_at hl 0 rfl) ?_
      refine zb_cv (va_runV (As := []) (rest := []) ⟨hx, hb, hml, hown, htb⟩ (c_boot l D a cA N (va_cpy tF f 0 0 95) ob tr nd _ ho) (cwV 0 htb (wb_V kM_X4_55 kI_X4_boot kS_X4_boot kN_X4 kD_X4_boot) rfl rfl rfl (by decide +kernel) ⟨Nat.le_of_ble_eq_true rfl, Nat.le_of_ble_eq_true rfl⟩) (zp_VW 0 rfl rfl hP hD hK hSt hS hA hnw) rfl rfl hl.1 rfl (lv_room (Nat.le_of_ble_eq_true rfl)) dX4_command_103 ⟨Nat.le_of_ble_eq_true rfl, Nat.le_of_ble_eq_true rfl⟩) hD hS hA (fun H locs hP hD hS => ?_)
      have hP : va_P D vwCl (cw a cA N (va_cpy tF f 0 0 95) (kBoot N ob) (tr_end tr) (nBoot nd)) H := hP
      have hD : va_D A (cw a cA N (va_cpy tF f 0 0 95) (kBoot N ob) (tr_end tr) (nBoot nd)) := hD
      refine lv_goto (tgt := 123) hx hb dX4_command_106 (by decide) ?_
      rw [hQ]
      have hw9 : (cw a cA N (va_cpy tF f 0 0 95) (kBoot N ob) (tr_end tr) (nBoot nd)) = (c4 a cA N (kCmd N f ob tr nd wh)) := by rw [hc5]; rfl
      exact W.vret hx hb hr (fun t ht hW => ⟨rfl, by rw [ht, ← hw9]; exact hP, by rw [← hw9]; exact hD, hS.F ht⟩) hS.2.2 dX4_command_123
    by_cases hc6 : wh = 130
    · refine lv_lookup (off := 95) (tgt := 109) hx hb dX4_command_14 (by decide) (by rw [hc6]; decide) (by decide) ?_
      refine lv_aload_n hx hb dX4_command_109 rfl (lv_at hl 0 rfl) ?_
      refine va_get (D := D) (ci := 4) (v := .ref (a 1)) (fs := [.int N, .ref (a 1), .ref (a 3), .ref (a 4), .ref (a 5), .ref (a 7), .int nd.1, .int nd.2.1, .int nd.2.2.1, .long nd.2.2.2]) (C := RX4) (T := TX4) (N := 10) hx hb htb inX4 hown hK hP 0 rfl rfl 1 (by decide) (htb _ kF_X4_25) (fun _ h9 => h9) rfl dX4_command_110 ?_
      refine zb_cv (va_runV (As := []) (rest := []) ⟨hx, hb, hml, hown, htb⟩ (c_resetOwn l D a cA N f ob tr nd _) (cwV 0 htb (wb_V kM_X4_154 kI_X0_resetOwn kS_X0_resetOwn kN_X0 kD_X0_resetOwn) rfl rfl rfl (by decide +kernel) ⟨Nat.le_of_ble_eq_true rfl, Nat.le_of_ble_eq_true rfl⟩) (zp_VW 1 rfl rfl hP hD hK hSt hS hA hnw) rfl rfl hl.1 rfl (lv_room (Nat.le_of_ble_eq_true rfl)) dX4_command_113 ⟨Nat.le_of_ble_eq_true rfl, Nat.le_of_ble_eq_true rfl⟩) hD hS hA (fun H locs hP hD hS => ?_)
      have hP : va_P D vwCl (cw a cA N (va_cpy tF f 0 0 42) ob tr nd) H := hP
      have hD : va_D A (cw a cA N (va_cpy tF f 0 0 42) ob tr nd) := hD
      refine lv_aload_n hx hb dX4_command_116 rfl (lv_at hl 0 rfl) ?_
      refine zb_cv (va_runV (As := []) (rest := []) ⟨hx, hb, hml, hown, htb⟩ (c_boot l D a cA N (va_cpy tF f 0 0 42) ob tr nd _ ho) (cwV 0 htb (wb_V kM_X4_55 kI_X4_boot kS_X4_boot kN_X4 kD_X4_boot) rfl rfl rfl (by decide +kernel) ⟨Nat.le_of_ble_eq_true rfl, Nat.le_of_ble_eq_true rfl⟩) (zp_VW 0 rfl rfl hP hD hK hSt hS hA hnw) rfl rfl hl.1 rfl (lv_room (Nat.le_of_ble_eq_true rfl)) dX4_command_117 ⟨Nat.le_of_ble_eq_true rfl, Nat.le_of_ble_eq_true rfl⟩) hD hS hA (fun H locs hP hD hS => ?_)
      have hP : va_P D vwCl (cw a cA N (va_cpy tF f 0 0 42) (kBoot N ob) (tr_end tr) (nBoot nd)) H := hP
      have hD : va_D A (cw a cA N (va_cpy tF f 0 0 42) (kBoot N ob) (tr_end tr) (nBoot nd)) := hD
      refine lv_goto (tgt := 123) hx hb dX4_command_120 (by decide) ?_
      rw [hQ]
      have hw9 : (cw a cA N (va_cpy tF f 0 0 42) (kBoot N ob) (tr_end tr) (nBoot nd)) = (c4 a cA N (kCmd N f ob tr nd wh)) := by rw [hc6]; rfl
      exact W.vret hx hb hr (fun t ht hW => ⟨rfl, by rw [ht, ← hw9]; exact hP, by rw [← hw9]; exact hD, hS.F ht⟩) hS.2.2 dX4_command_123
    refine lv_lookup (off := 109) (tgt := 123) hx hb dX4_command_14 (by decide) (by show Op.lookupswitch.offset [(1, 50), (2, 57), (128, 72), (129, 81), (130, 95)] 109 _ = _; rw [lv_osw (a := 1) (k := 1) (fun h => hc2 ((nI_eq (b := 1) (by omega) (by decide)).mp h)) rfl, lv_osw (a := 2) (k := 2) (fun h => hc3 ((nI_eq (b := 2) (by omega) (by decide)).mp h)) rfl, lv_osw (a := 128) (k := 128) (fun h => hc4 ((nI_eq (b := 128) (by omega) (by decide)).mp h)) rfl, lv_osw (a := 129) (k := 129) (fun h => hc5 ((nI_eq (b := 129) (by omega) (by decide)).mp h)) rfl, lv_osw (a := 130) (k := 130) (fun h => hc6 ((nI_eq (b := 130) (by omega) (by decide)).mp h)) rfl]; rfl) (by decide) ?_
    rw [hQ]
    have hw9 : (cw a cA N f ob tr nd) = (c4 a cA N (kCmd N f ob tr nd wh)) := by simp only [kCmd, if_neg hc2, if_neg hc3, if_neg hc4, if_neg hc5, if_neg hc6]; rfl
    exact W.vret hx hb hr (fun t ht hW => ⟨rfl, by rw [ht, ← hw9]; exact hP, by rw [← hw9]; exact hD, hS.F ht⟩) hS.2.2 dX4_command_123
  refine lv_iload_n hx hb dX4_command_4 rfl (lv_at hl 2 rfl) ?_
  refine lv_aload_n hx hb dX4_command_5 rfl (lv_at hl 0 rfl) ?_
  refine va_get (D := D) (ci := 4) (v := .int N) (fs := [.int N, .ref (a 1), .ref (a 3), .ref (a 4), .ref (a 5), .ref (a 7), .int nd.1, .int nd.2.1, .int nd.2.2.1, .long nd.2.2.2]) (C := RX4) (T := TX4) (N := 10) hx hb htb inX4 hown hK hP 0 rfl rfl 0 (by decide) (htb _ kF_X4_16) (fun _ h9 => h9) rfl dX4_command_6 ?_
  refine lv_icmp_eq (tgt := 13) hx hb dX4_command_9 (by decide) (fun _ => ?_) (fun hno => absurd (hon.resolve_left hc1) hno)
  refine lv_iload_n hx hb dX4_command_13 rfl (lv_at hl 1 rfl) ?_
  by_cases hc7 : wh = 1
  · refine lv_lookup (off := 50) (tgt := 64) hx hb dX4_command_14 (by decide) (by rw [hc7]; decide) (by decide) ?_
    refine lv_aload_n hx hb dX4_command_64 rfl (lv_at hl 0 rfl) ?_
    refine zb_cv (va_runV (As := []) (rest := []) ⟨hx, hb, hml, hown, htb⟩ (c_run l D a cA N f ob tr nd _ hB hG) (cwV 0 htb (wb_V kM_X4_148 kI_X4_run kS_X4_run kN_X4 kD_X4_run) rfl rfl rfl (by decide +kernel) ⟨Nat.le_of_ble_eq_true rfl, Nat.le_of_ble_eq_true rfl⟩) (zp_VW 0 rfl rfl hP hD hK hSt hS hA hnw) rfl rfl hl.1 rfl (lv_room (Nat.le_of_ble_eq_true rfl)) dX4_command_65 ⟨Nat.le_of_ble_eq_true rfl, Nat.le_of_ble_eq_true rfl⟩) hD hS hA (fun H locs hP hD hS => ?_)
    have hP : va_P D vwCl (cw a cA N f ob tr (nRun f nd)) H := hP
    have hD : va_D A (cw a cA N f ob tr (nRun f nd)) := hD
    refine lv_goto (tgt := 123) hx hb dX4_command_68 (by decide) ?_
    rw [hQ]
    have hw9 : (cw a cA N f ob tr (nRun f nd)) = (c4 a cA N (kCmd N f ob tr nd wh)) := by rw [hc7]; rfl
    exact W.vret hx hb hr (fun t ht hW => ⟨rfl, by rw [ht, ← hw9]; exact hP, by rw [← hw9]; exact hD, hS.F ht⟩) hS.2.2 dX4_command_123
  by_cases hc8 : wh = 2
  · refine lv_lookup (off := 57) (tgt := 71) hx hb dX4_command_14 (by decide) (by rw [hc8]; decide) (by decide) ?_
    refine lv_aload_n hx hb dX4_command_71 rfl (lv_at hl 0 rfl) ?_
    refine lv_iconst (v := 4) hx hb dX4_command_72 (by decide) ?_
    refine va_put (D := D) (ci := 4) (v := .int 4) (fs := [.int N, .ref (a 1), .ref (a 3), .ref (a 4), .ref (a 5), .ref (a 7), .int nd.1, .int nd.2.1, .int nd.2.2.1, .long nd.2.2.2]) (ty := .int) (C := RX4) (T := TX4) (N := 10) hx hb htb inX4 tyX4 tyX4_ok nmX4 hown hK hP hD hS 0 rfl rfl 6 (by decide) (htb _ kF_X4_79) (fun _ h9 => h9) rfl (by decide +kernel) rfl rfl (Nat.le_of_ble_eq_true rfl) dX4_command_73 (fun H locs hP hD hS => ?_)
    have hP : va_P D vwCl (cw a cA N f ob tr (4, nd.2.1, nd.2.2.1, nd.2.2.2)) H := hP
    have hD : va_D A (cw a cA N f ob tr (4, nd.2.1, nd.2.2.1, nd.2.2.2)) := hD
    refine lv_aload_n hx hb dX4_command_76 rfl (lv_at hl 0 rfl) ?_
    refine va_get (D := D) (ci := 4) (v := .ref (a 7)) (fs := [.int N, .ref (a 1), .ref (a 3), .ref (a 4), .ref (a 5), .ref (a 7), .int 4, .int nd.2.1, .int nd.2.2.1, .long nd.2.2.2]) (C := RX4) (T := TX4) (N := 10) hx hb htb inX4 hown hK hP 0 rfl rfl 5 (by decide) (htb _ kF_X4_51) (fun _ h9 => h9) rfl dX4_command_77 ?_
    refine zb_cv (va_runV (As := []) (rest := []) ⟨hx, hb, hml, hown, htb⟩ (c_trEnd l D a cA N f ob tr (4, nd.2.1, nd.2.2.1, nd.2.2.2) _ ) (cwV 0 htb (wb_V kM_X4_132 kI_X3_end kS_X3_end kN_X3 kD_X3_end) rfl rfl rfl (by decide +kernel) ⟨Nat.le_of_ble_eq_true rfl, Nat.le_of_ble_eq_true rfl⟩) (zp_VW 7 rfl rfl hP hD hK hSt hS hA hnw) rfl rfl hl.1 rfl (lv_room (Nat.le_of_ble_eq_true rfl)) dX4_command_80 ⟨Nat.le_of_ble_eq_true rfl, Nat.le_of_ble_eq_true rfl⟩) hD hS hA (fun H locs hP hD hS => ?_)
    have hP : va_P D vwCl (cw a cA N f ob (tr_end tr) (4, nd.2.1, nd.2.2.1, nd.2.2.2)) H := hP
    have hD : va_D A (cw a cA N f ob (tr_end tr) (4, nd.2.1, nd.2.2.1, nd.2.2.2)) := hD
    refine lv_goto (tgt := 123) hx hb dX4_command_83 (by decide) ?_
    rw [hQ]
    have hw9 : (cw a cA N f ob (tr_end tr) (4, nd.2.1, nd.2.2.1, nd.2.2.2)) = (c4 a cA N (kCmd N f ob tr nd wh)) := by rw [hc8]; rfl
    exact W.vret hx hb hr (fun t ht hW => ⟨rfl, by rw [ht, ← hw9]; exact hP, by rw [← hw9]; exact hD, hS.F ht⟩) hS.2.2 dX4_command_123
  by_cases hc9 : wh = 128
  · refine lv_lookup (off := 72) (tgt := 86) hx hb dX4_command_14 (by decide) (by rw [hc9]; decide) (by decide) ?_
    refine lv_aload_n hx hb dX4_command_86 rfl (lv_at hl 0 rfl) ?_
    refine lv_bipush (v := 127) hx hb dX4_command_87 (by decide) ?_
    refine va_put (D := D) (ci := 4) (v := .int 127) (fs := [.int N, .ref (a 1), .ref (a 3), .ref (a 4), .ref (a 5), .ref (a 7), .int nd.1, .int nd.2.1, .int nd.2.2.1, .long nd.2.2.2]) (ty := .int) (C := RX4) (T := TX4) (N := 10) hx hb htb inX4 tyX4 tyX4_ok nmX4 hown hK hP hD hS 0 rfl rfl 6 (by decide) (htb _ kF_X4_79) (fun _ h9 => h9) rfl (by decide +kernel) rfl rfl (Nat.le_of_ble_eq_true rfl) dX4_command_89 (fun H locs hP hD hS => ?_)
    have hP : va_P D vwCl (cw a cA N f ob tr (127, nd.2.1, nd.2.2.1, nd.2.2.2)) H := hP
    have hD : va_D A (cw a cA N f ob tr (127, nd.2.1, nd.2.2.1, nd.2.2.2)) := hD
    refine lv_goto (tgt := 123) hx hb dX4_command_92 (by decide) ?_
    rw [hQ]
    have hw9 : (cw a cA N f ob tr (127, nd.2.1, nd.2.2.1, nd.2.2.2)) = (c4 a cA N (kCmd N f ob tr nd wh)) := by rw [hc9]; rfl
    exact W.vret hx hb hr (fun t ht hW => ⟨rfl, by rw [ht, ← hw9]; exact hP, by rw [← hw9]; exact hD, hS.F ht⟩) hS.2.2 dX4_command_123
  by_cases hc10 : wh = 129
  · refine lv_lookup (off := 81) (tgt := 95) hx hb dX4_command_14 (by decide) (by rw [hc10]; decide) (by decide) ?_
    refine lv_aload_n hx hb dX4_command_95 rfl (lv_at hl 0 rfl) ?_
    refine va_get (D := D) (ci := 4) (v := .ref (a 1)) (fs := [.int N, .ref (a 1), .ref (a 3), .ref (a 4), .ref (a 5), .ref (a 7), .int nd.1, .int nd.2.1, .int nd.2.2.1, .long nd.2.2.2]) (C := RX4) (T := TX4) (N := 10) hx hb htb inX4 hown hK hP 0 rfl rfl 1 (by decide) (htb _ kF_X4_25) (fun _ h9 => h9) rfl dX4_command_96 ?_
    refine zb_cv (va_runV (As := []) (rest := []) ⟨hx, hb, hml, hown, htb⟩ (c_resetAll l D a cA N f ob tr nd _) (cwV 0 htb (wb_V kM_X4_151 kI_X0_resetAll kS_X0_resetAll kN_X0 kD_X0_resetAll) rfl rfl rfl (by decide +kernel) ⟨Nat.le_of_ble_eq_true rfl, Nat.le_of_ble_eq_true rfl⟩) (zp_VW 1 rfl rfl hP hD hK hSt hS hA hnw) rfl rfl hl.1 rfl (lv_room (Nat.le_of_ble_eq_true rfl)) dX4_command_99 ⟨Nat.le_of_ble_eq_true rfl, Nat.le_of_ble_eq_true rfl⟩) hD hS hA (fun H locs hP hD hS => ?_)
    have hP : va_P D vwCl (cw a cA N (va_cpy tF f 0 0 95) ob tr nd) H := hP
    have hD : va_D A (cw a cA N (va_cpy tF f 0 0 95) ob tr nd) := hD
    refine lv_aload_n hx hb dX4_command_102 rfl (lv_at hl 0 rfl) ?_
    refine zb_cv (va_runV (As := []) (rest := []) ⟨hx, hb, hml, hown, htb⟩ (c_boot l D a cA N (va_cpy tF f 0 0 95) ob tr nd _ ho) (cwV 0 htb (wb_V kM_X4_55 kI_X4_boot kS_X4_boot kN_X4 kD_X4_boot) rfl rfl rfl (by decide +kernel) ⟨Nat.le_of_ble_eq_true rfl, Nat.le_of_ble_eq_true rfl⟩) (zp_VW 0 rfl rfl hP hD hK hSt hS hA hnw) rfl rfl hl.1 rfl (lv_room (Nat.le_of_ble_eq_true rfl)) dX4_command_103 ⟨Nat.le_of_ble_eq_true rfl, Nat.le_of_ble_eq_true rfl⟩) hD hS hA (fun H locs hP hD hS => ?_)
    have hP : va_P D vwCl (cw a cA N (va_cpy tF f 0 0 95) (kBoot N ob) (tr_end tr) (nBoot nd)) H := hP
    have hD : va_D A (cw a cA N (va_cpy tF f 0 0 95) (kBoot N ob) (tr_end tr) (nBoot nd)) := hD
    refine lv_goto (tgt := 123) hx hb dX4_command_106 (by decide) ?_
    rw [hQ]
    have hw9 : (cw a cA N (va_cpy tF f 0 0 95) (kBoot N ob) (tr_end tr) (nBoot nd)) = (c4 a cA N (kCmd N f ob tr nd wh)) := by rw [hc10]; rfl
    exact W.vret hx hb hr (fun t ht hW => ⟨rfl, by rw [ht, ← hw9]; exact hP, by rw [← hw9]; exact hD, hS.F ht⟩) hS.2.2 dX4_command_123
  by_cases hc11 : wh = 130
  · refine lv_lookup (off := 95) (tgt := 109) hx hb dX4_command_14 (by decide) (by rw [hc11]; decide) (by decide) ?_
    refine lv_aload_n hx hb dX4_command_109 rfl (lv_at hl 0 rfl) ?_
    refine va_get (D := D) (ci := 4) (v := .ref (a 1)) (fs := [.int N, .ref (a 1), .ref (a 3), .ref (a 4), .ref (a 5), .ref (a 7), .int nd.1, .int nd.2.1, .int nd.2.2.1, .long nd.2.2.2]) (C := RX4) (T := TX4) (N := 10) hx hb htb inX4 hown hK hP 0 rfl rfl 1 (by decide) (htb _ kF_X4_25) (fun _ h9 => h9) rfl dX4_command_110 ?_
    refine zb_cv (va_runV (As := []) (rest := []) ⟨hx, hb, hml, hown, htb⟩ (c_resetOwn l D a cA N f ob tr nd _) (cwV 0 htb (wb_V kM_X4_154 kI_X0_resetOwn kS_X0_resetOwn kN_X0 kD_X0_resetOwn) rfl rfl rfl (by decide +kernel) ⟨Nat.le_of_ble_eq_true rfl, Nat.le_of_ble_eq_true rfl⟩) (zp_VW 1 rfl rfl hP hD hK hSt hS hA hnw) rfl rfl hl.1 rfl (lv_room (Nat.le_of_ble_eq_true rfl)) dX4_command_113 ⟨Nat.le_of_ble_eq_true rfl, Nat.le_of_ble_eq_true rfl⟩) hD hS hA (fun H locs hP hD hS => ?_)
    have hP : va_P D vwCl (cw a cA N (va_cpy tF f 0 0 42) ob tr nd) H := hP
    have hD : va_D A (cw a cA N (va_cpy tF f 0 0 42) ob tr nd) := hD
    refine lv_aload_n hx hb dX4_command_116 rfl (lv_at hl 0 rfl) ?_
    refine zb_cv (va_runV (As := []) (rest := []) ⟨hx, hb, hml, hown, htb⟩ (c_boot l D a cA N (va_cpy tF f 0 0 42) ob tr nd _ ho) (cwV 0 htb (wb_V kM_X4_55 kI_X4_boot kS_X4_boot kN_X4 kD_X4_boot) rfl rfl rfl (by decide +kernel) ⟨Nat.le_of_ble_eq_true rfl, Nat.le_of_ble_eq_true rfl⟩) (zp_VW 0 rfl rfl hP hD hK hSt hS hA hnw) rfl rfl hl.1 rfl (lv_room (Nat.le_of_ble_eq_true rfl)) dX4_command_117 ⟨Nat.le_of_ble_eq_true rfl, Nat.le_of_ble_eq_true rfl⟩) hD hS hA (fun H locs hP hD hS => ?_)
    have hP : va_P D vwCl (cw a cA N (va_cpy tF f 0 0 42) (kBoot N ob) (tr_end tr) (nBoot nd)) H := hP
    have hD : va_D A (cw a cA N (va_cpy tF f 0 0 42) (kBoot N ob) (tr_end tr) (nBoot nd)) := hD
    refine lv_goto (tgt := 123) hx hb dX4_command_120 (by decide) ?_
    rw [hQ]
    have hw9 : (cw a cA N (va_cpy tF f 0 0 42) (kBoot N ob) (tr_end tr) (nBoot nd)) = (c4 a cA N (kCmd N f ob tr nd wh)) := by rw [hc11]; rfl
    exact W.vret hx hb hr (fun t ht hW => ⟨rfl, by rw [ht, ← hw9]; exact hP, by rw [← hw9]; exact hD, hS.F ht⟩) hS.2.2 dX4_command_123
  refine lv_lookup (off := 109) (tgt := 123) hx hb dX4_command_14 (by decide) (by show Op.lookupswitch.offset [(1, 50), (2, 57), (128, 72), (129, 81), (130, 95)] 109 _ = _; rw [lv_osw (a := 1) (k := 1) (fun h => hc7 ((nI_eq (b := 1) (by omega) (by decide)).mp h)) rfl, lv_osw (a := 2) (k := 2) (fun h => hc8 ((nI_eq (b := 2) (by omega) (by decide)).mp h)) rfl, lv_osw (a := 128) (k := 128) (fun h => hc9 ((nI_eq (b := 128) (by omega) (by decide)).mp h)) rfl, lv_osw (a := 129) (k := 129) (fun h => hc10 ((nI_eq (b := 129) (by omega) (by decide)).mp h)) rfl, lv_osw (a := 130) (k := 130) (fun h => hc11 ((nI_eq (b := 130) (by omega) (by decide)).mp h)) rfl]; rfl) (by decide) ?_
  rw [hQ]
  have hw9 : (cw a cA N f ob tr nd) = (c4 a cA N (kCmd N f ob tr nd wh)) := by simp only [kCmd, if_neg hc7, if_neg hc8, if_neg hc9, if_neg hc10, if_neg hc11]; rfl
  exact W.vret hx hb hr (fun t ht hW => ⟨rfl, by rw [ht, ← hw9]; exact hP, by rw [← hw9]; exact hD, hS.F ht⟩) hS.2.2 dX4_command_123
set_option maxHeartbeats 4000000 in
set_option maxRecDepth 100000 in
theorem c_cmdOff (l : Launch) (D : va_G) (a : Nat → Nat) (cA : ClassId) (N : Int32) (f : Nat → Int32) (ob : OB) (tr : TR) (nd : ND) (sz : Nat) (wh wo : Nat) (hof : ¬ (nI wo = 0 ∨ nI wo = N)) : Met l yX4_command (wX4_command :: wb) ({ frames := 4, cells := 0, slots := 0, locals := 95 } : Room) (va_Pc [.ref (a 0), .int (nI wh), .int (nI wo)] (zPre D [(cA, .int)] (cw a cA N f ob tr nd) sz)) (zb_Vv D vwCl (cw a cA N f ob tr nd) (va_A (cw a cA N f ob tr nd) sz)) 0 0 (va_A (cw a cA N f ob tr nd) sz) := by
  refine Met.ofW (cc := cX4_command) (maxL := 3) (ret := none) (by decide) rfl ?_
  intro p ev s m args below meth c s₁ B hml hv
  obtain ⟨rfl, hsz, hP, hK, hD0, hSt, hnw⟩ := hv
  have hx := B.exec
  have hb := B.bytes
  have hr := B.returns
  have hts := atoms_spec (ws := wX4_command :: wb) B.pre
  have htb : ∀ w ∈ wb, w.before ([.ref (a 0), .int (nI wh), .int (nI wo)]).toArray s = true := fun w h => hts w (List.mem_cons_of_mem _ h)
  have hown : s.vm.findClass RX4 = some m.cls := findClass_of_methodNamed B.named
  have hlocks := B.notSynchronized
  subst hsz
  have hD := hD0.self (sz := s.heap.size)
  clear hD0
  generalize hAe : va_A (cw a cA N f ob tr nd) s.heap.size = A at hD hSt ⊢
  have hA : ∀ q : Nat, s.heap.size ≤ q → A q := fun q h => by rw [← hAe]; exact Or.inr h
  have hS : va_S A s.heap s.heap [] := va_S.rf
  obtain ⟨⟨tt, ff, hZT, hTT, hZF, hTF⟩, hXS⟩ := id hSt
  have hl := lv_entry ([.ref (a 0), .int (nI wh), .int (nI wo)]) (n := 3) (Nat.le_of_ble_eq_true rfl)
  rw [lg_entry_eq]
  generalize (lg_sl ([.ref (a 0), .int (nI wh), .int (nI wo)]) ++ List.replicate (3 - (lg_sl ([.ref (a 0), .int (nI wh), .int (nI wo)])).length) Slot.unset).toArray = ls at hl ⊢
  have hl : lv_has ls 3 [(0, .ref (a 0)), (1, .int (nI wh)), (2, .int (nI wo))] := hl
  refine zb_abs (fun Q hQ => ?_)
  refine lv_iload_n hx hb dX4_command_0 rfl (lv_at hl 2 rfl) ?_
  refine lv_if_eq (tgt := 13) hx hb dX4_command_1 (by decide) (fun hno => absurd hno (fun h => hof (Or.inl h))) (fun _ => ?_)
  refine lv_iload_n hx hb dX4_command_4 rfl (lv_at hl 2 rfl) ?_
  refine lv_aload_n hx hb dX4_command_5 rfl (lv_at hl 0 rfl) ?_
  refine va_get (D := D) (ci := 4) (v := .int N) (fs := [.int N, .ref (a 1), .ref (a 3), .ref (a 4), .ref (a 5), .ref (a 7), .int nd.1, .int nd.2.1, .int nd.2.2.1, .long nd.2.2.2]) (C := RX4) (T := TX4) (N := 10) hx hb htb inX4 hown hK hP 0 rfl rfl 0 (by decide) (htb _ kF_X4_16) (fun _ h9 => h9) rfl dX4_command_6 ?_
  refine lv_icmp_eq (tgt := 13) hx hb dX4_command_9 (by decide) (fun hno => absurd hno (fun h => hof (Or.inr h))) (fun _ => ?_)
  rw [hQ]
  have hw9 : (cw a cA N f ob tr nd) = (cw a cA N f ob tr nd) := rfl
  exact W.vret hx hb hr (fun t ht hW => ⟨rfl, by rw [ht, ← hw9]; exact hP, by rw [← hw9]; exact hD, hS.F ht⟩) hS.2.2 dX4_command_12
set_option maxHeartbeats 4000000 in
set_option maxRecDepth 100000 in
theorem c_answer (l : Launch) (D : va_G) (a : Nat → Nat) (cA : ClassId) (N : Int32) (f : Nat → Int32) (ob : OB) (tr : TR) (nd : ND) (sz : Nat) (fi ad hg : Nat) (ho : obK ob) (hfi : fi < 256) (had : ad < 2 ^ 24) (hhg : hg < 2 ^ 32) : Met l yX4_answer (wX4_answer :: wb) ({ frames := 1, cells := 0, slots := 0, locals := 25 } : Room) (va_Pc [.ref (a 0), .int (nI fi), .int (nI ad), .int (nI hg)] (zPre D [(cA, .int)] (cw a cA N f ob tr nd) sz)) (zb_Vv D vwCl (cw a cA N f (kAns N ob fi ad hg) tr nd) (va_A (cw a cA N f ob tr nd) sz)) 0 0 (va_A (cw a cA N f ob tr nd) sz) := by
  refine Met.ofW (cc := cX4_answer) (maxL := 4) (ret := none) (by decide) rfl ?_
  intro p ev s m args below meth c s₁ B hml hv
  obtain ⟨rfl, hsz, hP, hK, hD0, hSt, hnw⟩ := hv
  have hx := B.exec
  have hb := B.bytes
  have hr := B.returns
  have hts := atoms_spec (ws := wX4_answer :: wb) B.pre
  have htb : ∀ w ∈ wb, w.before ([.ref (a 0), .int (nI fi), .int (nI ad), .int (nI hg)]).toArray s = true := fun w h => hts w (List.mem_cons_of_mem _ h)
  have hown : s.vm.findClass RX4 = some m.cls := findClass_of_methodNamed B.named
  have hlocks := B.notSynchronized
  subst hsz
  have hD := hD0.self (sz := s.heap.size)
  clear hD0
  generalize hAe : va_A (cw a cA N f ob tr nd) s.heap.size = A at hD hSt ⊢
  have hA : ∀ q : Nat, s.heap.size ≤ q → A q := fun q h => by rw [← hAe]; exact Or.inr h
  have hS : va_S A s.heap s.heap [] := va_S.rf
  obtain ⟨⟨tt, ff, hZT, hTT, hZF, hTF⟩, hXS⟩ := id hSt
  have hl := lv_entry ([.ref (a 0), .int (nI fi), .int (nI ad), .int (nI hg)]) (n := 4) (Nat.le_of_ble_eq_true rfl)
  rw [lg_entry_eq]
  generalize (lg_sl ([.ref (a 0), .int (nI fi), .int (nI ad), .int (nI hg)]) ++ List.replicate (4 - (lg_sl ([.ref (a 0), .int (nI fi), .int (nI ad), .int (nI hg)])).length) Slot.unset).toArray = ls at hl ⊢
  have hl : lv_has ls 4 [(0, .ref (a 0)), (1, .int (nI fi)), (2, .int (nI ad)), (3, .int (nI hg))] := hl
  refine zb_abs (fun Q hQ => ?_)
  obtain ⟨kp, hkp32, hkp⟩ := ho
  refine lv_aload_n hx hb dX4_answer_0 rfl (lv_at hl 0 rfl) ?_
  refine va_get (D := D) (ci := 4) (v := .ref (a 5)) (fs := [.int N, .ref (a 1), .ref (a 3), .ref (a 4), .ref (a 5), .ref (a 7), .int nd.1, .int nd.2.1, .int nd.2.2.1, .long nd.2.2.2]) (C := RX4) (T := TX4) (N := 10) hx hb htb inX4 hown hK hP 0 rfl rfl 4 (by decide) (htb _ kF_X4_44) (fun _ h9 => h9) rfl dX4_answer_1 ?_
  refine lv_sipush (v := 1408) hx hb dX4_answer_4 (by decide) ?_
  refine lv_aload_n hx hb dX4_answer_7 rfl (lv_at hl 0 rfl) ?_
  refine va_get (D := D) (ci := 4) (v := .int N) (fs := [.int N, .ref (a 1), .ref (a 3), .ref (a 4), .ref (a 5), .ref (a 7), .int nd.1, .int nd.2.1, .int nd.2.2.1, .long nd.2.2.2]) (C := RX4) (T := TX4) (N := 10) hx hb htb inX4 hown hK hP 0 rfl rfl 0 (by decide) (htb _ kF_X4_16) (fun _ h9 => h9) rfl dX4_answer_8 ?_
  refine lv_iadd hx hb dX4_answer_11 ?_
  refine lv_bipush (v := 8) hx hb dX4_answer_12 (by decide) ?_
  refine lv_iload_n hx hb dX4_answer_14 rfl (lv_at hl 2 rfl) ?_
  refine lv_bipush (v := 8) hx hb dX4_answer_15 (by decide) ?_
  refine lv_ishl hx hb dX4_answer_17 ?_
  refine lv_iload_n hx hb dX4_answer_18 rfl (lv_at hl 1 rfl) ?_
  refine lv_ior hx hb dX4_answer_19 ?_
  refine zb_ti (y := nI (ad * 256 + fi)) (lo8 had hfi) ?_
  refine lv_iload_n hx hb dX4_answer_20 rfl (lv_at hl 3 rfl) ?_
  refine zb_cl (va_runS (As := [.int (nI (ad * 256 + fi)), .int (nI hg)]) (rest := [.int 8, .int (1408 + N), .ref (a 5)]) ⟨hx, hb, hml, hown, htb⟩ (c_joined l D a cA N f ob tr nd (ad * 256 + fi) hg (by omega) hhg) (va_cwS 2 htb (wb_S kM_X4_71 kZ_X4_joined kN_X4 kD_X4_joined) rfl rfl rfl (by decide +kernel) ⟨Nat.le_of_ble_eq_true rfl, Nat.le_of_ble_eq_true rfl⟩) (zp_S hP hK hSt hS hnw) rfl rfl hl.1 rfl (lv_room (Nat.le_of_ble_eq_true rfl)) dX4_answer_21 ⟨Nat.le_of_ble_eq_true rfl, Nat.le_of_ble_eq_true rfl⟩) ?_
  refine zb_tl (y := lN (anX fi ad hg)) (rfl) ?_
  refine zb_cv (va_runV (As := [.int (1408 + N), .int 8, .long (lN (anX fi ad hg))]) (rest := []) ⟨hx, hb, hml, hown, htb⟩ (c_send l D a cA N f ob tr nd _ kp (1408 + N) 8 (anX fi ad hg) hkp hkp32 (by unfold anX; omega)) (cwV 3 htb (wb_V kM_X4_141 kI_X2_send kS_X2_send kN_X2 kD_X2_send) rfl rfl rfl (by decide +kernel) ⟨Nat.le_of_ble_eq_true rfl, Nat.le_of_ble_eq_true rfl⟩) (zp_VW 5 rfl rfl hP hD hK hSt hS hA hnw) rfl rfl hl.1 rfl (lv_room (Nat.le_of_ble_eq_true rfl)) dX4_answer_24 ⟨Nat.le_of_ble_eq_true rfl, Nat.le_of_ble_eq_true rfl⟩) hD hS hA (fun H locs hP hD hS => ?_)
  have hP : va_P D vwCl (cw a cA N f (ob_send ob (1408 + N) 8 (anX fi ad hg)) tr nd) H := hP
  have hD : va_D A (cw a cA N f (ob_send ob (1408 + N) 8 (anX fi ad hg)) tr nd) := hD
  rw [hQ]
  have hw9 : (cw a cA N f (ob_send ob (1408 + N) 8 (anX fi ad hg)) tr nd) = (cw a cA N f (kAns N ob fi ad hg) tr nd) := rfl
  exact W.vret hx hb hr (fun t ht hW => ⟨rfl, by rw [ht, ← hw9]; exact hP, by rw [← hw9]; exact hD, hS.F ht⟩) hS.2.2 dX4_answer_27
set_option maxHeartbeats 4000000 in
set_option maxRecDepth 100000 in
theorem c_abort (l : Launch) (D : va_G) (a : Nat → Nat) (cA : ClassId) (N : Int32) (f : Nat → Int32) (ob : OB) (tr : TR) (nd : ND) (sz : Nat) (ad cd : Nat) (ho : obK ob) (had : ad < 2 ^ 24) (hcd : cd < 2 ^ 32) : Met l yX4_abort (wX4_abort :: wb) ({ frames := 2, cells := 0, slots := 0, locals := 48 } : Room) (va_Pc [.ref (a 0), .int (nI ad), .int (nI cd)] (zPre D [(cA, .int)] (cw a cA N f ob tr nd) sz)) (zb_Vv D vwCl (cw a cA N f (kAns N ob 128 ad cd) (tr_end tr) nd) (va_A (cw a cA N f ob tr nd) sz)) 0 0 (va_A (cw a cA N f ob tr nd) sz) := by
  refine Met.ofW (cc := cX4_abort) (maxL := 3) (ret := none) (by decide) rfl ?_
  intro p ev s m args below meth c s₁ B hml hv
  obtain ⟨rfl, hsz, hP, hK, hD0, hSt, hnw⟩ := hv
  have hx := B.exec
  have hb := B.bytes
  have hr := B.returns
  have hts := atoms_spec (ws := wX4_abort :: wb) B.pre
  have htb : ∀ w ∈ wb, w.before ([.ref (a 0), .int (nI ad), .int (nI cd)]).toArray s = true := fun w h => hts w (List.mem_cons_of_mem _ h)
  have hown : s.vm.findClass RX4 = some m.cls := findClass_of_methodNamed B.named
  have hlocks := B.notSynchronized
  subst hsz
  have hD := hD0.self (sz := s.heap.size)
  clear hD0
  generalize hAe : va_A (cw a cA N f ob tr nd) s.heap.size = A at hD hSt ⊢
  have hA : ∀ q : Nat, s.heap.size ≤ q → A q := fun q h => by rw [← hAe]; exact Or.inr h
  have hS : va_S A s.heap s.heap [] := va_S.rf
  obtain ⟨⟨tt, ff, hZT, hTT, hZF, hTF⟩, hXS⟩ := id hSt
  have hl := lv_entry ([.ref (a 0), .int (nI ad), .int (nI cd)]) (n := 3) (Nat.le_of_ble_eq_true rfl)
  rw [lg_entry_eq]
  generalize (lg_sl ([.ref (a 0), .int (nI ad), .int (nI cd)]) ++ List.replicate (3 - (lg_sl ([.ref (a 0), .int (nI ad), .int (nI cd)])).length) Slot.unset).toArray = ls at hl ⊢
  have hl : lv_has ls 3 [(0, .ref (a 0)), (1, .int (nI ad)), (2, .int (nI cd))] := hl
  refine zb_abs (fun Q hQ => ?_)
  refine lv_aload_n hx hb dX4_abort_0 rfl (lv_at hl 0 rfl) ?_
  refine va_get (D := D) (ci := 4) (v := .ref (a 7)) (fs := [.int N, .ref (a 1), .ref (a 3), .ref (a 4), .ref (a 5), .ref (a 7), .int nd.1, .int nd.2.1, .int nd.2.2.1, .long nd.2.2.2]) (C := RX4) (T := TX4) (N := 10) hx hb htb inX4 hown hK hP 0 rfl rfl 5 (by decide) (htb _ kF_X4_51) (fun _ h9 => h9) rfl dX4_abort_1 ?_
  refine zb_cv (va_runV (As := []) (rest := []) ⟨hx, hb, hml, hown, htb⟩ (c_trEnd l D a cA N f ob tr nd _ ) (cwV 0 htb (wb_V kM_X4_132 kI_X3_end kS_X3_end kN_X3 kD_X3_end) rfl rfl rfl (by decide +kernel) ⟨Nat.le_of_ble_eq_true rfl, Nat.le_of_ble_eq_true rfl⟩) (zp_VW 7 rfl rfl hP hD hK hSt hS hA hnw) rfl rfl hl.1 rfl (lv_room (Nat.le_of_ble_eq_true rfl)) dX4_abort_4 ⟨Nat.le_of_ble_eq_true rfl, Nat.le_of_ble_eq_true rfl⟩) hD hS hA (fun H locs hP hD hS => ?_)
  have hP : va_P D vwCl (cw a cA N f ob (tr_end tr) nd) H := hP
  have hD : va_D A (cw a cA N f ob (tr_end tr) nd) := hD
  refine lv_aload_n hx hb dX4_abort_7 rfl (lv_at hl 0 rfl) ?_
  refine lv_sipush (v := 128) hx hb dX4_abort_8 (by decide) ?_
  refine lv_iload_n hx hb dX4_abort_11 rfl (lv_at hl 1 rfl) ?_
  refine lv_iload_n hx hb dX4_abort_12 rfl (lv_at hl 2 rfl) ?_
  refine zb_cv (va_runV (As := [.int 128, .int (nI ad), .int (nI cd)]) (rest := []) ⟨hx, hb, hml, hown, htb⟩ (c_answer l D a cA N f ob (tr_end tr) nd _ 128 ad cd ho (by decide) had hcd) (cwV 3 htb (wb_V kM_X4_223 kI_X4_answer kS_X4_answer kN_X4 kD_X4_answer) rfl rfl rfl (by decide +kernel) ⟨Nat.le_of_ble_eq_true rfl, Nat.le_of_ble_eq_true rfl⟩) (zp_VW 0 rfl rfl hP hD hK hSt hS hA hnw) rfl rfl hl.1 rfl (lv_room (Nat.le_of_ble_eq_true rfl)) dX4_abort_13 ⟨Nat.le_of_ble_eq_true rfl, Nat.le_of_ble_eq_true rfl⟩) hD hS hA (fun H locs hP hD hS => ?_)
  have hP : va_P D vwCl (cw a cA N f (kAns N ob 128 ad cd) (tr_end tr) nd) H := hP
  have hD : va_D A (cw a cA N f (kAns N ob 128 ad cd) (tr_end tr) nd) := hD
  rw [hQ]
  have hw9 : (cw a cA N f (kAns N ob 128 ad cd) (tr_end tr) nd) = (cw a cA N f (kAns N ob 128 ad cd) (tr_end tr) nd) := rfl
  exact W.vret hx hb hr (fun t ht hW => ⟨rfl, by rw [ht, ← hw9]; exact hP, by rw [← hw9]; exact hD, hS.F ht⟩) hS.2.2 dX4_abort_16
set_option maxHeartbeats 4000000 in
set_option maxRecDepth 100000 in
theorem c_entryAt (l : Launch) (D : va_G) (a : Nat → Nat) (cA : ClassId) (N : Int32) (f : Nat → Int32) (ob : OB) (tr : TR) (nd : ND) (ad : Nat) (had : ad < 2 ^ 24) : Met l yX4_entryAt (wX4_entryAt :: wb) ({ frames := 1, cells := 0, slots := 0, locals := 24 } : Room) (va_Pc [.ref (a 0), .int (nI ad)] (zPu D [(cA, .int)] (cw a cA N f ob tr nd))) (zb_I (oI (eAt ad))) 0 0 (fun _ => False) := by
  refine Met.ofW (cc := cX4_entryAt) (maxL := 2) (ret := (some .int)) (by decide) rfl ?_
  intro p ev s m args below meth c s₁ B hml hv
  obtain ⟨rfl, hP, hK, hSt, hnw⟩ := hv
  have hx := B.exec
  have hb := B.bytes
  have hr := B.returns
  have hts := atoms_spec (ws := wX4_entryAt :: wb) B.pre
  have htb : ∀ w ∈ wb, w.before ([.ref (a 0), .int (nI ad)]).toArray s = true := fun w h => hts w (List.mem_cons_of_mem _ h)
  have hown : s.vm.findClass RX4 = some m.cls := findClass_of_methodNamed B.named
  have hlocks := B.notSynchronized
  have hS : va_S (fun _ => False) s.heap s.heap [] := va_S.rf
  obtain ⟨⟨tt, ff, hZT, hTT, hZF, hTF⟩, hXS⟩ := id hSt
  have hl := lv_entry ([.ref (a 0), .int (nI ad)]) (n := 2) (Nat.le_of_ble_eq_true rfl)
  rw [lg_entry_eq]
  generalize (lg_sl ([.ref (a 0), .int (nI ad)]) ++ List.replicate (2 - (lg_sl ([.ref (a 0), .int (nI ad)])).length) Slot.unset).toArray = ls at hl ⊢
  have hl : lv_has ls 2 [(0, .ref (a 0)), (1, .int (nI ad))] := hl
  refine zb_abs (fun Q hQ => ?_)
  refine lv_aload_n hx hb dX4_entryAt_0 rfl (lv_at hl 0 rfl) ?_
  refine va_get (D := D) (ci := 4) (v := .ref (a 1)) (fs := [.int N, .ref (a 1), .ref (a 3), .ref (a 4), .ref (a 5), .ref (a 7), .int nd.1, .int nd.2.1, .int nd.2.2.1, .long nd.2.2.2]) (C := RX4) (T := TX4) (N := 10) hx hb htb inX4 hown hK hP 0 rfl rfl 1 (by decide) (htb _ kF_X4_25) (fun _ h9 => h9) rfl dX4_entryAt_1 ?_
  refine lv_iload_n hx hb dX4_entryAt_4 rfl (lv_at hl 1 rfl) ?_
  refine lv_ldc (v := 65535) hx hb hown (htb _ kK_X4_244) dX4_entryAt_5 ?_
  refine lv_iand hx hb dX4_entryAt_7 ?_
  refine zb_ti (y := nI (ad % 65536)) (ix16 had) ?_
  refine lv_iload_n hx hb dX4_entryAt_8 rfl (lv_at hl 1 rfl) ?_
  refine lv_bipush (v := 16) hx hb dX4_entryAt_9 (by decide) ?_
  refine lv_ishr hx hb dX4_entryAt_11 ?_
  refine zb_ti (y := nI (ad / 65536)) (sb16 had) ?_
  refine zb_ci (va_runV (As := [.int (nI (ad % 65536)), .int (nI (ad / 65536))]) (rest := []) ⟨hx, hb, hml, hown, htb⟩ (c_find l D a cA N f ob tr nd (nI (ad % 65536)) (nI (ad / 65536))) (cwV 2 htb (wb_V kM_X4_105 kI_X0_find kS_X0_find kN_X0 kD_X0_find) rfl rfl rfl (by decide +kernel) ⟨Nat.le_of_ble_eq_true rfl, Nat.le_of_ble_eq_true rfl⟩) (zp_V 1 rfl rfl hP hK hSt hS hnw) rfl rfl hl.1 rfl (lv_room (Nat.le_of_ble_eq_true rfl)) dX4_entryAt_12 ⟨Nat.le_of_ble_eq_true rfl, Nat.le_of_ble_eq_true rfl⟩) ?_
  rw [hQ]
  exact W.iret (v := oI (fd (nI (ad % 65536)) (nI (ad / 65536)))) hx hb hr (fun t ht hW => ⟨congrArg (fun z => Outcome.returned (some (Value.int z))) (rfl), ht⟩) (fun q h => nomatch h) dX4_entryAt_15
set_option maxHeartbeats 4000000 in
set_option maxRecDepth 100000 in
theorem c_accN (l : Launch) (D : va_G) (a : Nat → Nat) (cA : ClassId) (N : Int32) (f : Nat → Int32) (ob : OB) (tr : TR) (nd : ND) (ad : Nat) (r : Int32) (had : ad < 2 ^ 24) : Met l yX4_accessFault (wX4_accessFault :: wb) ({ frames := 1, cells := 0, slots := 0, locals := 22 } : Room) (va_Pc [.ref (a 0), .int (-1), .int (nI ad), .int r] (zPu D [(cA, .int)] (cw a cA N f ob tr nd))) (zb_I (nI (aX ad))) 0 0 (fun _ => False) := by
  refine Met.ofW (cc := cX4_accessFault) (maxL := 4) (ret := (some .int)) (by decide) rfl ?_
  intro p ev s m args below meth c s₁ B hml hv
  obtain ⟨rfl, hP, hK, hSt, hnw⟩ := hv
  have hx := B.exec
  have hb := B.bytes
  have hr := B.returns
  have hts := atoms_spec (ws := wX4_accessFault :: wb) B.pre
  have htb : ∀ w ∈ wb, w.before ([.ref (a 0), .int (-1), .int (nI ad), .int r]).toArray s = true := fun w h => hts w (List.mem_cons_of_mem _ h)
  have hown : s.vm.findClass RX4 = some m.cls := findClass_of_methodNamed B.named
  have hlocks := B.notSynchronized
  have hS : va_S (fun _ => False) s.heap s.heap [] := va_S.rf
  obtain ⟨⟨tt, ff, hZT, hTT, hZF, hTF⟩, hXS⟩ := id hSt
  have hl := lv_entry ([.ref (a 0), .int (-1), .int (nI ad), .int r]) (n := 4) (Nat.le_of_ble_eq_true rfl)
  rw [lg_entry_eq]
  generalize (lg_sl ([.ref (a 0), .int (-1), .int (nI ad), .int r]) ++ List.replicate (4 - (lg_sl ([.ref (a 0), .int (-1), .int (nI ad), .int r])).length) Slot.unset).toArray = ls at hl ⊢
  have hl : lv_has ls 4 [(0, .ref (a 0)), (1, .int (-1)), (2, .int (nI ad)), (3, .int r)] := hl
  refine zb_abs (fun Q hQ => ?_)
  refine lv_iload_n hx hb dX4_accessFault_0 rfl (lv_at hl 1 rfl) ?_
  refine lv_iconst (v := (-1)) hx hb dX4_accessFault_1 (by decide) ?_
  refine lv_icmp_ne (tgt := 27) hx hb dX4_accessFault_2 (by decide) (fun hno => absurd (by decide) hno) (fun _ => ?_)
  refine lv_aload_n hx hb dX4_accessFault_5 rfl (lv_at hl 0 rfl) ?_
  refine va_get (D := D) (ci := 4) (v := .ref (a 1)) (fs := [.int N, .ref (a 1), .ref (a 3), .ref (a 4), .ref (a 5), .ref (a 7), .int nd.1, .int nd.2.1, .int nd.2.2.1, .long nd.2.2.2]) (C := RX4) (T := TX4) (N := 10) hx hb htb inX4 hown hK hP 0 rfl rfl 1 (by decide) (htb _ kF_X4_25) (fun _ h9 => h9) rfl dX4_accessFault_6 ?_
  refine lv_iload_n hx hb dX4_accessFault_9 rfl (lv_at hl 2 rfl) ?_
  refine lv_ldc (v := 65535) hx hb hown (htb _ kK_X4_244) dX4_accessFault_10 ?_
  refine lv_iand hx hb dX4_accessFault_12 ?_
  refine zb_ti (y := nI (ad % 65536)) (ix16 had) ?_
  refine zb_ci (va_runV (As := [.int (nI (ad % 65536))]) (rest := []) ⟨hx, hb, hml, hown, htb⟩ (c_hasIndex l D a cA N f ob tr nd (nI (ad % 65536))) (cwV 1 htb (wb_V kM_X4_245 kI_X0_hasIndex kS_X0_hasIndex kN_X0 kD_X0_hasIndex) rfl rfl rfl (by decide +kernel) ⟨Nat.le_of_ble_eq_true rfl, Nat.le_of_ble_eq_true rfl⟩) (zp_V 1 rfl rfl hP hK hSt hS hnw) rfl rfl hl.1 rfl (lv_room (Nat.le_of_ble_eq_true rfl)) dX4_accessFault_13 ⟨Nat.le_of_ble_eq_true rfl, Nat.le_of_ble_eq_true rfl⟩) ?_
  by_cases hc1 : hi (nI (ad % 65536)) = true
  · refine zb_ti (y := 1) (if_pos hc1) ?_
    refine lv_if_eq (tgt := 24) hx hb dX4_accessFault_16 (by decide) (fun hno => absurd hno (by decide)) (fun _ => ?_)
    refine lv_ldc (v := 101253137) hx hb hown (htb _ kK_X4_249) dX4_accessFault_19 ?_
    refine lv_goto (tgt := 26) hx hb dX4_accessFault_21 (by decide) ?_
    rw [hQ]
    exact W.iret (v := 101253137) hx hb hr (fun t ht hW => ⟨congrArg (fun z => Outcome.returned (some (Value.int z))) (by unfold aX aN; rw [if_pos hc1]; rfl), ht⟩) (fun q h => nomatch h) dX4_accessFault_26
  · refine zb_ti (y := 0) (if_neg hc1) ?_
    refine lv_if_eq (tgt := 24) hx hb dX4_accessFault_16 (by decide) (fun _ => ?_) (fun hno => absurd (by decide) hno)
    refine lv_ldc (v := 100794368) hx hb hown (htb _ kK_X4_250) dX4_accessFault_24 ?_
    rw [hQ]
    exact W.iret (v := 100794368) hx hb hr (fun t ht hW => ⟨congrArg (fun z => Outcome.returned (some (Value.int z))) (by unfold aX aN; rw [if_neg hc1]; rfl), ht⟩) (fun q h => nomatch h) dX4_accessFault_26
set_option maxHeartbeats 4000000 in
set_option maxRecDepth 100000 in
theorem c_accS (l : Launch) (D : va_G) (a : Nat → Nat) (cA : ClassId) (N : Int32) (f : Nat → Int32) (ob : OB) (tr : TR) (nd : ND) (e ad : Nat) (r : Int32) (he : e < 22) : Met l yX4_accessFault (wX4_accessFault :: wb) ({ frames := 1, cells := 0, slots := 0, locals := 22 } : Room) (va_Pc [.ref (a 0), .int (nI e), .int (nI ad), .int r] (zPu D [(cA, .int)] (cw a cA N f ob tr nd))) (zb_I (nI (aS e r))) 0 0 (fun _ => False) := by
  refine Met.ofW (cc := cX4_accessFault) (maxL := 4) (ret := (some .int)) (by decide) rfl ?_
  intro p ev s m args below meth c s₁ B hml hv
  obtain ⟨rfl, hP, hK, hSt, hnw⟩ := hv
  have hx := B.exec
  have hb := B.bytes
  have hr := B.returns
  have hts := atoms_spec (ws := wX4_accessFault :: wb) B.pre
  have htb : ∀ w ∈ wb, w.before ([.ref (a 0), .int (nI e), .int (nI ad), .int r]).toArray s = true := fun w h => hts w (List.mem_cons_of_mem _ h)
  have hown : s.vm.findClass RX4 = some m.cls := findClass_of_methodNamed B.named
  have hlocks := B.notSynchronized
  have hS : va_S (fun _ => False) s.heap s.heap [] := va_S.rf
  obtain ⟨⟨tt, ff, hZT, hTT, hZF, hTF⟩, hXS⟩ := id hSt
  have hl := lv_entry ([.ref (a 0), .int (nI e), .int (nI ad), .int r]) (n := 4) (Nat.le_of_ble_eq_true rfl)
  rw [lg_entry_eq]
  generalize (lg_sl ([.ref (a 0), .int (nI e), .int (nI ad), .int r]) ++ List.replicate (4 - (lg_sl ([.ref (a 0), .int (nI e), .int (nI ad), .int r])).length) Slot.unset).toArray = ls at hl ⊢
  have hl : lv_has ls 4 [(0, .ref (a 0)), (1, .int (nI e)), (2, .int (nI ad)), (3, .int r)] := hl
  refine zb_abs (fun Q hQ => ?_)
  refine lv_iload_n hx hb dX4_accessFault_0 rfl (lv_at hl 1 rfl) ?_
  refine lv_iconst (v := (-1)) hx hb dX4_accessFault_1 (by decide) ?_
  refine lv_icmp_ne (tgt := 27) hx hb dX4_accessFault_2 (by decide) (fun _ => ?_) (fun hno => absurd hno (ni_m1 he))
  refine lv_iload_n hx hb dX4_accessFault_27 rfl (lv_at hl 1 rfl) ?_
  refine lv_iload_n hx hb dX4_accessFault_28 rfl (lv_at hl 3 rfl) ?_
  refine zb_ci (va_runS (As := [.int (nI e), .int r]) (rest := []) ⟨hx, hb, hml, hown, htb⟩ (c_allows l D a cA N f ob tr nd e r he) (va_cwS 2 htb (wb_S kM_X4_251 kZ_X0_allows kN_X0 kD_X0_allows) rfl rfl rfl (by decide +kernel) ⟨Nat.le_of_ble_eq_true rfl, Nat.le_of_ble_eq_true rfl⟩) (zp_S hP hK hSt hS hnw) rfl rfl hl.1 rfl (lv_room (Nat.le_of_ble_eq_true rfl)) dX4_accessFault_29 ⟨Nat.le_of_ble_eq_true rfl, Nat.le_of_ble_eq_true rfl⟩) ?_
  by_cases hc1 : nI (xR e) &&& r = 0
  · refine zb_ti (y := 0) (if_pos hc1) ?_
    refine lv_if_eq (tgt := 37) hx hb dX4_accessFault_32 (by decide) (fun _ => ?_) (fun hno => absurd (by decide) hno)
    refine lv_iload_n hx hb dX4_accessFault_37 rfl (lv_at hl 3 rfl) ?_
    refine lv_iconst (v := 2) hx hb dX4_accessFault_38 (by decide) ?_
    refine lv_icmp_ne (tgt := 47) hx hb dX4_accessFault_39 (by decide) (fun hc2 => ?_) (fun hc2 => ?_)
    · refine lv_ldcw (v := 100728833) hx hb hown (htb _ kK_X4_256) dX4_accessFault_47 ?_
      rw [hQ]
      exact W.iret (v := 100728833) hx hb hr (fun t ht hW => ⟨congrArg (fun z => Outcome.returned (some (Value.int z))) (by unfold aS; rw [if_pos hc1, if_neg hc2]; rfl), ht⟩) (fun q h => nomatch h) dX4_accessFault_50
    refine lv_ldc (v := 100728834) hx hb hown (htb _ kK_X4_255) dX4_accessFault_42 ?_
    refine lv_goto (tgt := 50) hx hb dX4_accessFault_44 (by decide) ?_
    rw [hQ]
    exact W.iret (v := 100728834) hx hb hr (fun t ht hW => ⟨congrArg (fun z => Outcome.returned (some (Value.int z))) (by unfold aS; rw [if_pos hc1, if_pos hc2]; rfl), ht⟩) (fun q h => nomatch h) dX4_accessFault_50
  · refine zb_ti (y := 1) (if_neg hc1) ?_
    refine lv_if_eq (tgt := 37) hx hb dX4_accessFault_32 (by decide) (fun hno => absurd hno (by decide)) (fun _ => ?_)
    refine lv_iconst (v := 0) hx hb dX4_accessFault_35 (by decide) ?_
    rw [hQ]
    exact W.iret (v := 0) hx hb hr (fun t ht hW => ⟨congrArg (fun z => Outcome.returned (some (Value.int z))) (by unfold aS; rw [if_neg hc1]; rfl), ht⟩) (fun q h => nomatch h) dX4_accessFault_36
set_option maxHeartbeats 4000000 in
set_option maxRecDepth 100000 in
theorem c_lenF (l : Launch) (D : va_G) (a : Nat → Nat) (cA : ClassId) (N : Int32) (f : Nat → Int32) (ob : OB) (tr : TR) (nd : ND) (fi : Nat) (hg : Int32) (z : Nat)  : Met l yX4_lengthFault (wX4_lengthFault :: wb) ({ frames := 1, cells := 0, slots := 0, locals := 21 } : Room) (va_Pc [.int (nI fi), .int hg, .int (nI z)] (zPu D [(cA, .int)] (cw a cA N f ob tr nd))) (zb_I (nI (lF fi hg z))) 0 0 (fun _ => False) := by
  refine Met.ofW (cc := cX4_lengthFault) (maxL := 5) (ret := (some .int)) (by decide) rfl ?_
  intro p ev s m args below meth c s₁ B hml hv
  obtain ⟨rfl, hP, hK, hSt, hnw⟩ := hv
  have hx := B.exec
  have hb := B.bytes
  have hr := B.returns
  have hts := atoms_spec (ws := wX4_lengthFault :: wb) B.pre
  have htb : ∀ w ∈ wb, w.before ([.int (nI fi), .int hg, .int (nI z)]).toArray s = true := fun w h => hts w (List.mem_cons_of_mem _ h)
  have hown : s.vm.findClass RX4 = some m.cls := findClass_of_methodNamed B.named
  have hlocks := B.notSynchronized
  have hS : va_S (fun _ => False) s.heap s.heap [] := va_S.rf
  obtain ⟨⟨tt, ff, hZT, hTT, hZF, hTF⟩, hXS⟩ := id hSt
  have hl := lv_entry ([.int (nI fi), .int hg, .int (nI z)]) (n := 5) (Nat.le_of_ble_eq_true rfl)
  rw [lg_entry_eq]
  generalize (lg_sl ([.int (nI fi), .int hg, .int (nI z)]) ++ List.replicate (5 - (lg_sl ([.int (nI fi), .int hg, .int (nI z)])).length) Slot.unset).toArray = ls at hl ⊢
  have hl : lv_has ls 5 [(0, .int (nI fi)), (1, .int hg), (2, .int (nI z))] := hl
  refine zb_abs (fun Q hQ => ?_)
  refine lv_iload_n hx hb dX4_lengthFault_0 rfl (lv_at hl 0 rfl) ?_
  refine lv_iconst (v := 1) hx hb dX4_lengthFault_1 (by decide) ?_
  refine lv_iand hx hb dX4_lengthFault_2 ?_
  refine lv_if_eq (tgt := 10) hx hb dX4_lengthFault_3 (by decide) (fun hc1 => ?_) (fun hc1 => ?_)
  · refine lv_iconst (v := 0) hx hb dX4_lengthFault_10 (by decide) ?_
    refine lv_istore_n hx hb dX4_lengthFault_11 rfl hl (by decide) rfl (fun ls hl => ?_)
    have hl : lv_has ls 5 [(3, .int 0), (0, .int (nI fi)), (1, .int hg), (2, .int (nI z))] := hl
    refine lv_iload_n hx hb dX4_lengthFault_12 rfl (lv_at hl 0 rfl) ?_
    refine lv_if_eq (tgt := 20) hx hb dX4_lengthFault_13 (by decide) (fun _ => ?_) (fun hno => absurd (by decide) hno)
    refine lv_iload_n hx hb dX4_lengthFault_20 rfl (lv_at hl 3 rfl) ?_
    refine lv_istore hx hb dX4_lengthFault_21 hl (by decide) rfl (fun ls hl => ?_)
    have hl : lv_has ls 5 [(4, .int (nI z)), (3, .int 0), (0, .int (nI fi)), (1, .int hg), (2, .int (nI z))] := hl
    refine lv_iload_n hx hb dX4_lengthFault_23 rfl (lv_at hl 2 rfl) ?_
    refine lv_iconst (v := 2) hx hb dX4_lengthFault_24 (by decide) ?_
    refine lv_iand hx hb dX4_lengthFault_25 ?_
    refine lv_if_eq (tgt := 50) hx hb dX4_lengthFault_26 (by decide) (fun hc2 => ?_) (fun hc2 => ?_)
    · refine lv_iload hx hb dX4_lengthFault_50 (lv_at hl 0 rfl) ?_
      refine lv_iload_n hx hb dX4_lengthFault_52 rfl (lv_at hl 4 rfl) ?_
      refine lv_icmp_le (tgt := 59) hx hb dX4_lengthFault_53 (by decide) (fun hc3 => ?_) (fun hc3 => ?_)
      · refine lv_iload hx hb dX4_lengthFault_59 (lv_at hl 0 rfl) ?_
        refine lv_iload_n hx hb dX4_lengthFault_61 rfl (lv_at hl 4 rfl) ?_
        refine lv_icmp_ge (tgt := 70) hx hb dX4_lengthFault_62 (by decide) (fun _ => ?_) (fun hno => absurd hc3 hno)
        refine lv_iconst (v := 0) hx hb dX4_lengthFault_70 (by decide) ?_
        rw [hQ]
        exact W.iret (v := 0) hx hb hr (fun t ht hW => ⟨congrArg (fun z => Outcome.returned (some (Value.int z))) (by simp only [lF, lenOf, if_pos hc1, if_pos hc2, if_pos hc3]; rfl), ht⟩) (fun q h => nomatch h) dX4_lengthFault_71
      refine lv_ldc (v := 101122066) hx hb hown (htb _ kK_X4_230) dX4_lengthFault_56 ?_
      rw [hQ]
      exact W.iret (v := 101122066) hx hb hr (fun t ht hW => ⟨congrArg (fun z => Outcome.returned (some (Value.int z))) (by simp only [lF, lenOf, if_pos hc1, if_pos hc2, if_neg hc3]; rfl), ht⟩) (fun q h => nomatch h) dX4_lengthFault_58
    refine lv_iload_n hx hb dX4_lengthFault_29 rfl (lv_at hl 1 rfl) ?_
    refine lv_if_eq (tgt := 43) hx hb dX4_lengthFault_30 (by decide) (fun _ => ?_) (fun hno => absurd (by decide) hno)
    refine lv_iload_n hx hb dX4_lengthFault_43 rfl (lv_at hl 4 rfl) ?_
    refine lv_iconst (v := 4) hx hb dX4_lengthFault_44 (by decide) ?_
    refine va_mmin hx hb (by rw [hml]; exact hl.1.symm) hown (htb _ kM_X4_7) (htb _ kZ_min) (htb _ kN_Math) (htb _ kD_min) (Nat.le_of_ble_eq_true rfl) (Nat.le_of_ble_eq_true rfl) (Nat.le_of_ble_eq_true rfl) (Nat.le_of_ble_eq_true rfl) dX4_lengthFault_45 ?_
    refine lv_istore hx hb dX4_lengthFault_48 hl (by decide) rfl (fun ls hl => ?_)
    have hl : lv_has ls 5 [(4, .int (if 4 < (nI z) then 4 else nI z)), (3, .int 0), (0, .int (nI fi)), (1, .int hg), (2, .int (nI z))] := hl
    refine lv_iload hx hb dX4_lengthFault_50 (lv_at hl 0 rfl) ?_
    refine lv_iload_n hx hb dX4_lengthFault_52 rfl (lv_at hl 4 rfl) ?_
    refine lv_icmp_le (tgt := 59) hx hb dX4_lengthFault_53 (by decide) (fun hc4 => ?_) (fun hc4 => ?_)
    · refine lv_iload hx hb dX4_lengthFault_59 (lv_at hl 0 rfl) ?_
      refine lv_iload_n hx hb dX4_lengthFault_61 rfl (lv_at hl 4 rfl) ?_
      refine lv_icmp_ge (tgt := 70) hx hb dX4_lengthFault_62 (by decide) (fun hc5 => ?_) (fun hc5 => ?_)
      · refine lv_iconst (v := 0) hx hb dX4_lengthFault_70 (by decide) ?_
        rw [hQ]
        exact W.iret (v := 0) hx hb hr (fun t ht hW => ⟨congrArg (fun z => Outcome.returned (some (Value.int z))) (by simp only [lF, lenOf, if_pos hc1, if_neg hc2, if_pos hc4, if_pos hc5]; rfl), ht⟩) (fun q h => nomatch h) dX4_lengthFault_71
      refine lv_ldc (v := 101122067) hx hb hown (htb _ kK_X4_234) dX4_lengthFault_65 ?_
      refine lv_goto (tgt := 71) hx hb dX4_lengthFault_67 (by decide) ?_
      rw [hQ]
      exact W.iret (v := 101122067) hx hb hr (fun t ht hW => ⟨congrArg (fun z => Outcome.returned (some (Value.int z))) (by simp only [lF, lenOf, if_pos hc1, if_neg hc2, if_pos hc4, if_neg hc5]; rfl), ht⟩) (fun q h => nomatch h) dX4_lengthFault_71
    refine lv_ldc (v := 101122066) hx hb hown (htb _ kK_X4_230) dX4_lengthFault_56 ?_
    rw [hQ]
    exact W.iret (v := 101122066) hx hb hr (fun t ht hW => ⟨congrArg (fun z => Outcome.returned (some (Value.int z))) (by simp only [lF, lenOf, if_pos hc1, if_neg hc2, if_neg hc4]; rfl), ht⟩) (fun q h => nomatch h) dX4_lengthFault_58
  refine lv_iconst (v := 1) hx hb dX4_lengthFault_6 (by decide) ?_
  refine lv_goto (tgt := 11) hx hb dX4_lengthFault_7 (by decide) ?_
  refine lv_istore_n hx hb dX4_lengthFault_11 rfl hl (by decide) rfl (fun ls hl => ?_)
  have hl : lv_has ls 5 [(3, .int 1), (0, .int (nI fi)), (1, .int hg), (2, .int (nI z))] := hl
  refine lv_iload_n hx hb dX4_lengthFault_12 rfl (lv_at hl 0 rfl) ?_
  refine lv_if_eq (tgt := 20) hx hb dX4_lengthFault_13 (by decide) (fun hno => absurd hno (by decide)) (fun _ => ?_)
  refine lv_iload_n hx hb dX4_lengthFault_16 rfl (lv_at hl 2 rfl) ?_
  refine lv_goto (tgt := 21) hx hb dX4_lengthFault_17 (by decide) ?_
  refine lv_istore hx hb dX4_lengthFault_21 hl (by decide) rfl (fun ls hl => ?_)
  have hl : lv_has ls 5 [(4, .int hg), (3, .int 1), (0, .int (nI fi)), (1, .int hg), (2, .int (nI z))] := hl
  refine lv_iload_n hx hb dX4_lengthFault_23 rfl (lv_at hl 2 rfl) ?_
  refine lv_iconst (v := 2) hx hb dX4_lengthFault_24 (by decide) ?_
  refine lv_iand hx hb dX4_lengthFault_25 ?_
  refine lv_if_eq (tgt := 50) hx hb dX4_lengthFault_26 (by decide) (fun hc6 => ?_) (fun hc6 => ?_)
  · refine lv_iload hx hb dX4_lengthFault_50 (lv_at hl 0 rfl) ?_
    refine lv_iload_n hx hb dX4_lengthFault_52 rfl (lv_at hl 4 rfl) ?_
    refine lv_icmp_le (tgt := 59) hx hb dX4_lengthFault_53 (by decide) (fun hc7 => ?_) (fun hc7 => ?_)
    · refine lv_iload hx hb dX4_lengthFault_59 (lv_at hl 0 rfl) ?_
      refine lv_iload_n hx hb dX4_lengthFault_61 rfl (lv_at hl 4 rfl) ?_
      refine lv_icmp_ge (tgt := 70) hx hb dX4_lengthFault_62 (by decide) (fun hc8 => ?_) (fun hc8 => ?_)
      · refine lv_iconst (v := 0) hx hb dX4_lengthFault_70 (by decide) ?_
        rw [hQ]
        exact W.iret (v := 0) hx hb hr (fun t ht hW => ⟨congrArg (fun z => Outcome.returned (some (Value.int z))) (by simp only [lF, lenOf, if_neg hc1, if_pos hc6, if_pos hc7, if_pos hc8]; rfl), ht⟩) (fun q h => nomatch h) dX4_lengthFault_71
      refine lv_ldc (v := 101122067) hx hb hown (htb _ kK_X4_234) dX4_lengthFault_65 ?_
      refine lv_goto (tgt := 71) hx hb dX4_lengthFault_67 (by decide) ?_
      rw [hQ]
      exact W.iret (v := 101122067) hx hb hr (fun t ht hW => ⟨congrArg (fun z => Outcome.returned (some (Value.int z))) (by simp only [lF, lenOf, if_neg hc1, if_pos hc6, if_pos hc7, if_neg hc8]; rfl), ht⟩) (fun q h => nomatch h) dX4_lengthFault_71
    refine lv_ldc (v := 101122066) hx hb hown (htb _ kK_X4_230) dX4_lengthFault_56 ?_
    rw [hQ]
    exact W.iret (v := 101122066) hx hb hr (fun t ht hW => ⟨congrArg (fun z => Outcome.returned (some (Value.int z))) (by simp only [lF, lenOf, if_neg hc1, if_pos hc6, if_neg hc7]; rfl), ht⟩) (fun q h => nomatch h) dX4_lengthFault_58
  refine lv_iload_n hx hb dX4_lengthFault_29 rfl (lv_at hl 1 rfl) ?_
  refine lv_if_eq (tgt := 43) hx hb dX4_lengthFault_30 (by decide) (fun hno => absurd hno (by decide)) (fun _ => ?_)
  refine lv_iconst (v := 4) hx hb dX4_lengthFault_33 (by decide) ?_
  refine lv_iload_n hx hb dX4_lengthFault_34 rfl (lv_at hl 2 rfl) ?_
  refine lv_iconst (v := 2) hx hb dX4_lengthFault_35 (by decide) ?_
  refine lv_ishr hx hb dX4_lengthFault_36 ?_
  refine lv_iconst (v := 3) hx hb dX4_lengthFault_37 (by decide) ?_
  refine lv_iand hx hb dX4_lengthFault_38 ?_
  refine lv_isub hx hb dX4_lengthFault_39 ?_
  refine lv_goto (tgt := 48) hx hb dX4_lengthFault_40 (by decide) ?_
  refine lv_istore hx hb dX4_lengthFault_48 hl (by decide) rfl (fun ls hl => ?_)
  have hl : lv_has ls 5 [(4, .int (4 - (((nI fi) >>> ((2 : Int32) &&& 31)) &&& 3))), (3, .int 1), (0, .int (nI fi)), (1, .int hg), (2, .int (nI z))] := hl
  refine lv_iload hx hb dX4_lengthFault_50 (lv_at hl 0 rfl) ?_
  refine lv_iload_n hx hb dX4_lengthFault_52 rfl (lv_at hl 4 rfl) ?_
  refine lv_icmp_le (tgt := 59) hx hb dX4_lengthFault_53 (by decide) (fun hc9 => ?_) (fun hc9 => ?_)
  · refine lv_iload hx hb dX4_lengthFault_59 (lv_at hl 0 rfl) ?_
    refine lv_iload_n hx hb dX4_lengthFault_61 rfl (lv_at hl 4 rfl) ?_
    refine lv_icmp_ge (tgt := 70) hx hb dX4_lengthFault_62 (by decide) (fun hc10 => ?_) (fun hc10 => ?_)
    · refine lv_iconst (v := 0) hx hb dX4_lengthFault_70 (by decide) ?_
      rw [hQ]
      exact W.iret (v := 0) hx hb hr (fun t ht hW => ⟨congrArg (fun z => Outcome.returned (some (Value.int z))) (by simp only [lF, lenOf, if_neg hc1, if_neg hc6, if_pos hc9, if_pos hc10]; rfl), ht⟩) (fun q h => nomatch h) dX4_lengthFault_71
    refine lv_ldc (v := 101122067) hx hb hown (htb _ kK_X4_234) dX4_lengthFault_65 ?_
    refine lv_goto (tgt := 71) hx hb dX4_lengthFault_67 (by decide) ?_
    rw [hQ]
    exact W.iret (v := 101122067) hx hb hr (fun t ht hW => ⟨congrArg (fun z => Outcome.returned (some (Value.int z))) (by simp only [lF, lenOf, if_neg hc1, if_neg hc6, if_pos hc9, if_neg hc10]; rfl), ht⟩) (fun q h => nomatch h) dX4_lengthFault_71
  refine lv_ldc (v := 101122066) hx hb hown (htb _ kK_X4_230) dX4_lengthFault_56 ?_
  rw [hQ]
  exact W.iret (v := 101122066) hx hb hr (fun t ht hW => ⟨congrArg (fun z => Outcome.returned (some (Value.int z))) (by simp only [lF, lenOf, if_neg hc1, if_neg hc6, if_neg hc9]; rfl), ht⟩) (fun q h => nomatch h) dX4_lengthFault_58
set_option maxHeartbeats 4000000 in
set_option maxRecDepth 100000 in
theorem c_segF (l : Launch) (D : va_G) (a : Nat → Nat) (cA : ClassId) (N : Int32) (f : Nat → Int32) (ob : OB) (tr : TR) (nd : ND) (fi : Nat) (wr : Int32)  : Met l yX4_segmentFault (wX4_segmentFault :: wb) ({ frames := 0, cells := 0, slots := 0, locals := 0 } : Room) (va_Pc [.ref (a 0), .int (nI fi), .int wr] (zPu D [(cA, .int)] (cw a cA N f ob tr nd))) (zb_I (nI (sF tr fi wr))) 0 0 (fun _ => False) := by
  refine Met.ofW (cc := cX4_segmentFault) (maxL := 3) (ret := (some .int)) (by decide) rfl ?_
  intro p ev s m args below meth c s₁ B hml hv
  obtain ⟨rfl, hP, hK, hSt, hnw⟩ := hv
  have hx := B.exec
  have hb := B.bytes
  have hr := B.returns
  have hts := atoms_spec (ws := wX4_segmentFault :: wb) B.pre
  have htb : ∀ w ∈ wb, w.before ([.ref (a 0), .int (nI fi), .int wr]).toArray s = true := fun w h => hts w (List.mem_cons_of_mem _ h)
  have hown : s.vm.findClass RX4 = some m.cls := findClass_of_methodNamed B.named
  have hlocks := B.notSynchronized
  have hS : va_S (fun _ => False) s.heap s.heap [] := va_S.rf
  obtain ⟨⟨tt, ff, hZT, hTT, hZF, hTF⟩, hXS⟩ := id hSt
  have hl := lv_entry ([.ref (a 0), .int (nI fi), .int wr]) (n := 3) (Nat.le_of_ble_eq_true rfl)
  rw [lg_entry_eq]
  generalize (lg_sl ([.ref (a 0), .int (nI fi), .int wr]) ++ List.replicate (3 - (lg_sl ([.ref (a 0), .int (nI fi), .int wr])).length) Slot.unset).toArray = ls at hl ⊢
  have hl : lv_has ls 3 [(0, .ref (a 0)), (1, .int (nI fi)), (2, .int wr)] := hl
  refine zb_abs (fun Q hQ => ?_)
  refine lv_aload_n hx hb dX4_segmentFault_0 rfl (lv_at hl 0 rfl) ?_
  refine va_get (D := D) (ci := 4) (v := .ref (a 7)) (fs := [.int N, .ref (a 1), .ref (a 3), .ref (a 4), .ref (a 5), .ref (a 7), .int nd.1, .int nd.2.1, .int nd.2.2.1, .long nd.2.2.2]) (C := RX4) (T := TX4) (N := 10) hx hb htb inX4 hown hK hP 0 rfl rfl 5 (by decide) (htb _ kF_X4_51) (fun _ h9 => h9) rfl dX4_segmentFault_1 ?_
  refine va_getN (D := D) (ci := 3) (v := .int tr.2.1) (fs := [.ref (a 8), .int tr.2.1, .int tr.2.2.1, .int tr.2.2.2.1, .int tr.2.2.2.2.1, .int tr.2.2.2.2.2.1, .int tr.2.2.2.2.2.2.1, .int tr.2.2.2.2.2.2.2]) (C := RX3) (T := TX3) (N := 8) hx hb htb inX3 hown hK hP 7 rfl rfl 1 (by decide) (va_Nw.use rfl (hnw _ kT_X4_91)) (fun _ h9 => h9) rfl dX4_segmentFault_4 ?_
  refine lv_if_eq (tgt := 21) hx hb dX4_segmentFault_7 (by decide) (fun hc1 => ?_) (fun hc1 => ?_)
  · refine lv_ldc (v := 84148225) hx hb hown (htb _ kK_X4_196) dX4_segmentFault_21 ?_
    rw [hQ]
    exact W.iret (v := 84148225) hx hb hr (fun t ht hW => ⟨congrArg (fun z => Outcome.returned (some (Value.int z))) (by simp only [sF, if_pos hc1]; rfl), ht⟩) (fun q h => nomatch h) dX4_segmentFault_23
  refine lv_aload_n hx hb dX4_segmentFault_10 rfl (lv_at hl 0 rfl) ?_
  refine va_get (D := D) (ci := 4) (v := .ref (a 7)) (fs := [.int N, .ref (a 1), .ref (a 3), .ref (a 4), .ref (a 5), .ref (a 7), .int nd.1, .int nd.2.1, .int nd.2.2.1, .long nd.2.2.2]) (C := RX4) (T := TX4) (N := 10) hx hb htb inX4 hown hK hP 0 rfl rfl 5 (by decide) (htb _ kF_X4_51) (fun _ h9 => h9) rfl dX4_segmentFault_11 ?_
  refine va_getN (D := D) (ci := 3) (v := .int tr.2.2.1) (fs := [.ref (a 8), .int tr.2.1, .int tr.2.2.1, .int tr.2.2.2.1, .int tr.2.2.2.2.1, .int tr.2.2.2.2.2.1, .int tr.2.2.2.2.2.2.1, .int tr.2.2.2.2.2.2.2]) (C := RX3) (T := TX3) (N := 8) hx hb htb inX3 hown hK hP 7 rfl rfl 2 (by decide) (va_Nw.use rfl (hnw _ kT_X4_257)) (fun _ h9 => h9) rfl dX4_segmentFault_14 ?_
  refine lv_iload_n hx hb dX4_segmentFault_17 rfl (lv_at hl 2 rfl) ?_
  refine lv_icmp_eq (tgt := 24) hx hb dX4_segmentFault_18 (by decide) (fun hc2 => ?_) (fun hc2 => ?_)
  · refine lv_iload_n hx hb dX4_segmentFault_24 rfl (lv_at hl 1 rfl) ?_
    refine lv_bipush (v := 16) hx hb dX4_segmentFault_25 (by decide) ?_
    refine lv_iand hx hb dX4_segmentFault_27 ?_
    refine lv_aload_n hx hb dX4_segmentFault_28 rfl (lv_at hl 0 rfl) ?_
    refine va_get (D := D) (ci := 4) (v := .ref (a 7)) (fs := [.int N, .ref (a 1), .ref (a 3), .ref (a 4), .ref (a 5), .ref (a 7), .int nd.1, .int nd.2.1, .int nd.2.2.1, .long nd.2.2.2]) (C := RX4) (T := TX4) (N := 10) hx hb htb inX4 hown hK hP 0 rfl rfl 5 (by decide) (htb _ kF_X4_51) (fun _ h9 => h9) rfl dX4_segmentFault_29 ?_
    refine va_getN (D := D) (ci := 3) (v := .int tr.2.2.2.2.2.2.1) (fs := [.ref (a 8), .int tr.2.1, .int tr.2.2.1, .int tr.2.2.2.1, .int tr.2.2.2.2.1, .int tr.2.2.2.2.2.1, .int tr.2.2.2.2.2.2.1, .int tr.2.2.2.2.2.2.2]) (C := RX3) (T := TX3) (N := 8) hx hb htb inX3 hown hK hP 7 rfl rfl 6 (by decide) (va_Nw.use rfl (hnw _ kT_X4_260)) (fun _ h9 => h9) rfl dX4_segmentFault_32 ?_
    refine lv_icmp_ne (tgt := 42) hx hb dX4_segmentFault_35 (by decide) (fun hc3 => ?_) (fun hc3 => ?_)
    · refine lv_ldcw (v := 84082688) hx hb hown (htb _ kK_X4_263) dX4_segmentFault_42 ?_
      rw [hQ]
      exact W.iret (v := 84082688) hx hb hr (fun t ht hW => ⟨congrArg (fun z => Outcome.returned (some (Value.int z))) (by simp only [sF, if_neg hc1, if_pos hc2, if_neg hc3]; rfl), ht⟩) (fun q h => nomatch h) dX4_segmentFault_45
    refine lv_iconst (v := 0) hx hb dX4_segmentFault_38 (by decide) ?_
    refine lv_goto (tgt := 45) hx hb dX4_segmentFault_39 (by decide) ?_
    rw [hQ]
    exact W.iret (v := 0) hx hb hr (fun t ht hW => ⟨congrArg (fun z => Outcome.returned (some (Value.int z))) (by simp only [sF, if_neg hc1, if_pos hc2, if_pos hc3]; rfl), ht⟩) (fun q h => nomatch h) dX4_segmentFault_45
  refine lv_ldc (v := 84148225) hx hb hown (htb _ kK_X4_196) dX4_segmentFault_21 ?_
  rw [hQ]
  exact W.iret (v := 84148225) hx hb hr (fun t ht hW => ⟨congrArg (fun z => Outcome.returned (some (Value.int z))) (by simp only [sF, if_neg hc1, if_neg hc2]; rfl), ht⟩) (fun q h => nomatch h) dX4_segmentFault_23
set_option maxHeartbeats 4000000 in
set_option maxRecDepth 100000 in
theorem c_stoT0 (l : Launch) (D : va_G) (a : Nat → Nat) (cA : ClassId) (N : Int32) (f : Nat → Int32) (ob : OB) (tr : TR) (nd : ND) (e v : Nat) (hB : isB f) (hT : mapK f 3 6) (hG : mapK f 9 5) (he : e < 22) (he3 : e = 3) (hv : v < 256) : Met l yX4_storeFault (wX4_storeFault :: wb) ({ frames := 3, cells := 0, slots := 0, locals := 72 } : Room) (va_Pc [.ref (a 0), .int (nI e), .int (nI v)] (zPu D [(cA, .int)] (cw a cA N f ob tr nd))) (zb_I (nI (if nd.1 = 127 then cF f 3 6 v else 134217762))) 0 0 (fun _ => False) := by
  refine Met.ofW (cc := cX4_storeFault) (maxL := 5) (ret := (some .int)) (by decide) rfl ?_
  intro p ev s m args below meth c s₁ B hml hv
  obtain ⟨rfl, hP, hK, hSt, hnw⟩ := hv
  have hx := B.exec
  have hb := B.bytes
  have hr := B.returns
  have hts := atoms_spec (ws := wX4_storeFault :: wb) B.pre
  have htb : ∀ w ∈ wb, w.before ([.ref (a 0), .int (nI e), .int (nI v)]).toArray s = true := fun w h => hts w (List.mem_cons_of_mem _ h)
  have hown : s.vm.findClass RX4 = some m.cls := findClass_of_methodNamed B.named
  have hlocks := B.notSynchronized
  have hS : va_S (fun _ => False) s.heap s.heap [] := va_S.rf
  obtain ⟨⟨tt, ff, hZT, hTT, hZF, hTF⟩, hXS⟩ := id hSt
  have hl := lv_entry ([.ref (a 0), .int (nI e), .int (nI v)]) (n := 5) (Nat.le_of_ble_eq_true rfl)
  rw [lg_entry_eq]
  generalize (lg_sl ([.ref (a 0), .int (nI e), .int (nI v)]) ++ List.replicate (5 - (lg_sl ([.ref (a 0), .int (nI e), .int (nI v)])).length) Slot.unset).toArray = ls at hl ⊢
  have hl : lv_has ls 5 [(0, .ref (a 0)), (1, .int (nI e)), (2, .int (nI v))] := hl
  refine zb_abs (fun Q hQ => ?_)
  refine lv_aload_n hx hb dX4_storeFault_0 rfl (lv_at hl 0 rfl) ?_
  refine va_get (D := D) (ci := 4) (v := .ref (a 3)) (fs := [.int N, .ref (a 1), .ref (a 3), .ref (a 4), .ref (a 5), .ref (a 7), .int nd.1, .int nd.2.1, .int nd.2.2.1, .long nd.2.2.2]) (C := RX4) (T := TX4) (N := 10) hx hb htb inX4 hown hK hP 0 rfl rfl 2 (by decide) (htb _ kF_X4_34) (fun _ h9 => h9) rfl dX4_storeFault_1 ?_
  refine lv_iload_n hx hb dX4_storeFault_4 rfl (lv_at hl 1 rfl) ?_
  refine zb_ci (va_runV (As := [.int (nI e)]) (rest := []) ⟨hx, hb, hml, hown, htb⟩ (c_ownsT l D a cA N f ob tr nd e he) (cwV 1 htb (wb_V kM_X4_264 kI_X1_owns kS_X1_owns kN_X1 kD_X1_owns) rfl rfl rfl (by decide +kernel) ⟨Nat.le_of_ble_eq_true rfl, Nat.le_of_ble_eq_true rfl⟩) (zp_V 3 rfl rfl hP hK hSt hS hnw) rfl rfl hl.1 rfl (lv_room (Nat.le_of_ble_eq_true rfl)) dX4_storeFault_5 ⟨Nat.le_of_ble_eq_true rfl, Nat.le_of_ble_eq_true rfl⟩) ?_
  refine zb_ti (y := 1) (owT1 e he (by omega) (by omega)) ?_
  refine lv_if_eq (tgt := 18) hx hb dX4_storeFault_8 (by decide) (fun hno => absurd hno (by decide)) (fun _ => ?_)
  refine lv_aload_n hx hb dX4_storeFault_11 rfl (lv_at hl 0 rfl) ?_
  refine va_get (D := D) (ci := 4) (v := .ref (a 3)) (fs := [.int N, .ref (a 1), .ref (a 3), .ref (a 4), .ref (a 5), .ref (a 7), .int nd.1, .int nd.2.1, .int nd.2.2.1, .long nd.2.2.2]) (C := RX4) (T := TX4) (N := 10) hx hb htb inX4 hown hK hP 0 rfl rfl 2 (by decide) (htb _ kF_X4_34) (fun _ h9 => h9) rfl dX4_storeFault_12 ?_
  refine lv_goto (tgt := 22) hx hb dX4_storeFault_15 (by decide) ?_
  refine lv_astore_n hx hb dX4_storeFault_22 rfl hl (by decide) rfl (fun ls hl => ?_)
  have hl : lv_has ls 5 [(3, .ref (a 3)), (0, .ref (a 0)), (1, .int (nI e)), (2, .int (nI v))] := hl
  refine lv_aload_n hx hb dX4_storeFault_23 rfl (lv_at hl 0 rfl) ?_
  refine lv_iload_n hx hb dX4_storeFault_24 rfl (lv_at hl 2 rfl) ?_
  refine zb_ci (va_runV (As := [.int (nI e)]) (rest := []) ⟨hx, hb, hml, hown, htb⟩ (c_ownsT l D a cA N f ob tr nd e he) (cwV 1 htb (wb_V kM_X4_264 kI_X1_owns kS_X1_owns kN_X1 kD_X1_owns) rfl rfl rfl (by decide +kernel) ⟨Nat.le_of_ble_eq_true rfl, Nat.le_of_ble_eq_true rfl⟩) (zp_V 3 rfl rfl hP hK hSt hS hnw) rfl rfl hl.1 rfl (lv_room (Nat.le_of_ble_eq_true rfl)) dX4_storeFault_25 ⟨Nat.le_of_ble_eq_true rfl, Nat.le_of_ble_eq_true rfl⟩) ?_
  refine zb_ti (y := 1) (owT1 e he (by omega) (by omega)) ?_
  refine lv_if_eq (tgt := 66) hx hb dX4_storeFault_28 (by decide) (fun hno => absurd hno (by decide)) (fun _ => ?_)
  refine lv_aload_n hx hb dX4_storeFault_31 rfl (lv_at hl 1 rfl) ?_
  refine va_get (D := D) (ci := 4) (v := .int nd.1) (fs := [.int N, .ref (a 1), .ref (a 3), .ref (a 4), .ref (a 5), .ref (a 7), .int nd.1, .int nd.2.1, .int nd.2.2.1, .long nd.2.2.2]) (C := RX4) (T := TX4) (N := 10) hx hb htb inX4 hown hK hP 0 rfl rfl 6 (by decide) (htb _ kF_X4_79) (fun _ h9 => h9) rfl dX4_storeFault_32 ?_
  refine lv_bipush (v := 127) hx hb dX4_storeFault_35 (by decide) ?_
  refine lv_icmp_eq (tgt := 44) hx hb dX4_storeFault_37 (by decide) (fun hc1 => ?_) (fun hc1 => ?_)
  · refine lv_aload_n hx hb dX4_storeFault_44 rfl (lv_at hl 0 rfl) ?_
    refine lv_iload_n hx hb dX4_storeFault_45 rfl (lv_at hl 2 rfl) ?_
    refine zb_ci (va_runV (As := [.int (nI e)]) (rest := []) ⟨hx, hb, hml, hown, htb⟩ (c_isCountT l D a cA N f ob tr nd e he) (cwV 1 htb (wb_V kM_X4_268 kI_X1_isCount kS_X1_isCount kN_X1 kD_X1_isCount) rfl rfl rfl (by decide +kernel) ⟨Nat.le_of_ble_eq_true rfl, Nat.le_of_ble_eq_true rfl⟩) (zp_V 3 rfl rfl hP hK hSt hS hnw) rfl rfl hl.1 rfl (lv_room (Nat.le_of_ble_eq_true rfl)) dX4_storeFault_46 ⟨Nat.le_of_ble_eq_true rfl, Nat.le_of_ble_eq_true rfl⟩) ?_
    refine zb_ti (y := 1) (if_pos (by rw [he3]; rfl)) ?_
    refine lv_if_eq (tgt := 60) hx hb dX4_storeFault_49 (by decide) (fun hno => absurd hno (by decide)) (fun _ => ?_)
    refine lv_aload_n hx hb dX4_storeFault_52 rfl (lv_at hl 0 rfl) ?_
    refine lv_iload_n hx hb dX4_storeFault_53 rfl (lv_at hl 3 rfl) ?_
    refine zb_ci (va_runV (As := [.int (nI v)]) (rest := []) ⟨hx, hb, hml, hown, htb⟩ (c_countFaultT l D a cA N f ob tr nd v hv hB) (cwV 1 htb (wb_V kM_X4_271 kI_X1_countFault kS_X1_countFault kN_X1 kD_X1_countFault) rfl rfl rfl (by decide +kernel) ⟨Nat.le_of_ble_eq_true rfl, Nat.le_of_ble_eq_true rfl⟩) (zp_V 3 rfl rfl hP hK hSt hS hnw) rfl rfl hl.1 rfl (lv_room (Nat.le_of_ble_eq_true rfl)) dX4_storeFault_54 ⟨Nat.le_of_ble_eq_true rfl, Nat.le_of_ble_eq_true rfl⟩) ?_
    refine lv_goto (tgt := 65) hx hb dX4_storeFault_57 (by decide) ?_
    rw [hQ]
    exact W.iret (v := nI (cF f 3 6 v)) hx hb hr (fun t ht hW => ⟨congrArg (fun z => Outcome.returned (some (Value.int z))) (by rw [if_pos hc1]), ht⟩) (fun q h => nomatch h) dX4_storeFault_65
  refine lv_ldcw (v := 134217762) hx hb hown (htb _ kK_X4_267) dX4_storeFault_40 ?_
  rw [hQ]
  exact W.iret (v := 134217762) hx hb hr (fun t ht hW => ⟨congrArg (fun z => Outcome.returned (some (Value.int z))) (by rw [if_neg hc1]; rfl), ht⟩) (fun q h => nomatch h) dX4_storeFault_43
set_option maxHeartbeats 4000000 in
set_option maxRecDepth 100000 in
theorem c_stoT1 (l : Launch) (D : va_G) (a : Nat → Nat) (cA : ClassId) (N : Int32) (f : Nat → Int32) (ob : OB) (tr : TR) (nd : ND) (e v : Nat) (hB : isB f) (hT : mapK f 3 6) (hG : mapK f 9 5) (he : e < 22) (he4 : 4 ≤ e) (he7 : e ≤ 7) : Met l yX4_storeFault (wX4_storeFault :: wb) ({ frames := 3, cells := 0, slots := 0, locals := 72 } : Room) (va_Pc [.ref (a 0), .int (nI e), .int (nI v)] (zPu D [(cA, .int)] (cw a cA N f ob tr nd))) (zb_I (nI (if nd.1 = 127 then nF (cT f) 6 (nI v) else 134217762))) 0 0 (fun _ => False) := by
  refine Met.ofW (cc := cX4_storeFault) (maxL := 5) (ret := (some .int)) (by decide) rfl ?_
  intro p ev s m args below meth c s₁ B hml hv
  obtain ⟨rfl, hP, hK, hSt, hnw⟩ := hv
  have hx := B.exec
  have hb := B.bytes
  have hr := B.returns
  have hts := atoms_spec (ws := wX4_storeFault :: wb) B.pre
  have htb : ∀ w ∈ wb, w.before ([.ref (a 0), .int (nI e), .int (nI v)]).toArray s = true := fun w h => hts w (List.mem_cons_of_mem _ h)
  have hown : s.vm.findClass RX4 = some m.cls := findClass_of_methodNamed B.named
  have hlocks := B.notSynchronized
  have hS : va_S (fun _ => False) s.heap s.heap [] := va_S.rf
  obtain ⟨⟨tt, ff, hZT, hTT, hZF, hTF⟩, hXS⟩ := id hSt
  have hl := lv_entry ([.ref (a 0), .int (nI e), .int (nI v)]) (n := 5) (Nat.le_of_ble_eq_true rfl)
  rw [lg_entry_eq]
  generalize (lg_sl ([.ref (a 0), .int (nI e), .int (nI v)]) ++ List.replicate (5 - (lg_sl ([.ref (a 0), .int (nI e), .int (nI v)])).length) Slot.unset).toArray = ls at hl ⊢
  have hl : lv_has ls 5 [(0, .ref (a 0)), (1, .int (nI e)), (2, .int (nI v))] := hl
  refine zb_abs (fun Q hQ => ?_)
  refine lv_aload_n hx hb dX4_storeFault_0 rfl (lv_at hl 0 rfl) ?_
  refine va_get (D := D) (ci := 4) (v := .ref (a 3)) (fs := [.int N, .ref (a 1), .ref (a 3), .ref (a 4), .ref (a 5), .ref (a 7), .int nd.1, .int nd.2.1, .int nd.2.2.1, .long nd.2.2.2]) (C := RX4) (T := TX4) (N := 10) hx hb htb inX4 hown hK hP 0 rfl rfl 2 (by decide) (htb _ kF_X4_34) (fun _ h9 => h9) rfl dX4_storeFault_1 ?_
  refine lv_iload_n hx hb dX4_storeFault_4 rfl (lv_at hl 1 rfl) ?_
  refine zb_ci (va_runV (As := [.int (nI e)]) (rest := []) ⟨hx, hb, hml, hown, htb⟩ (c_ownsT l D a cA N f ob tr nd e he) (cwV 1 htb (wb_V kM_X4_264 kI_X1_owns kS_X1_owns kN_X1 kD_X1_owns) rfl rfl rfl (by decide +kernel) ⟨Nat.le_of_ble_eq_true rfl, Nat.le_of_ble_eq_true rfl⟩) (zp_V 3 rfl rfl hP hK hSt hS hnw) rfl rfl hl.1 rfl (lv_room (Nat.le_of_ble_eq_true rfl)) dX4_storeFault_5 ⟨Nat.le_of_ble_eq_true rfl, Nat.le_of_ble_eq_true rfl⟩) ?_
  refine zb_ti (y := 1) (owT1 e he (by omega) (by omega)) ?_
  refine lv_if_eq (tgt := 18) hx hb dX4_storeFault_8 (by decide) (fun hno => absurd hno (by decide)) (fun _ => ?_)
  refine lv_aload_n hx hb dX4_storeFault_11 rfl (lv_at hl 0 rfl) ?_
  refine va_get (D := D) (ci := 4) (v := .ref (a 3)) (fs := [.int N, .ref (a 1), .ref (a 3), .ref (a 4), .ref (a 5), .ref (a 7), .int nd.1, .int nd.2.1, .int nd.2.2.1, .long nd.2.2.2]) (C := RX4) (T := TX4) (N := 10) hx hb htb inX4 hown hK hP 0 rfl rfl 2 (by decide) (htb _ kF_X4_34) (fun _ h9 => h9) rfl dX4_storeFault_12 ?_
  refine lv_goto (tgt := 22) hx hb dX4_storeFault_15 (by decide) ?_
  refine lv_astore_n hx hb dX4_storeFault_22 rfl hl (by decide) rfl (fun ls hl => ?_)
  have hl : lv_has ls 5 [(3, .ref (a 3)), (0, .ref (a 0)), (1, .int (nI e)), (2, .int (nI v))] := hl
  refine lv_aload_n hx hb dX4_storeFault_23 rfl (lv_at hl 0 rfl) ?_
  refine lv_iload_n hx hb dX4_storeFault_24 rfl (lv_at hl 2 rfl) ?_
  refine zb_ci (va_runV (As := [.int (nI e)]) (rest := []) ⟨hx, hb, hml, hown, htb⟩ (c_ownsT l D a cA N f ob tr nd e he) (cwV 1 htb (wb_V kM_X4_264 kI_X1_owns kS_X1_owns kN_X1 kD_X1_owns) rfl rfl rfl (by decide +kernel) ⟨Nat.le_of_ble_eq_true rfl, Nat.le_of_ble_eq_true rfl⟩) (zp_V 3 rfl rfl hP hK hSt hS hnw) rfl rfl hl.1 rfl (lv_room (Nat.le_of_ble_eq_true rfl)) dX4_storeFault_25 ⟨Nat.le_of_ble_eq_true rfl, Nat.le_of_ble_eq_true rfl⟩) ?_
  refine zb_ti (y := 1) (owT1 e he (by omega) (by omega)) ?_
  refine lv_if_eq (tgt := 66) hx hb dX4_storeFault_28 (by decide) (fun hno => absurd hno (by decide)) (fun _ => ?_)
  refine lv_aload_n hx hb dX4_storeFault_31 rfl (lv_at hl 1 rfl) ?_
  refine va_get (D := D) (ci := 4) (v := .int nd.1) (fs := [.int N, .ref (a 1), .ref (a 3), .ref (a 4), .ref (a 5), .ref (a 7), .int nd.1, .int nd.2.1, .int nd.2.2.1, .long nd.2.2.2]) (C := RX4) (T := TX4) (N := 10) hx hb htb inX4 hown hK hP 0 rfl rfl 6 (by decide) (htb _ kF_X4_79) (fun _ h9 => h9) rfl dX4_storeFault_32 ?_
  refine lv_bipush (v := 127) hx hb dX4_storeFault_35 (by decide) ?_
  refine lv_icmp_eq (tgt := 44) hx hb dX4_storeFault_37 (by decide) (fun hc1 => ?_) (fun hc1 => ?_)
  · refine lv_aload_n hx hb dX4_storeFault_44 rfl (lv_at hl 0 rfl) ?_
    refine lv_iload_n hx hb dX4_storeFault_45 rfl (lv_at hl 2 rfl) ?_
    refine zb_ci (va_runV (As := [.int (nI e)]) (rest := []) ⟨hx, hb, hml, hown, htb⟩ (c_isCountT l D a cA N f ob tr nd e he) (cwV 1 htb (wb_V kM_X4_268 kI_X1_isCount kS_X1_isCount kN_X1 kD_X1_isCount) rfl rfl rfl (by decide +kernel) ⟨Nat.le_of_ble_eq_true rfl, Nat.le_of_ble_eq_true rfl⟩) (zp_V 3 rfl rfl hP hK hSt hS hnw) rfl rfl hl.1 rfl (lv_room (Nat.le_of_ble_eq_true rfl)) dX4_storeFault_46 ⟨Nat.le_of_ble_eq_true rfl, Nat.le_of_ble_eq_true rfl⟩) ?_
    refine zb_ti (y := 0) (if_neg (fun h => absurd ((nI_eq (b := 3) (by omega) (by decide)).mp h) (by omega))) ?_
    refine lv_if_eq (tgt := 60) hx hb dX4_storeFault_49 (by decide) (fun _ => ?_) (fun hno => absurd (by decide) hno)
    refine lv_aload_n hx hb dX4_storeFault_60 rfl (lv_at hl 0 rfl) ?_
    refine lv_iload_n hx hb dX4_storeFault_61 rfl (lv_at hl 3 rfl) ?_
    refine zb_ci (va_runV (As := [.int (nI v)]) (rest := []) ⟨hx, hb, hml, hown, htb⟩ (c_nameFaultT l D a cA N f ob tr nd (cT f) (nI v) (bv_of hB _).2 hT.1) (cwV 1 htb (wb_V kM_X4_274 kI_X1_nameFault kS_X1_nameFault kN_X1 kD_X1_nameFault) rfl rfl rfl (by decide +kernel) ⟨Nat.le_of_ble_eq_true rfl, Nat.le_of_ble_eq_true rfl⟩) (zp_V 3 rfl rfl hP hK hSt hS hnw) rfl rfl hl.1 rfl (lv_room (Nat.le_of_ble_eq_true rfl)) dX4_storeFault_62 ⟨Nat.le_of_ble_eq_true rfl, Nat.le_of_ble_eq_true rfl⟩) ?_
    rw [hQ]
    exact W.iret (v := nI (nF (cT f) 6 (nI v))) hx hb hr (fun t ht hW => ⟨congrArg (fun z => Outcome.returned (some (Value.int z))) (by rw [if_pos hc1]), ht⟩) (fun q h => nomatch h) dX4_storeFault_65
  refine lv_ldcw (v := 134217762) hx hb hown (htb _ kK_X4_267) dX4_storeFault_40 ?_
  rw [hQ]
  exact W.iret (v := 134217762) hx hb hr (fun t ht hW => ⟨congrArg (fun z => Outcome.returned (some (Value.int z))) (by rw [if_neg hc1]; rfl), ht⟩) (fun q h => nomatch h) dX4_storeFault_43
set_option maxHeartbeats 4000000 in
set_option maxRecDepth 100000 in
theorem c_stoG0 (l : Launch) (D : va_G) (a : Nat → Nat) (cA : ClassId) (N : Int32) (f : Nat → Int32) (ob : OB) (tr : TR) (nd : ND) (e v : Nat) (hB : isB f) (hT : mapK f 3 6) (hG : mapK f 9 5) (he : e < 22) (he3 : e = 9) (hv : v < 256) : Met l yX4_storeFault (wX4_storeFault :: wb) ({ frames := 3, cells := 0, slots := 0, locals := 72 } : Room) (va_Pc [.ref (a 0), .int (nI e), .int (nI v)] (zPu D [(cA, .int)] (cw a cA N f ob tr nd))) (zb_I (nI (if nd.1 = 127 then cF f 9 5 v else 134217762))) 0 0 (fun _ => False) := by
  refine Met.ofW (cc := cX4_storeFault) (maxL := 5) (ret := (some .int)) (by decide) rfl ?_
  intro p ev s m args below meth c s₁ B hml hv
  obtain ⟨rfl, hP, hK, hSt, hnw⟩ := hv
  have hx := B.exec
  have hb := B.bytes
  have hr := B.returns
  have hts := atoms_spec (ws := wX4_storeFault :: wb) B.pre
  have htb : ∀ w ∈ wb, w.before ([.ref (a 0), .int (nI e), .int (nI v)]).toArray s = true := fun w h => hts w (List.mem_cons_of_mem _ h)
  have hown : s.vm.findClass RX4 = some m.cls := findClass_of_methodNamed B.named
  have hlocks := B.notSynchronized
  have hS : va_S (fun _ => False) s.heap s.heap [] := va_S.rf
  obtain ⟨⟨tt, ff, hZT, hTT, hZF, hTF⟩, hXS⟩ := id hSt
  have hl := lv_entry ([.ref (a 0), .int (nI e), .int (nI v)]) (n := 5) (Nat.le_of_ble_eq_true rfl)
  rw [lg_entry_eq]
  generalize (lg_sl ([.ref (a 0), .int (nI e), .int (nI v)]) ++ List.replicate (5 - (lg_sl ([.ref (a 0), .int (nI e), .int (nI v)])).length) Slot.unset).toArray = ls at hl ⊢
  have hl : lv_has ls 5 [(0, .ref (a 0)), (1, .int (nI e)), (2, .int (nI v))] := hl
  refine zb_abs (fun Q hQ => ?_)
  refine lv_aload_n hx hb dX4_storeFault_0 rfl (lv_at hl 0 rfl) ?_
  refine va_get (D := D) (ci := 4) (v := .ref (a 3)) (fs := [.int N, .ref (a 1), .ref (a 3), .ref (a 4), .ref (a 5), .ref (a 7), .int nd.1, .int nd.2.1, .int nd.2.2.1, .long nd.2.2.2]) (C := RX4) (T := TX4) (N := 10) hx hb htb inX4 hown hK hP 0 rfl rfl 2 (by decide) (htb _ kF_X4_34) (fun _ h9 => h9) rfl dX4_storeFault_1 ?_
  refine lv_iload_n hx hb dX4_storeFault_4 rfl (lv_at hl 1 rfl) ?_
  refine zb_ci (va_runV (As := [.int (nI e)]) (rest := []) ⟨hx, hb, hml, hown, htb⟩ (c_ownsT l D a cA N f ob tr nd e he) (cwV 1 htb (wb_V kM_X4_264 kI_X1_owns kS_X1_owns kN_X1 kD_X1_owns) rfl rfl rfl (by decide +kernel) ⟨Nat.le_of_ble_eq_true rfl, Nat.le_of_ble_eq_true rfl⟩) (zp_V 3 rfl rfl hP hK hSt hS hnw) rfl rfl hl.1 rfl (lv_room (Nat.le_of_ble_eq_true rfl)) dX4_storeFault_5 ⟨Nat.le_of_ble_eq_true rfl, Nat.le_of_ble_eq_true rfl⟩) ?_
  refine zb_ti (y := 0) (owT0 e he (by omega)) ?_
  refine lv_if_eq (tgt := 18) hx hb dX4_storeFault_8 (by decide) (fun _ => ?_) (fun hno => absurd (by decide) hno)
  refine lv_aload_n hx hb dX4_storeFault_18 rfl (lv_at hl 0 rfl) ?_
  refine va_get (D := D) (ci := 4) (v := .ref (a 4)) (fs := [.int N, .ref (a 1), .ref (a 3), .ref (a 4), .ref (a 5), .ref (a 7), .int nd.1, .int nd.2.1, .int nd.2.2.1, .long nd.2.2.2]) (C := RX4) (T := TX4) (N := 10) hx hb htb inX4 hown hK hP 0 rfl rfl 3 (by decide) (htb _ kF_X4_38) (fun _ h9 => h9) rfl dX4_storeFault_19 ?_
  refine lv_astore_n hx hb dX4_storeFault_22 rfl hl (by decide) rfl (fun ls hl => ?_)
  have hl : lv_has ls 5 [(3, .ref (a 4)), (0, .ref (a 0)), (1, .int (nI e)), (2, .int (nI v))] := hl
  refine lv_aload_n hx hb dX4_storeFault_23 rfl (lv_at hl 0 rfl) ?_
  refine lv_iload_n hx hb dX4_storeFault_24 rfl (lv_at hl 2 rfl) ?_
  refine zb_ci (va_runV (As := [.int (nI e)]) (rest := []) ⟨hx, hb, hml, hown, htb⟩ (c_ownsG l D a cA N f ob tr nd e he) (cwV 1 htb (wb_V kM_X4_264 kI_X1_owns kS_X1_owns kN_X1 kD_X1_owns) rfl rfl rfl (by decide +kernel) ⟨Nat.le_of_ble_eq_true rfl, Nat.le_of_ble_eq_true rfl⟩) (zp_V 4 rfl rfl hP hK hSt hS hnw) rfl rfl hl.1 rfl (lv_room (Nat.le_of_ble_eq_true rfl)) dX4_storeFault_25 ⟨Nat.le_of_ble_eq_true rfl, Nat.le_of_ble_eq_true rfl⟩) ?_
  refine zb_ti (y := 1) (owG1 e he (by omega) (by omega)) ?_
  refine lv_if_eq (tgt := 66) hx hb dX4_storeFault_28 (by decide) (fun hno => absurd hno (by decide)) (fun _ => ?_)
  refine lv_aload_n hx hb dX4_storeFault_31 rfl (lv_at hl 1 rfl) ?_
  refine va_get (D := D) (ci := 4) (v := .int nd.1) (fs := [.int N, .ref (a 1), .ref (a 3), .ref (a 4), .ref (a 5), .ref (a 7), .int nd.1, .int nd.2.1, .int nd.2.2.1, .long nd.2.2.2]) (C := RX4) (T := TX4) (N := 10) hx hb htb inX4 hown hK hP 0 rfl rfl 6 (by decide) (htb _ kF_X4_79) (fun _ h9 => h9) rfl dX4_storeFault_32 ?_
  refine lv_bipush (v := 127) hx hb dX4_storeFault_35 (by decide) ?_
  refine lv_icmp_eq (tgt := 44) hx hb dX4_storeFault_37 (by decide) (fun hc1 => ?_) (fun hc1 => ?_)
  · refine lv_aload_n hx hb dX4_storeFault_44 rfl (lv_at hl 0 rfl) ?_
    refine lv_iload_n hx hb dX4_storeFault_45 rfl (lv_at hl 2 rfl) ?_
    refine zb_ci (va_runV (As := [.int (nI e)]) (rest := []) ⟨hx, hb, hml, hown, htb⟩ (c_isCountG l D a cA N f ob tr nd e he) (cwV 1 htb (wb_V kM_X4_268 kI_X1_isCount kS_X1_isCount kN_X1 kD_X1_isCount) rfl rfl rfl (by decide +kernel) ⟨Nat.le_of_ble_eq_true rfl, Nat.le_of_ble_eq_true rfl⟩) (zp_V 4 rfl rfl hP hK hSt hS hnw) rfl rfl hl.1 rfl (lv_room (Nat.le_of_ble_eq_true rfl)) dX4_storeFault_46 ⟨Nat.le_of_ble_eq_true rfl, Nat.le_of_ble_eq_true rfl⟩) ?_
    refine zb_ti (y := 1) (if_pos (by rw [he3]; rfl)) ?_
    refine lv_if_eq (tgt := 60) hx hb dX4_storeFault_49 (by decide) (fun hno => absurd hno (by decide)) (fun _ => ?_)
    refine lv_aload_n hx hb dX4_storeFault_52 rfl (lv_at hl 0 rfl) ?_
    refine lv_iload_n hx hb dX4_storeFault_53 rfl (lv_at hl 3 rfl) ?_
    refine zb_ci (va_runV (As := [.int (nI v)]) (rest := []) ⟨hx, hb, hml, hown, htb⟩ (c_countFaultG l D a cA N f ob tr nd v hv hB) (cwV 1 htb (wb_V kM_X4_271 kI_X1_countFault kS_X1_countFault kN_X1 kD_X1_countFault) rfl rfl rfl (by decide +kernel) ⟨Nat.le_of_ble_eq_true rfl, Nat.le_of_ble_eq_true rfl⟩) (zp_V 4 rfl rfl hP hK hSt hS hnw) rfl rfl hl.1 rfl (lv_room (Nat.le_of_ble_eq_true rfl)) dX4_storeFault_54 ⟨Nat.le_of_ble_eq_true rfl, Nat.le_of_ble_eq_true rfl⟩) ?_
    refine lv_goto (tgt := 65) hx hb dX4_storeFault_57 (by decide) ?_
    rw [hQ]
    exact W.iret (v := nI (cF f 9 5 v)) hx hb hr (fun t ht hW => ⟨congrArg (fun z => Outcome.returned (some (Value.int z))) (by rw [if_pos hc1]), ht⟩) (fun q h => nomatch h) dX4_storeFault_65
  refine lv_ldcw (v := 134217762) hx hb hown (htb _ kK_X4_267) dX4_storeFault_40 ?_
  rw [hQ]
  exact W.iret (v := 134217762) hx hb hr (fun t ht hW => ⟨congrArg (fun z => Outcome.returned (some (Value.int z))) (by rw [if_neg hc1]; rfl), ht⟩) (fun q h => nomatch h) dX4_storeFault_43
set_option maxHeartbeats 4000000 in
set_option maxRecDepth 100000 in
theorem c_stoG1 (l : Launch) (D : va_G) (a : Nat → Nat) (cA : ClassId) (N : Int32) (f : Nat → Int32) (ob : OB) (tr : TR) (nd : ND) (e v : Nat) (hB : isB f) (hT : mapK f 3 6) (hG : mapK f 9 5) (he : e < 22) (he4 : 10 ≤ e) (he7 : e ≤ 13) : Met l yX4_storeFault (wX4_storeFault :: wb) ({ frames := 3, cells := 0, slots := 0, locals := 72 } : Room) (va_Pc [.ref (a 0), .int (nI e), .int (nI v)] (zPu D [(cA, .int)] (cw a cA N f ob tr nd))) (zb_I (nI (if nd.1 = 127 then nF (cG f) 5 (nI v) else 134217762))) 0 0 (fun _ => False) := by
  refine Met.ofW (cc := cX4_storeFault) (maxL := 5) (ret := (some .int)) (by decide) rfl ?_
  intro p ev s m args below meth c s₁ B hml hv
  obtain ⟨rfl, hP, hK, hSt, hnw⟩ := hv
  have hx := B.exec
  have hb := B.bytes
  have hr := B.returns
  have hts := atoms_spec (ws := wX4_storeFault :: wb) B.pre
  have htb : ∀ w ∈ wb, w.before ([.ref (a 0), .int (nI e), .int (nI v)]).toArray s = true := fun w h => hts w (List.mem_cons_of_mem _ h)
  have hown : s.vm.findClass RX4 = some m.cls := findClass_of_methodNamed B.named
  have hlocks := B.notSynchronized
  have hS : va_S (fun _ => False) s.heap s.heap [] := va_S.rf
  obtain ⟨⟨tt, ff, hZT, hTT, hZF, hTF⟩, hXS⟩ := id hSt
  have hl := lv_entry ([.ref (a 0), .int (nI e), .int (nI v)]) (n := 5) (Nat.le_of_ble_eq_true rfl)
  rw [lg_entry_eq]
  generalize (lg_sl ([.ref (a 0), .int (nI e), .int (nI v)]) ++ List.replicate (5 - (lg_sl ([.ref (a 0), .int (nI e), .int (nI v)])).length) Slot.unset).toArray = ls at hl ⊢
  have hl : lv_has ls 5 [(0, .ref (a 0)), (1, .int (nI e)), (2, .int (nI v))] := hl
  refine zb_abs (fun Q hQ => ?_)
  refine lv_aload_n hx hb dX4_storeFault_0 rfl (lv_at hl 0 rfl) ?_
  refine va_get (D := D) (ci := 4) (v := .ref (a 3)) (fs := [.int N, .ref (a 1), .ref (a 3), .ref (a 4), .ref (a 5), .ref (a 7), .int nd.1, .int nd.2.1, .int nd.2.2.1, .long nd.2.2.2]) (C := RX4) (T := TX4) (N := 10) hx hb htb inX4 hown hK hP 0 rfl rfl 2 (by decide) (htb _ kF_X4_34) (fun _ h9 => h9) rfl dX4_storeFault_1 ?_
  refine lv_iload_n hx hb dX4_storeFault_4 rfl (lv_at hl 1 rfl) ?_
  refine zb_ci (va_runV (As := [.int (nI e)]) (rest := []) ⟨hx, hb, hml, hown, htb⟩ (c_ownsT l D a cA N f ob tr nd e he) (cwV 1 htb (wb_V kM_X4_264 kI_X1_owns kS_X1_owns kN_X1 kD_X1_owns) rfl rfl rfl (by decide +kernel) ⟨Nat.le_of_ble_eq_true rfl, Nat.le_of_ble_eq_true rfl⟩) (zp_V 3 rfl rfl hP hK hSt hS hnw) rfl rfl hl.1 rfl (lv_room (Nat.le_of_ble_eq_true rfl)) dX4_storeFault_5 ⟨Nat.le_of_ble_eq_true rfl, Nat.le_of_ble_eq_true rfl⟩) ?_
  refine zb_ti (y := 0) (owT0 e he (by omega)) ?_
  refine lv_if_eq (tgt := 18) hx hb dX4_storeFault_8 (by decide) (fun _ => ?_) (fun hno => absurd (by decide) hno)
  refine lv_aload_n hx hb dX4_storeFault_18 rfl (lv_at hl 0 rfl) ?_
  refine va_get (D := D) (ci := 4) (v := .ref (a 4)) (fs := [.int N, .ref (a 1), .ref (a 3), .ref (a 4), .ref (a 5), .ref (a 7), .int nd.1, .int nd.2.1, .int nd.2.2.1, .long nd.2.2.2]) (C := RX4) (T := TX4) (N := 10) hx hb htb inX4 hown hK hP 0 rfl rfl 3 (by decide) (htb _ kF_X4_38) (fun _ h9 => h9) rfl dX4_storeFault_19 ?_
  refine lv_astore_n hx hb dX4_storeFault_22 rfl hl (by decide) rfl (fun ls hl => ?_)
  have hl : lv_has ls 5 [(3, .ref (a 4)), (0, .ref (a 0)), (1, .int (nI e)), (2, .int (nI v))] := hl
  refine lv_aload_n hx hb dX4_storeFault_23 rfl (lv_at hl 0 rfl) ?_
  refine lv_iload_n hx hb dX4_storeFault_24 rfl (lv_at hl 2 rfl) ?_
  refine zb_ci (va_runV (As := [.int (nI e)]) (rest := []) ⟨hx, hb, hml, hown, htb⟩ (c_ownsG l D a cA N f ob tr nd e he) (cwV 1 htb (wb_V kM_X4_264 kI_X1_owns kS_X1_owns kN_X1 kD_X1_owns) rfl rfl rfl (by decide +kernel) ⟨Nat.le_of_ble_eq_true rfl, Nat.le_of_ble_eq_true rfl⟩) (zp_V 4 rfl rfl hP hK hSt hS hnw) rfl rfl hl.1 rfl (lv_room (Nat.le_of_ble_eq_true rfl)) dX4_storeFault_25 ⟨Nat.le_of_ble_eq_true rfl, Nat.le_of_ble_eq_true rfl⟩) ?_
  refine zb_ti (y := 1) (owG1 e he (by omega) (by omega)) ?_
  refine lv_if_eq (tgt := 66) hx hb dX4_storeFault_28 (by decide) (fun hno => absurd hno (by decide)) (fun _ => ?_)
  refine lv_aload_n hx hb dX4_storeFault_31 rfl (lv_at hl 1 rfl) ?_
  refine va_get (D := D) (ci := 4) (v := .int nd.1) (fs := [.int N, .ref (a 1), .ref (a 3), .ref (a 4), .ref (a 5), .ref (a 7), .int nd.1, .int nd.2.1, .int nd.2.2.1, .long nd.2.2.2]) (C := RX4) (T := TX4) (N := 10) hx hb htb inX4 hown hK hP 0 rfl rfl 6 (by decide) (htb _ kF_X4_79) (fun _ h9 => h9) rfl dX4_storeFault_32 ?_
  refine lv_bipush (v := 127) hx hb dX4_storeFault_35 (by decide) ?_
  refine lv_icmp_eq (tgt := 44) hx hb dX4_storeFault_37 (by decide) (fun hc1 => ?_) (fun hc1 => ?_)
  · refine lv_aload_n hx hb dX4_storeFault_44 rfl (lv_at hl 0 rfl) ?_
    refine lv_iload_n hx hb dX4_storeFault_45 rfl (lv_at hl 2 rfl) ?_
    refine zb_ci (va_runV (As := [.int (nI e)]) (rest := []) ⟨hx, hb, hml, hown, htb⟩ (c_isCountG l D a cA N f ob tr nd e he) (cwV 1 htb (wb_V kM_X4_268 kI_X1_isCount kS_X1_isCount kN_X1 kD_X1_isCount) rfl rfl rfl (by decide +kernel) ⟨Nat.le_of_ble_eq_true rfl, Nat.le_of_ble_eq_true rfl⟩) (zp_V 4 rfl rfl hP hK hSt hS hnw) rfl rfl hl.1 rfl (lv_room (Nat.le_of_ble_eq_true rfl)) dX4_storeFault_46 ⟨Nat.le_of_ble_eq_true rfl, Nat.le_of_ble_eq_true rfl⟩) ?_
    refine zb_ti (y := 0) (if_neg (fun h => absurd ((nI_eq (b := 9) (by omega) (by decide)).mp h) (by omega))) ?_
    refine lv_if_eq (tgt := 60) hx hb dX4_storeFault_49 (by decide) (fun _ => ?_) (fun hno => absurd (by decide) hno)
    refine lv_aload_n hx hb dX4_storeFault_60 rfl (lv_at hl 0 rfl) ?_
    refine lv_iload_n hx hb dX4_storeFault_61 rfl (lv_at hl 3 rfl) ?_
    refine zb_ci (va_runV (As := [.int (nI v)]) (rest := []) ⟨hx, hb, hml, hown, htb⟩ (c_nameFaultG l D a cA N f ob tr nd (cG f) (nI v) (bv_of hB _).2 hG.1) (cwV 1 htb (wb_V kM_X4_274 kI_X1_nameFault kS_X1_nameFault kN_X1 kD_X1_nameFault) rfl rfl rfl (by decide +kernel) ⟨Nat.le_of_ble_eq_true rfl, Nat.le_of_ble_eq_true rfl⟩) (zp_V 4 rfl rfl hP hK hSt hS hnw) rfl rfl hl.1 rfl (lv_room (Nat.le_of_ble_eq_true rfl)) dX4_storeFault_62 ⟨Nat.le_of_ble_eq_true rfl, Nat.le_of_ble_eq_true rfl⟩) ?_
    rw [hQ]
    exact W.iret (v := nI (nF (cG f) 5 (nI v))) hx hb hr (fun t ht hW => ⟨congrArg (fun z => Outcome.returned (some (Value.int z))) (by rw [if_pos hc1]), ht⟩) (fun q h => nomatch h) dX4_storeFault_65
  refine lv_ldcw (v := 134217762) hx hb hown (htb _ kK_X4_267) dX4_storeFault_40 ?_
  rw [hQ]
  exact W.iret (v := 134217762) hx hb hr (fun t ht hW => ⟨congrArg (fun z => Outcome.returned (some (Value.int z))) (by rw [if_neg hc1]; rfl), ht⟩) (fun q h => nomatch h) dX4_storeFault_43
set_option maxHeartbeats 4000000 in
set_option maxRecDepth 100000 in
theorem c_sto8 (l : Launch) (D : va_G) (a : Nat → Nat) (cA : ClassId) (N : Int32) (f : Nat → Int32) (ob : OB) (tr : TR) (nd : ND) (e v : Nat) (hB : isB f) (hT : mapK f 3 6) (hG : mapK f 9 5) (he : e < 22) (he8 : e = 8) (hv : v < 256) : Met l yX4_storeFault (wX4_storeFault :: wb) ({ frames := 3, cells := 0, slots := 0, locals := 72 } : Room) (va_Pc [.ref (a 0), .int (nI e), .int (nI v)] (zPu D [(cA, .int)] (cw a cA N f ob tr nd))) (zb_I (nI (if 240 < v ∧ v < 254 then 101253168 else 0))) 0 0 (fun _ => False) := by
  refine Met.ofW (cc := cX4_storeFault) (maxL := 5) (ret := (some .int)) (by decide) rfl ?_
  intro p ev s m args below meth c s₁ B hml hv
  obtain ⟨rfl, hP, hK, hSt, hnw⟩ := hv
  have hx := B.exec
  have hb := B.bytes
  have hr := B.returns
  have hts := atoms_spec (ws := wX4_storeFault :: wb) B.pre
  have htb : ∀ w ∈ wb, w.before ([.ref (a 0), .int (nI e), .int (nI v)]).toArray s = true := fun w h => hts w (List.mem_cons_of_mem _ h)
  have hown : s.vm.findClass RX4 = some m.cls := findClass_of_methodNamed B.named
  have hlocks := B.notSynchronized
  have hS : va_S (fun _ => False) s.heap s.heap [] := va_S.rf
  obtain ⟨⟨tt, ff, hZT, hTT, hZF, hTF⟩, hXS⟩ := id hSt
  have hl := lv_entry ([.ref (a 0), .int (nI e), .int (nI v)]) (n := 5) (Nat.le_of_ble_eq_true rfl)
  rw [lg_entry_eq]
  generalize (lg_sl ([.ref (a 0), .int (nI e), .int (nI v)]) ++ List.replicate (5 - (lg_sl ([.ref (a 0), .int (nI e), .int (nI v)])).length) Slot.unset).toArray = ls at hl ⊢
  have hl : lv_has ls 5 [(0, .ref (a 0)), (1, .int (nI e)), (2, .int (nI v))] := hl
  refine zb_abs (fun Q hQ => ?_)
  refine lv_aload_n hx hb dX4_storeFault_0 rfl (lv_at hl 0 rfl) ?_
  refine va_get (D := D) (ci := 4) (v := .ref (a 3)) (fs := [.int N, .ref (a 1), .ref (a 3), .ref (a 4), .ref (a 5), .ref (a 7), .int nd.1, .int nd.2.1, .int nd.2.2.1, .long nd.2.2.2]) (C := RX4) (T := TX4) (N := 10) hx hb htb inX4 hown hK hP 0 rfl rfl 2 (by decide) (htb _ kF_X4_34) (fun _ h9 => h9) rfl dX4_storeFault_1 ?_
  refine lv_iload_n hx hb dX4_storeFault_4 rfl (lv_at hl 1 rfl) ?_
  refine zb_ci (va_runV (As := [.int (nI e)]) (rest := []) ⟨hx, hb, hml, hown, htb⟩ (c_ownsT l D a cA N f ob tr nd e he) (cwV 1 htb (wb_V kM_X4_264 kI_X1_owns kS_X1_owns kN_X1 kD_X1_owns) rfl rfl rfl (by decide +kernel) ⟨Nat.le_of_ble_eq_true rfl, Nat.le_of_ble_eq_true rfl⟩) (zp_V 3 rfl rfl hP hK hSt hS hnw) rfl rfl hl.1 rfl (lv_room (Nat.le_of_ble_eq_true rfl)) dX4_storeFault_5 ⟨Nat.le_of_ble_eq_true rfl, Nat.le_of_ble_eq_true rfl⟩) ?_
  refine zb_ti (y := 0) (owT0 e he (by omega)) ?_
  refine lv_if_eq (tgt := 18) hx hb dX4_storeFault_8 (by decide) (fun _ => ?_) (fun hno => absurd (by decide) hno)
  refine lv_aload_n hx hb dX4_storeFault_18 rfl (lv_at hl 0 rfl) ?_
  refine va_get (D := D) (ci := 4) (v := .ref (a 4)) (fs := [.int N, .ref (a 1), .ref (a 3), .ref (a 4), .ref (a 5), .ref (a 7), .int nd.1, .int nd.2.1, .int nd.2.2.1, .long nd.2.2.2]) (C := RX4) (T := TX4) (N := 10) hx hb htb inX4 hown hK hP 0 rfl rfl 3 (by decide) (htb _ kF_X4_38) (fun _ h9 => h9) rfl dX4_storeFault_19 ?_
  refine lv_astore_n hx hb dX4_storeFault_22 rfl hl (by decide) rfl (fun ls hl => ?_)
  have hl : lv_has ls 5 [(3, .ref (a 4)), (0, .ref (a 0)), (1, .int (nI e)), (2, .int (nI v))] := hl
  refine lv_aload_n hx hb dX4_storeFault_23 rfl (lv_at hl 0 rfl) ?_
  refine lv_iload_n hx hb dX4_storeFault_24 rfl (lv_at hl 2 rfl) ?_
  refine zb_ci (va_runV (As := [.int (nI e)]) (rest := []) ⟨hx, hb, hml, hown, htb⟩ (c_ownsG l D a cA N f ob tr nd e he) (cwV 1 htb (wb_V kM_X4_264 kI_X1_owns kS_X1_owns kN_X1 kD_X1_owns) rfl rfl rfl (by decide +kernel) ⟨Nat.le_of_ble_eq_true rfl, Nat.le_of_ble_eq_true rfl⟩) (zp_V 4 rfl rfl hP hK hSt hS hnw) rfl rfl hl.1 rfl (lv_room (Nat.le_of_ble_eq_true rfl)) dX4_storeFault_25 ⟨Nat.le_of_ble_eq_true rfl, Nat.le_of_ble_eq_true rfl⟩) ?_
  refine zb_ti (y := 0) (owG0 e he (by omega)) ?_
  refine lv_if_eq (tgt := 66) hx hb dX4_storeFault_28 (by decide) (fun _ => ?_) (fun hno => absurd (by decide) hno)
  refine lv_iload_n hx hb dX4_storeFault_66 rfl (lv_at hl 3 rfl) ?_
  refine lv_sipush (v := 240) hx hb dX4_storeFault_67 (by decide) ?_
  refine lv_icmp_le (tgt := 84) hx hb dX4_storeFault_70 (by decide) (fun hc1 => ?_) (fun hc1 => ?_)
  · refine lv_iconst (v := 0) hx hb dX4_storeFault_84 (by decide) ?_
    refine lv_istore hx hb dX4_storeFault_85 hl (by decide) rfl (fun ls hl => ?_)
    have hl : lv_has ls 5 [(4, .int 0), (3, .ref (a 4)), (0, .ref (a 0)), (1, .int (nI e)), (2, .int (nI v))] := hl
    refine lv_iload_n hx hb dX4_storeFault_87 rfl (lv_at hl 3 rfl) ?_
    refine lv_bipush (v := 8) hx hb dX4_storeFault_88 (by decide) ?_
    refine lv_icmp_ne (tgt := 104) hx hb dX4_storeFault_90 (by decide) (fun hno => absurd (by rw [he8]; rfl) hno) (fun _ => ?_)
    refine lv_iload hx hb dX4_storeFault_93 (lv_at hl 0 rfl) ?_
    refine lv_if_eq (tgt := 104) hx hb dX4_storeFault_95 (by decide) (fun _ => ?_) (fun hno => absurd (by decide) hno)
    refine lv_iconst (v := 0) hx hb dX4_storeFault_104 (by decide) ?_
    rw [hQ]
    exact W.iret (v := 0) hx hb hr (fun t ht hW => ⟨congrArg (fun z => Outcome.returned (some (Value.int z))) (by have h2 : v ≤ 240 := (nI_leI (b := 240) (by omega) (by decide)).mp hc1; rw [if_neg (by omega)]; rfl), ht⟩) (fun q h => nomatch h) dX4_storeFault_105
  refine lv_iload_n hx hb dX4_storeFault_73 rfl (lv_at hl 3 rfl) ?_
  refine lv_sipush (v := 254) hx hb dX4_storeFault_74 (by decide) ?_
  refine lv_icmp_ge (tgt := 84) hx hb dX4_storeFault_77 (by decide) (fun hc2 => ?_) (fun hc2 => ?_)
  · refine lv_iconst (v := 0) hx hb dX4_storeFault_84 (by decide) ?_
    refine lv_istore hx hb dX4_storeFault_85 hl (by decide) rfl (fun ls hl => ?_)
    have hl : lv_has ls 5 [(4, .int 0), (3, .ref (a 4)), (0, .ref (a 0)), (1, .int (nI e)), (2, .int (nI v))] := hl
    refine lv_iload_n hx hb dX4_storeFault_87 rfl (lv_at hl 3 rfl) ?_
    refine lv_bipush (v := 8) hx hb dX4_storeFault_88 (by decide) ?_
    refine lv_icmp_ne (tgt := 104) hx hb dX4_storeFault_90 (by decide) (fun hno => absurd (by rw [he8]; rfl) hno) (fun _ => ?_)
    refine lv_iload hx hb dX4_storeFault_93 (lv_at hl 0 rfl) ?_
    refine lv_if_eq (tgt := 104) hx hb dX4_storeFault_95 (by decide) (fun _ => ?_) (fun hno => absurd (by decide) hno)
    refine lv_iconst (v := 0) hx hb dX4_storeFault_104 (by decide) ?_
    rw [hQ]
    exact W.iret (v := 0) hx hb hr (fun t ht hW => ⟨congrArg (fun z => Outcome.returned (some (Value.int z))) (by have h2 : 254 ≤ v := (nI_leI (a := 254) (by decide) (by omega)).mp hc2; rw [if_neg (by omega)]; rfl), ht⟩) (fun q h => nomatch h) dX4_storeFault_105
  refine lv_iconst (v := 1) hx hb dX4_storeFault_80 (by decide) ?_
  refine lv_goto (tgt := 85) hx hb dX4_storeFault_81 (by decide) ?_
  refine lv_istore hx hb dX4_storeFault_85 hl (by decide) rfl (fun ls hl => ?_)
  have hl : lv_has ls 5 [(4, .int 1), (3, .ref (a 4)), (0, .ref (a 0)), (1, .int (nI e)), (2, .int (nI v))] := hl
  refine lv_iload_n hx hb dX4_storeFault_87 rfl (lv_at hl 3 rfl) ?_
  refine lv_bipush (v := 8) hx hb dX4_storeFault_88 (by decide) ?_
  refine lv_icmp_ne (tgt := 104) hx hb dX4_storeFault_90 (by decide) (fun hno => absurd (by rw [he8]; rfl) hno) (fun _ => ?_)
  refine lv_iload hx hb dX4_storeFault_93 (lv_at hl 0 rfl) ?_
  refine lv_if_eq (tgt := 104) hx hb dX4_storeFault_95 (by decide) (fun hno => absurd hno (by decide)) (fun _ => ?_)
  refine lv_ldcw (v := 101253168) hx hb hown (htb _ kK_X4_277) dX4_storeFault_98 ?_
  refine lv_goto (tgt := 105) hx hb dX4_storeFault_101 (by decide) ?_
  rw [hQ]
  exact W.iret (v := 101253168) hx hb hr (fun t ht hW => ⟨congrArg (fun z => Outcome.returned (some (Value.int z))) (by have h1 : 240 < v := (by have h9 : ¬ v ≤ 240 := fun h => hc1 (nI_le h (by decide)); omega); have h2 : v < 254 := (by have h9 : ¬ 254 ≤ v := fun h => hc2 (nI_le h (by omega)); omega); rw [if_pos ⟨h1, h2⟩]; rfl), ht⟩) (fun q h => nomatch h) dX4_storeFault_105
set_option maxHeartbeats 4000000 in
set_option maxRecDepth 100000 in
theorem c_stoN (l : Launch) (D : va_G) (a : Nat → Nat) (cA : ClassId) (N : Int32) (f : Nat → Int32) (ob : OB) (tr : TR) (nd : ND) (e v : Nat) (hB : isB f) (hT : mapK f 3 6) (hG : mapK f 9 5) (he : e < 22) (he8 : ¬ e = 8) (hno : e < 3 ∨ 13 < e) : Met l yX4_storeFault (wX4_storeFault :: wb) ({ frames := 3, cells := 0, slots := 0, locals := 72 } : Room) (va_Pc [.ref (a 0), .int (nI e), .int (nI v)] (zPu D [(cA, .int)] (cw a cA N f ob tr nd))) (zb_I (nI 0)) 0 0 (fun _ => False) := by
  refine Met.ofW (cc := cX4_storeFault) (maxL := 5) (ret := (some .int)) (by decide) rfl ?_
  intro p ev s m args below meth c s₁ B hml hv
  obtain ⟨rfl, hP, hK, hSt, hnw⟩ := hv
  have hx := B.exec
  have hb := B.bytes
  have hr := B.returns
  have hts := atoms_spec (ws := wX4_storeFault :: wb) B.pre
  have htb : ∀ w ∈ wb, w.before ([.ref (a 0), .int (nI e), .int (nI v)]).toArray s = true := fun w h => hts w (List.mem_cons_of_mem _ h)
  have hown : s.vm.findClass RX4 = some m.cls := findClass_of_methodNamed B.named
  have hlocks := B.notSynchronized
  have hS : va_S (fun _ => False) s.heap s.heap [] := va_S.rf
  obtain ⟨⟨tt, ff, hZT, hTT, hZF, hTF⟩, hXS⟩ := id hSt
  have hl := lv_entry ([.ref (a 0), .int (nI e), .int (nI v)]) (n := 5) (Nat.le_of_ble_eq_true rfl)
  rw [lg_entry_eq]
  generalize (lg_sl ([.ref (a 0), .int (nI e), .int (nI v)]) ++ List.replicate (5 - (lg_sl ([.ref (a 0), .int (nI e), .int (nI v)])).length) Slot.unset).toArray = ls at hl ⊢
  have hl : lv_has ls 5 [(0, .ref (a 0)), (1, .int (nI e)), (2, .int (nI v))] := hl
  refine zb_abs (fun Q hQ => ?_)
  refine lv_aload_n hx hb dX4_storeFault_0 rfl (lv_at hl 0 rfl) ?_
  refine va_get (D := D) (ci := 4) (v := .ref (a 3)) (fs := [.int N, .ref (a 1), .ref (a 3), .ref (a 4), .ref (a 5), .ref (a 7), .int nd.1, .int nd.2.1, .int nd.2.2.1, .long nd.2.2.2]) (C := RX4) (T := TX4) (N := 10) hx hb htb inX4 hown hK hP 0 rfl rfl 2 (by decide) (htb _ kF_X4_34) (fun _ h9 => h9) rfl dX4_storeFault_1 ?_
  refine lv_iload_n hx hb dX4_storeFault_4 rfl (lv_at hl 1 rfl) ?_
  refine zb_ci (va_runV (As := [.int (nI e)]) (rest := []) ⟨hx, hb, hml, hown, htb⟩ (c_ownsT l D a cA N f ob tr nd e he) (cwV 1 htb (wb_V kM_X4_264 kI_X1_owns kS_X1_owns kN_X1 kD_X1_owns) rfl rfl rfl (by decide +kernel) ⟨Nat.le_of_ble_eq_true rfl, Nat.le_of_ble_eq_true rfl⟩) (zp_V 3 rfl rfl hP hK hSt hS hnw) rfl rfl hl.1 rfl (lv_room (Nat.le_of_ble_eq_true rfl)) dX4_storeFault_5 ⟨Nat.le_of_ble_eq_true rfl, Nat.le_of_ble_eq_true rfl⟩) ?_
  refine zb_ti (y := 0) (owT0 e he (by omega)) ?_
  refine lv_if_eq (tgt := 18) hx hb dX4_storeFault_8 (by decide) (fun _ => ?_) (fun hno => absurd (by decide) hno)
  refine lv_aload_n hx hb dX4_storeFault_18 rfl (lv_at hl 0 rfl) ?_
  refine va_get (D := D) (ci := 4) (v := .ref (a 4)) (fs := [.int N, .ref (a 1), .ref (a 3), .ref (a 4), .ref (a 5), .ref (a 7), .int nd.1, .int nd.2.1, .int nd.2.2.1, .long nd.2.2.2]) (C := RX4) (T := TX4) (N := 10) hx hb htb inX4 hown hK hP 0 rfl rfl 3 (by decide) (htb _ kF_X4_38) (fun _ h9 => h9) rfl dX4_storeFault_19 ?_
  refine lv_astore_n hx hb dX4_storeFault_22 rfl hl (by decide) rfl (fun ls hl => ?_)
  have hl : lv_has ls 5 [(3, .ref (a 4)), (0, .ref (a 0)), (1, .int (nI e)), (2, .int (nI v))] := hl
  refine lv_aload_n hx hb dX4_storeFault_23 rfl (lv_at hl 0 rfl) ?_
  refine lv_iload_n hx hb dX4_storeFault_24 rfl (lv_at hl 2 rfl) ?_
  refine zb_ci (va_runV (As := [.int (nI e)]) (rest := []) ⟨hx, hb, hml, hown, htb⟩ (c_ownsG l D a cA N f ob tr nd e he) (cwV 1 htb (wb_V kM_X4_264 kI_X1_owns kS_X1_owns kN_X1 kD_X1_owns) rfl rfl rfl (by decide +kernel) ⟨Nat.le_of_ble_eq_true rfl, Nat.le_of_ble_eq_true rfl⟩) (zp_V 4 rfl rfl hP hK hSt hS hnw) rfl rfl hl.1 rfl (lv_room (Nat.le_of_ble_eq_true rfl)) dX4_storeFault_25 ⟨Nat.le_of_ble_eq_true rfl, Nat.le_of_ble_eq_true rfl⟩) ?_
  refine zb_ti (y := 0) (owG0 e he (by omega)) ?_
  refine lv_if_eq (tgt := 66) hx hb dX4_storeFault_28 (by decide) (fun _ => ?_) (fun hno => absurd (by decide) hno)
  refine lv_iload_n hx hb dX4_storeFault_66 rfl (lv_at hl 3 rfl) ?_
  refine lv_sipush (v := 240) hx hb dX4_storeFault_67 (by decide) ?_
  refine lv_icmp_le (tgt := 84) hx hb dX4_storeFault_70 (by decide) (fun hc1 => ?_) (fun hc1 => ?_)
  · refine lv_iconst (v := 0) hx hb dX4_storeFault_84 (by decide) ?_
    refine lv_istore hx hb dX4_storeFault_85 hl (by decide) rfl (fun ls hl => ?_)
    have hl : lv_has ls 5 [(4, .int 0), (3, .ref (a 4)), (0, .ref (a 0)), (1, .int (nI e)), (2, .int (nI v))] := hl
    refine lv_iload_n hx hb dX4_storeFault_87 rfl (lv_at hl 3 rfl) ?_
    refine lv_bipush (v := 8) hx hb dX4_storeFault_88 (by decide) ?_
    refine lv_icmp_ne (tgt := 104) hx hb dX4_storeFault_90 (by decide) (fun _ => ?_) (fun hno => absurd hno (fun h => absurd ((nI_eq (b := 8) (by omega) (by decide)).mp h) he8))
    refine lv_iconst (v := 0) hx hb dX4_storeFault_104 (by decide) ?_
    rw [hQ]
    exact W.iret (v := 0) hx hb hr (fun t ht hW => ⟨congrArg (fun z => Outcome.returned (some (Value.int z))) (rfl), ht⟩) (fun q h => nomatch h) dX4_storeFault_105
  refine lv_iload_n hx hb dX4_storeFault_73 rfl (lv_at hl 3 rfl) ?_
  refine lv_sipush (v := 254) hx hb dX4_storeFault_74 (by decide) ?_
  refine lv_icmp_ge (tgt := 84) hx hb dX4_storeFault_77 (by decide) (fun hc2 => ?_) (fun hc2 => ?_)
  · refine lv_iconst (v := 0) hx hb dX4_storeFault_84 (by decide) ?_
    refine lv_istore hx hb dX4_storeFault_85 hl (by decide) rfl (fun ls hl => ?_)
    have hl : lv_has ls 5 [(4, .int 0), (3, .ref (a 4)), (0, .ref (a 0)), (1, .int (nI e)), (2, .int (nI v))] := hl
    refine lv_iload_n hx hb dX4_storeFault_87 rfl (lv_at hl 3 rfl) ?_
    refine lv_bipush (v := 8) hx hb dX4_storeFault_88 (by decide) ?_
    refine lv_icmp_ne (tgt := 104) hx hb dX4_storeFault_90 (by decide) (fun _ => ?_) (fun hno => absurd hno (fun h => absurd ((nI_eq (b := 8) (by omega) (by decide)).mp h) he8))
    refine lv_iconst (v := 0) hx hb dX4_storeFault_104 (by decide) ?_
    rw [hQ]
    exact W.iret (v := 0) hx hb hr (fun t ht hW => ⟨congrArg (fun z => Outcome.returned (some (Value.int z))) (rfl), ht⟩) (fun q h => nomatch h) dX4_storeFault_105
  refine lv_iconst (v := 1) hx hb dX4_storeFault_80 (by decide) ?_
  refine lv_goto (tgt := 85) hx hb dX4_storeFault_81 (by decide) ?_
  refine lv_istore hx hb dX4_storeFault_85 hl (by decide) rfl (fun ls hl => ?_)
  have hl : lv_has ls 5 [(4, .int 1), (3, .ref (a 4)), (0, .ref (a 0)), (1, .int (nI e)), (2, .int (nI v))] := hl
  refine lv_iload_n hx hb dX4_storeFault_87 rfl (lv_at hl 3 rfl) ?_
  refine lv_bipush (v := 8) hx hb dX4_storeFault_88 (by decide) ?_
  refine lv_icmp_ne (tgt := 104) hx hb dX4_storeFault_90 (by decide) (fun _ => ?_) (fun hno => absurd hno (fun h => absurd ((nI_eq (b := 8) (by omega) (by decide)).mp h) he8))
  refine lv_iconst (v := 0) hx hb dX4_storeFault_104 (by decide) ?_
  rw [hQ]
  exact W.iret (v := 0) hx hb hr (fun t ht hW => ⟨congrArg (fun z => Outcome.returned (some (Value.int z))) (rfl), ht⟩) (fun q h => nomatch h) dX4_storeFault_105
set_option maxHeartbeats 4000000 in
set_option maxRecDepth 100000 in
theorem c_storeFault (l : Launch) (D : va_G) (a : Nat → Nat) (cA : ClassId) (N : Int32) (f : Nat → Int32) (ob : OB) (tr : TR) (nd : ND) (e v : Nat) (hB : isB f) (hT : mapK f 3 6) (hG : mapK f 9 5) (he : e < 22) (hv1 : xZ e = 1 → v < 256) : Met l yX4_storeFault (wX4_storeFault :: wb) ({ frames := 3, cells := 0, slots := 0, locals := 72 } : Room) (va_Pc [.ref (a 0), .int (nI e), .int (nI v)] (zPu D [(cA, .int)] (cw a cA N f ob tr nd))) (zb_I (nI (stF nd.1 f e v))) 0 0 (fun _ => False) := by
  by_cases h3 : e = 3
  · rw [show stF nd.1 f e v = (if nd.1 = 127 then cF f 3 6 v else 134217762) by unfold stF; rw [if_pos h3]]
    exact c_stoT0 l D a cA N f ob tr nd e v hB hT hG he h3 (hv1 (by rw [h3]; rfl))
  by_cases h4 : 4 ≤ e ∧ e ≤ 7
  · rw [show stF nd.1 f e v = (if nd.1 = 127 then nF (cT f) 6 (nI v) else 134217762) by unfold stF; rw [if_neg h3, if_pos h4]]
    exact c_stoT1 l D a cA N f ob tr nd e v hB hT hG he h4.1 h4.2
  by_cases h9 : e = 9
  · rw [show stF nd.1 f e v = (if nd.1 = 127 then cF f 9 5 v else 134217762) by unfold stF; rw [if_neg h3, if_neg h4, if_pos h9]]
    exact c_stoG0 l D a cA N f ob tr nd e v hB hT hG he h9 (hv1 (by rw [h9]; rfl))
  by_cases h10 : 10 ≤ e ∧ e ≤ 13
  · rw [show stF nd.1 f e v = (if nd.1 = 127 then nF (cG f) 5 (nI v) else 134217762) by unfold stF; rw [if_neg h3, if_neg h4, if_neg h9, if_pos h10]]
    exact c_stoG1 l D a cA N f ob tr nd e v hB hT hG he h10.1 h10.2
  by_cases h8 : e = 8
  · rw [show stF nd.1 f e v = (if 240 < v ∧ v < 254 then 101253168 else 0) by unfold stF; rw [if_neg h3, if_neg h4, if_neg h9, if_neg h10, if_pos h8]]
    exact c_sto8 l D a cA N f ob tr nd e v hB hT hG he h8 (hv1 (by rw [h8]; rfl))
  · rw [show stF nd.1 f e v = 0 by unfold stF; rw [if_neg h3, if_neg h4, if_neg h9, if_neg h10, if_neg h8]]
    exact c_stoN l D a cA N f ob tr nd e v hB hT hG he h8 (by omega)
set_option maxHeartbeats 4000000 in
set_option maxRecDepth 100000 in
theorem c_store (l : Launch) (D : va_G) (a : Nat → Nat) (cA : ClassId) (N : Int32) (f : Nat → Int32) (ob : OB) (tr : TR) (nd : ND) (sz : Nat) (e0 d0 : Nat) (he0 : e0 < 22) (hen : tr.2.2.2.1 = nI e0) (hdn : tr.2.2.2.2.2.1 = nI d0) (hd0 : d0 ≤ xZ e0) : Met l yX4_store (wX4_store :: wb) ({ frames := 2, cells := 0, slots := 0, locals := 82 } : Room) (va_Pc [.ref (a 0)] (zPre D [(cA, .int)] (cw a cA N f ob tr nd) sz)) (zb_Vv D vwCl (cw a cA N (fSto f tr.1 e0) ob (tr_end tr) (nSto e0 nd)) (va_A (cw a cA N f ob tr nd) sz)) 0 0 (va_A (cw a cA N f ob tr nd) sz) := by
  refine Met.ofW (cc := cX4_store) (maxL := 2) (ret := none) (by decide) rfl ?_
  intro p ev s m args below meth c s₁ B hml hv
  obtain ⟨rfl, hsz, hP, hK, hD0, hSt, hnw⟩ := hv
  have hx := B.exec
  have hb := B.bytes
  have hr := B.returns
  have hts := atoms_spec (ws := wX4_store :: wb) B.pre
  have htb : ∀ w ∈ wb, w.before ([.ref (a 0)]).toArray s = true := fun w h => hts w (List.mem_cons_of_mem _ h)
  have hown : s.vm.findClass RX4 = some m.cls := findClass_of_methodNamed B.named
  have hlocks := B.notSynchronized
  subst hsz
  have hD := hD0.self (sz := s.heap.size)
  clear hD0
  generalize hAe : va_A (cw a cA N f ob tr nd) s.heap.size = A at hD hSt ⊢
  have hA : ∀ q : Nat, s.heap.size ≤ q → A q := fun q h => by rw [← hAe]; exact Or.inr h
  have hS : va_S A s.heap s.heap [] := va_S.rf
  obtain ⟨⟨tt, ff, hZT, hTT, hZF, hTF⟩, hXS⟩ := id hSt
  have hl := lv_entry ([.ref (a 0)]) (n := 2) (Nat.le_of_ble_eq_true rfl)
  rw [lg_entry_eq]
  generalize (lg_sl ([.ref (a 0)]) ++ List.replicate (2 - (lg_sl ([.ref (a 0)])).length) Slot.unset).toArray = ls at hl ⊢
  have hl : lv_has ls 2 [(0, .ref (a 0))] := hl
  refine zb_abs (fun Q hQ => ?_)
  obtain ⟨h0, go0, wr0, en0, ad0, dn0, tu0, ti0⟩ := tr
  obtain rfl : en0 = nI e0 := hen
  obtain rfl : dn0 = nI d0 := hdn
  have hft := x_fit e0 he0
  refine lv_aload_n hx hb dX4_store_0 rfl (lv_at hl 0 rfl) ?_
  refine va_get (D := D) (ci := 4) (v := .ref (a 7)) (fs := [.int N, .ref (a 1), .ref (a 3), .ref (a 4), .ref (a 5), .ref (a 7), .int nd.1, .int nd.2.1, .int nd.2.2.1, .long nd.2.2.2]) (C := RX4) (T := TX4) (N := 10) hx hb htb inX4 hown hK hP 0 rfl rfl 5 (by decide) (htb _ kF_X4_51) (fun _ h9 => h9) rfl dX4_store_1 ?_
  refine va_getN (D := D) (ci := 3) (v := .int (nI e0)) (fs := [.ref (a 8), .int go0, .int wr0, .int (nI e0), .int ad0, .int (nI d0), .int tu0, .int ti0]) (C := RX3) (T := TX3) (N := 8) hx hb htb inX3 hown hK hP 7 rfl rfl 3 (by decide) (va_Nw.use rfl (hnw _ kT_X4_235)) (fun _ h9 => h9) rfl dX4_store_4 ?_
  refine lv_istore_n hx hb dX4_store_7 rfl hl (by decide) rfl (fun ls hl => ?_)
  have hl : lv_has ls 2 [(1, .int (nI e0)), (0, .ref (a 0))] := hl
  refine lv_aload_n hx hb dX4_store_8 rfl (lv_at hl 1 rfl) ?_
  refine va_get (D := D) (ci := 4) (v := .ref (a 1)) (fs := [.int N, .ref (a 1), .ref (a 3), .ref (a 4), .ref (a 5), .ref (a 7), .int nd.1, .int nd.2.1, .int nd.2.2.1, .long nd.2.2.2]) (C := RX4) (T := TX4) (N := 10) hx hb htb inX4 hown hK hP 0 rfl rfl 1 (by decide) (htb _ kF_X4_25) (fun _ h9 => h9) rfl dX4_store_9 ?_
  refine lv_iload_n hx hb dX4_store_12 rfl (lv_at hl 0 rfl) ?_
  refine lv_aload_n hx hb dX4_store_13 rfl (lv_at hl 1 rfl) ?_
  refine va_get (D := D) (ci := 4) (v := .ref (a 7)) (fs := [.int N, .ref (a 1), .ref (a 3), .ref (a 4), .ref (a 5), .ref (a 7), .int nd.1, .int nd.2.1, .int nd.2.2.1, .long nd.2.2.2]) (C := RX4) (T := TX4) (N := 10) hx hb htb inX4 hown hK hP 0 rfl rfl 5 (by decide) (htb _ kF_X4_51) (fun _ h9 => h9) rfl dX4_store_14 ?_
  refine va_getN (D := D) (ci := 3) (v := .ref (a 8)) (fs := [.ref (a 8), .int go0, .int wr0, .int (nI e0), .int ad0, .int (nI d0), .int tu0, .int ti0]) (C := RX3) (T := TX3) (N := 8) hx hb htb inX3 hown hK hP 7 rfl rfl 0 (by decide) (va_Nw.use rfl (hnw _ kT_X4_278)) (fun _ h9 => h9) rfl dX4_store_17 ?_
  refine zb_cv (va_runV (As := [.int (nI e0), .ref (a 8)]) (rest := []) ⟨hx, hb, hml, hown, htb⟩ (c_fill l D a cA N f ob (h0, go0, wr0, nI e0, ad0, nI d0, tu0, ti0) nd _ e0 he0) (cwV 2 htb (wb_V kM_X4_282 kI_X0_fill kS_X0_fill kN_X0 kD_X0_fill) rfl rfl rfl (by decide +kernel) ⟨Nat.le_of_ble_eq_true rfl, Nat.le_of_ble_eq_true rfl⟩) (zp_VW 1 rfl rfl hP hD hK hSt hS hA hnw) rfl rfl hl.1 rfl (lv_room (Nat.le_of_ble_eq_true rfl)) dX4_store_20 ⟨Nat.le_of_ble_eq_true rfl, Nat.le_of_ble_eq_true rfl⟩) hD hS hA (fun H locs hP hD hS => ?_)
  have hP : va_P D vwCl (cw a cA N (va_cpy h0 f 0 (xP e0) (xZ e0)) ob (h0, go0, wr0, nI e0, ad0, nI d0, tu0, ti0) nd) H := hP
  have hD : va_D A (cw a cA N (va_cpy h0 f 0 (xP e0) (xZ e0)) ob (h0, go0, wr0, nI e0, ad0, nI d0, tu0, ti0) nd) := hD
  refine lv_iload_n hx hb dX4_store_23 rfl (lv_at hl 0 rfl) ?_
  refine lv_bipush (v := 8) hx hb dX4_store_24 (by decide) ?_
  refine lv_icmp_ne (tgt := 37) hx hb dX4_store_26 (by decide) (fun hc1 => ?_) (fun hc1 => ?_)
  · refine lv_iload_n hx hb dX4_store_37 rfl (lv_at hl 0 rfl) ?_
    refine lv_iconst (v := 2) hx hb dX4_store_38 (by decide) ?_
    refine lv_icmp_ne (tgt := 47) hx hb dX4_store_39 (by decide) (fun hc2 => ?_) (fun hc2 => ?_)
    · refine lv_aload_n hx hb dX4_store_47 rfl (lv_at hl 1 rfl) ?_
      refine va_get (D := D) (ci := 4) (v := .ref (a 7)) (fs := [.int N, .ref (a 1), .ref (a 3), .ref (a 4), .ref (a 5), .ref (a 7), .int nd.1, .int nd.2.1, .int nd.2.2.1, .long nd.2.2.2]) (C := RX4) (T := TX4) (N := 10) hx hb htb inX4 hown hK hP 0 rfl rfl 5 (by decide) (htb _ kF_X4_51) (fun _ h9 => h9) rfl dX4_store_48 ?_
      refine zb_cv (va_runV (As := []) (rest := []) ⟨hx, hb, hml, hown, htb⟩ (c_trEnd l D a cA N (va_cpy h0 f 0 (xP e0) (xZ e0)) ob (h0, go0, wr0, nI e0, ad0, nI d0, tu0, ti0) nd _ ) (cwV 0 htb (wb_V kM_X4_132 kI_X3_end kS_X3_end kN_X3 kD_X3_end) rfl rfl rfl (by decide +kernel) ⟨Nat.le_of_ble_eq_true rfl, Nat.le_of_ble_eq_true rfl⟩) (zp_VW 7 rfl rfl hP hD hK hSt hS hA hnw) rfl rfl hl.1 rfl (lv_room (Nat.le_of_ble_eq_true rfl)) dX4_store_51 ⟨Nat.le_of_ble_eq_true rfl, Nat.le_of_ble_eq_true rfl⟩) hD hS hA (fun H locs hP hD hS => ?_)
      have hP : va_P D vwCl (cw a cA N (va_cpy h0 f 0 (xP e0) (xZ e0)) ob (tr_end (h0, go0, wr0, nI e0, ad0, nI d0, tu0, ti0)) nd) H := hP
      have hD : va_D A (cw a cA N (va_cpy h0 f 0 (xP e0) (xZ e0)) ob (tr_end (h0, go0, wr0, nI e0, ad0, nI d0, tu0, ti0)) nd) := hD
      rw [hQ]
      have hw9 : (cw a cA N (va_cpy h0 f 0 (xP e0) (xZ e0)) ob (tr_end (h0, go0, wr0, nI e0, ad0, nI d0, tu0, ti0)) nd) = (cw a cA N (fSto f (h0, go0, wr0, nI e0, ad0, nI d0, tu0, ti0).1 e0) ob (tr_end (h0, go0, wr0, nI e0, ad0, nI d0, tu0, ti0)) (nSto e0 nd)) := by first | (simp only [nSto, if_neg hc1, if_neg hc2]; done) | (simp only [nSto, if_neg hc1, if_neg hc2]; rfl)
      exact W.vret hx hb hr (fun t ht hW => ⟨rfl, by rw [ht, ← hw9]; exact hP, by rw [← hw9]; exact hD, hS.F ht⟩) hS.2.2 dX4_store_54
    refine lv_aload_n hx hb dX4_store_42 rfl (lv_at hl 1 rfl) ?_
    refine lv_iconst (v := 0) hx hb dX4_store_43 (by decide) ?_
    refine va_put (D := D) (ci := 4) (v := .int 0) (fs := [.int N, .ref (a 1), .ref (a 3), .ref (a 4), .ref (a 5), .ref (a 7), .int nd.1, .int nd.2.1, .int nd.2.2.1, .long nd.2.2.2]) (ty := .int) (C := RX4) (T := TX4) (N := 10) hx hb htb inX4 tyX4 tyX4_ok nmX4 hown hK hP hD hS 0 rfl rfl 8 (by decide) (htb _ kF_X4_138) (fun _ h9 => h9) rfl (by decide +kernel) rfl rfl (Nat.le_of_ble_eq_true rfl) dX4_store_44 (fun H locs hP hD hS => ?_)
    have hP : va_P D vwCl (cw a cA N (va_cpy h0 f 0 (xP e0) (xZ e0)) ob (h0, go0, wr0, nI e0, ad0, nI d0, tu0, ti0) (nd.1, nd.2.1, 0, nd.2.2.2)) H := hP
    have hD : va_D A (cw a cA N (va_cpy h0 f 0 (xP e0) (xZ e0)) ob (h0, go0, wr0, nI e0, ad0, nI d0, tu0, ti0) (nd.1, nd.2.1, 0, nd.2.2.2)) := hD
    refine lv_aload_n hx hb dX4_store_47 rfl (lv_at hl 1 rfl) ?_
    refine va_get (D := D) (ci := 4) (v := .ref (a 7)) (fs := [.int N, .ref (a 1), .ref (a 3), .ref (a 4), .ref (a 5), .ref (a 7), .int nd.1, .int nd.2.1, .int 0, .long nd.2.2.2]) (C := RX4) (T := TX4) (N := 10) hx hb htb inX4 hown hK hP 0 rfl rfl 5 (by decide) (htb _ kF_X4_51) (fun _ h9 => h9) rfl dX4_store_48 ?_
    refine zb_cv (va_runV (As := []) (rest := []) ⟨hx, hb, hml, hown, htb⟩ (c_trEnd l D a cA N (va_cpy h0 f 0 (xP e0) (xZ e0)) ob (h0, go0, wr0, nI e0, ad0, nI d0, tu0, ti0) (nd.1, nd.2.1, 0, nd.2.2.2) _ ) (cwV 0 htb (wb_V kM_X4_132 kI_X3_end kS_X3_end kN_X3 kD_X3_end) rfl rfl rfl (by decide +kernel) ⟨Nat.le_of_ble_eq_true rfl, Nat.le_of_ble_eq_true rfl⟩) (zp_VW 7 rfl rfl hP hD hK hSt hS hA hnw) rfl rfl hl.1 rfl (lv_room (Nat.le_of_ble_eq_true rfl)) dX4_store_51 ⟨Nat.le_of_ble_eq_true rfl, Nat.le_of_ble_eq_true rfl⟩) hD hS hA (fun H locs hP hD hS => ?_)
    have hP : va_P D vwCl (cw a cA N (va_cpy h0 f 0 (xP e0) (xZ e0)) ob (tr_end (h0, go0, wr0, nI e0, ad0, nI d0, tu0, ti0)) (nd.1, nd.2.1, 0, nd.2.2.2)) H := hP
    have hD : va_D A (cw a cA N (va_cpy h0 f 0 (xP e0) (xZ e0)) ob (tr_end (h0, go0, wr0, nI e0, ad0, nI d0, tu0, ti0)) (nd.1, nd.2.1, 0, nd.2.2.2)) := hD
    rw [hQ]
    have hw9 : (cw a cA N (va_cpy h0 f 0 (xP e0) (xZ e0)) ob (tr_end (h0, go0, wr0, nI e0, ad0, nI d0, tu0, ti0)) (nd.1, nd.2.1, 0, nd.2.2.2)) = (cw a cA N (fSto f (h0, go0, wr0, nI e0, ad0, nI d0, tu0, ti0).1 e0) ob (tr_end (h0, go0, wr0, nI e0, ad0, nI d0, tu0, ti0)) (nSto e0 nd)) := by first | (simp only [nSto, if_neg hc1, if_pos hc2]; done) | (simp only [nSto, if_neg hc1, if_pos hc2]; rfl)
    exact W.vret hx hb hr (fun t ht hW => ⟨rfl, by rw [ht, ← hw9]; exact hP, by rw [← hw9]; exact hD, hS.F ht⟩) hS.2.2 dX4_store_54
  refine lv_aload_n hx hb dX4_store_29 rfl (lv_at hl 1 rfl) ?_
  refine lv_iconst (v := 0) hx hb dX4_store_30 (by decide) ?_
  refine va_put (D := D) (ci := 4) (v := .int 0) (fs := [.int N, .ref (a 1), .ref (a 3), .ref (a 4), .ref (a 5), .ref (a 7), .int nd.1, .int nd.2.1, .int nd.2.2.1, .long nd.2.2.2]) (ty := .int) (C := RX4) (T := TX4) (N := 10) hx hb htb inX4 tyX4 tyX4_ok nmX4 hown hK hP hD hS 0 rfl rfl 7 (by decide) (htb _ kF_X4_135) (fun _ h9 => h9) rfl (by decide +kernel) rfl rfl (Nat.le_of_ble_eq_true rfl) dX4_store_31 (fun H locs hP hD hS => ?_)
  have hP : va_P D vwCl (cw a cA N (va_cpy h0 f 0 (xP e0) (xZ e0)) ob (h0, go0, wr0, nI e0, ad0, nI d0, tu0, ti0) (nd.1, 0, nd.2.2.1, nd.2.2.2)) H := hP
  have hD : va_D A (cw a cA N (va_cpy h0 f 0 (xP e0) (xZ e0)) ob (h0, go0, wr0, nI e0, ad0, nI d0, tu0, ti0) (nd.1, 0, nd.2.2.1, nd.2.2.2)) := hD
  refine lv_goto (tgt := 47) hx hb dX4_store_34 (by decide) ?_
  refine lv_aload_n hx hb dX4_store_47 rfl (lv_at hl 1 rfl) ?_
  refine va_get (D := D) (ci := 4) (v := .ref (a 7)) (fs := [.int N, .ref (a 1), .ref (a 3), .ref (a 4), .ref (a 5), .ref (a 7), .int nd.1, .int 0, .int nd.2.2.1, .long nd.2.2.2]) (C := RX4) (T := TX4) (N := 10) hx hb htb inX4 hown hK hP 0 rfl rfl 5 (by decide) (htb _ kF_X4_51) (fun _ h9 => h9) rfl dX4_store_48 ?_
  refine zb_cv (va_runV (As := []) (rest := []) ⟨hx, hb, hml, hown, htb⟩ (c_trEnd l D a cA N (va_cpy h0 f 0 (xP e0) (xZ e0)) ob (h0, go0, wr0, nI e0, ad0, nI d0, tu0, ti0) (nd.1, 0, nd.2.2.1, nd.2.2.2) _ ) (cwV 0 htb (wb_V kM_X4_132 kI_X3_end kS_X3_end kN_X3 kD_X3_end) rfl rfl rfl (by decide +kernel) ⟨Nat.le_of_ble_eq_true rfl, Nat.le_of_ble_eq_true rfl⟩) (zp_VW 7 rfl rfl hP hD hK hSt hS hA hnw) rfl rfl hl.1 rfl (lv_room (Nat.le_of_ble_eq_true rfl)) dX4_store_51 ⟨Nat.le_of_ble_eq_true rfl, Nat.le_of_ble_eq_true rfl⟩) hD hS hA (fun H locs hP hD hS => ?_)
  have hP : va_P D vwCl (cw a cA N (va_cpy h0 f 0 (xP e0) (xZ e0)) ob (tr_end (h0, go0, wr0, nI e0, ad0, nI d0, tu0, ti0)) (nd.1, 0, nd.2.2.1, nd.2.2.2)) H := hP
  have hD : va_D A (cw a cA N (va_cpy h0 f 0 (xP e0) (xZ e0)) ob (tr_end (h0, go0, wr0, nI e0, ad0, nI d0, tu0, ti0)) (nd.1, 0, nd.2.2.1, nd.2.2.2)) := hD
  rw [hQ]
  have hw9 : (cw a cA N (va_cpy h0 f 0 (xP e0) (xZ e0)) ob (tr_end (h0, go0, wr0, nI e0, ad0, nI d0, tu0, ti0)) (nd.1, 0, nd.2.2.1, nd.2.2.2)) = (cw a cA N (fSto f (h0, go0, wr0, nI e0, ad0, nI d0, tu0, ti0).1 e0) ob (tr_end (h0, go0, wr0, nI e0, ad0, nI d0, tu0, ti0)) (nSto e0 nd)) := by first | (simp only [nSto, if_pos hc1]; done) | (simp only [nSto, if_pos hc1]; rfl)
  exact W.vret hx hb hr (fun t ht hW => ⟨rfl, by rw [ht, ← hw9]; exact hP, by rw [← hw9]; exact hD, hS.F ht⟩) hS.2.2 dX4_store_54
