set_option maxHeartbeats 4000000 in
set_option maxRecDepth 100000 in
theorem c_read (l : Launch) (D : va_G) (a : Nat → Nat) (cA : ClassId) (N : Int32) (f : Nat → Int32) (ob : OB) (tr : TR) (nd : ND) (sz : Nat) (ad : Nat) (hB : isB f) (hT : mapK f 3 6) (hG : mapK f 9 5) (ho : obK ob) (had : ad < 2 ^ 24) : Met l yX4_read (wX4_read :: wb) ({ frames := 3, cells := 0, slots := 0, locals := 70 } : Room) (va_Pc [.ref (a 0), .int (nI ad)] (zPre D [(cA, .int)] (cw a cA N f ob tr nd) sz)) (zb_Vv D vwCl (c4 a cA N (kRead N f ob tr nd ad)) (va_A (cw a cA N f ob tr nd) sz)) 0 0 (va_A (cw a cA N f ob tr nd) sz) := by
  refine Met.ofW (cc := cX4_read) (maxL := 5) (ret := none) (by decide) rfl ?_
  intro p ev s m args below meth c s₁ B hml hv
  obtain ⟨rfl, hsz, hP, hK, hD0, hSt, hnw⟩ := hv
  have hx := B.exec
  have hb := B.bytes
  have hr := B.returns
  have hts := atoms_spec (ws := wX4_read :: wb) B.pre
  have htb : ∀ w ∈ wb, w.before ([.ref (a 0), .int (nI ad)]).toArray s = true := fun w h => hts w (List.mem_cons_of_mem _ h)
  have hown : s.vm.findClass RX4 = some m.cls := findClass_of_methodNamed B.named
  have hlocks := B.notSynchronized
  subst hsz
  have hD := hD0.self (sz := s.heap.size)
  clear hD0
  generalize hAe : va_A (cw a cA N f ob tr nd) s.heap.size = A at hD hSt ⊢
  have hA : ∀ q : Nat, s.heap.size ≤ q → A q := fun q h => by rw [← hAe]; exact Or.inr h
  have hS : va_S A s.heap s.heap [] := va_S.rf
  obtain ⟨⟨tt, ff, hZT, hTT, hZF, hTF⟩, hXS⟩ := id hSt
  have hl := lv_entry ([.ref (a 0), .int (nI ad)]) (n := 5) (Nat.le_of_ble_eq_true rfl)
  rw [lg_entry_eq]
  generalize (lg_sl ([.ref (a 0), .int (nI ad)]) ++ List.replicate (5 - (lg_sl ([.ref (a 0), .int (nI ad)])).length) Slot.unset).toArray = ls at hl ⊢
  have hl : lv_has ls 5 [(0, .ref (a 0)), (1, .int (nI ad))] := hl
  refine zb_abs (fun Q hQ => ?_)
  refine lv_aload_n hx hb dX4_read_0 rfl (lv_at hl 0 rfl) ?_
  refine va_get (D := D) (ci := 4) (v := .ref (a 7)) (fs := [.int N, .ref (a 1), .ref (a 3), .ref (a 4), .ref (a 5), .ref (a 7), .int nd.1, .int nd.2.1, .int nd.2.2.1, .long nd.2.2.2]) (C := RX4) (T := TX4) (N := 10) hx hb htb inX4 hown hK hP 0 rfl rfl 5 (by decide) (htb _ kF_X4_51) (fun _ h9 => h9) rfl dX4_read_1 ?_
  refine zb_cv (va_runV (As := []) (rest := []) ⟨hx, hb, hml, hown, htb⟩ (c_trEnd l D a cA N f ob tr nd _ ) (cwV 0 htb (wb_V kM_X4_132 kI_X3_end kS_X3_end kN_X3 kD_X3_end) rfl rfl rfl (by decide +kernel) ⟨Nat.le_of_ble_eq_true rfl, Nat.le_of_ble_eq_true rfl⟩) (zp_VW 7 rfl rfl hP hD hK hSt hS hA hnw) rfl rfl hl.1 rfl (lv_room (Nat.le_of_ble_eq_true rfl)) dX4_read_4 ⟨Nat.le_of_ble_eq_true rfl, Nat.le_of_ble_eq_true rfl⟩) hD hS hA (fun H locs hP hD hS => ?_)
  have hP : va_P D vwCl (cw a cA N f ob (tr_end tr) nd) H := hP
  have hD : va_D A (cw a cA N f ob (tr_end tr) nd) := hD
  refine lv_aload_n hx hb dX4_read_7 rfl (lv_at hl 0 rfl) ?_
  refine lv_iload_n hx hb dX4_read_8 rfl (lv_at hl 1 rfl) ?_
  refine zb_ci (va_runV (As := [.int (nI ad)]) (rest := []) ⟨hx, hb, hml, hown, htb⟩ (c_entryAt l D a cA N f ob (tr_end tr) nd ad had) (cwV 1 htb (wb_V kM_X4_197 kI_X4_entryAt kS_X4_entryAt kN_X4 kD_X4_entryAt) rfl rfl rfl (by decide +kernel) ⟨Nat.le_of_ble_eq_true rfl, Nat.le_of_ble_eq_true rfl⟩) (zp_V 0 rfl rfl hP hK hSt hS hnw) rfl rfl hl.1 rfl (lv_room (Nat.le_of_ble_eq_true rfl)) dX4_read_9 ⟨Nat.le_of_ble_eq_true rfl, Nat.le_of_ble_eq_true rfl⟩) ?_
  cases hea : eAt ad with
  | none =>
    refine zb_ti (y := (-1)) (rfl) ?_
    refine lv_istore_n hx hb dX4_read_12 rfl hl (by decide) rfl (fun ls hl => ?_)
    have hl : lv_has ls 5 [(2, .int (-1)), (0, .ref (a 0)), (1, .int (nI ad))] := hl
    refine lv_aload_n hx hb dX4_read_13 rfl (lv_at hl 1 rfl) ?_
    refine lv_iload_n hx hb dX4_read_14 rfl (lv_at hl 0 rfl) ?_
    refine lv_iload_n hx hb dX4_read_15 rfl (lv_at hl 2 rfl) ?_
    refine lv_iconst (v := 1) hx hb dX4_read_16 (by decide) ?_
    refine zb_ci (va_runV (As := [.int (-1), .int (nI ad), .int 1]) (rest := []) ⟨hx, hb, hml, hown, htb⟩ (c_accN l D a cA N f ob (tr_end tr) nd ad 1 (by omega)) (cwV 3 htb (wb_V kM_X4_200 kI_X4_accessFault kS_X4_accessFault kN_X4 kD_X4_accessFault) rfl rfl rfl (by decide +kernel) ⟨Nat.le_of_ble_eq_true rfl, Nat.le_of_ble_eq_true rfl⟩) (zp_V 0 rfl rfl hP hK hSt hS hnw) rfl rfl hl.1 rfl (lv_room (Nat.le_of_ble_eq_true rfl)) dX4_read_17 ⟨Nat.le_of_ble_eq_true rfl, Nat.le_of_ble_eq_true rfl⟩) ?_
    refine lv_istore_n hx hb dX4_read_20 rfl hl (by decide) rfl (fun ls hl => ?_)
    have hl : lv_has ls 5 [(3, .int (nI (aX ad))), (2, .int (-1)), (0, .ref (a 0)), (1, .int (nI ad))] := hl
    refine lv_iload_n hx hb dX4_read_21 rfl (lv_at hl 0 rfl) ?_
    refine lv_if_eq (tgt := 32) hx hb dX4_read_22 (by decide) (fun hno => absurd hno (aN_ne _)) (fun _ => ?_)
    refine lv_aload_n hx hb dX4_read_25 rfl (lv_at hl 2 rfl) ?_
    refine lv_iload_n hx hb dX4_read_26 rfl (lv_at hl 3 rfl) ?_
    refine lv_iload_n hx hb dX4_read_27 rfl (lv_at hl 0 rfl) ?_
    refine zb_cv (va_runV (As := [.int (nI ad), .int (nI (aX ad))]) (rest := []) ⟨hx, hb, hml, hown, htb⟩ (c_abort l D a cA N f ob (tr_end tr) nd _ ad (aX ad) ho (by omega) (aN_lt _)) (cwV 2 htb (wb_V kM_X4_102 kI_X4_abort kS_X4_abort kN_X4 kD_X4_abort) rfl rfl rfl (by decide +kernel) ⟨Nat.le_of_ble_eq_true rfl, Nat.le_of_ble_eq_true rfl⟩) (zp_VW 0 rfl rfl hP hD hK hSt hS hA hnw) rfl rfl hl.1 rfl (lv_room (Nat.le_of_ble_eq_true rfl)) dX4_read_28 ⟨Nat.le_of_ble_eq_true rfl, Nat.le_of_ble_eq_true rfl⟩) hD hS hA (fun H locs hP hD hS => ?_)
    have hP : va_P D vwCl (cw a cA N f (kAns N ob 128 ad (aX ad)) (tr_end (tr_end tr)) nd) H := hP
    have hD : va_D A (cw a cA N f (kAns N ob 128 ad (aX ad)) (tr_end (tr_end tr)) nd) := hD
    rw [hQ]
    have hw9 : (cw a cA N f (kAns N ob 128 ad (aX ad)) (tr_end (tr_end tr)) nd) = (c4 a cA N (kRead N f ob tr nd ad)) := by simp only [kRead, hea, Option.elim, kAbort]; rfl
    exact W.vret hx hb hr (fun t ht hW => ⟨rfl, by rw [ht, ← hw9]; exact hP, by rw [← hw9]; exact hD, hS.F ht⟩) hS.2.2 dX4_read_31
  | some e9 =>
    refine zb_ti (y := nI e9) (rfl) ?_
    have h22_e9 : e9 < 22 := (fun h => (fd_lt h).1) hea
    refine lv_istore_n hx hb dX4_read_12 rfl hl (by decide) rfl (fun ls hl => ?_)
    have hl : lv_has ls 5 [(2, .int (nI e9)), (0, .ref (a 0)), (1, .int (nI ad))] := hl
    refine lv_aload_n hx hb dX4_read_13 rfl (lv_at hl 1 rfl) ?_
    refine lv_iload_n hx hb dX4_read_14 rfl (lv_at hl 0 rfl) ?_
    refine lv_iload_n hx hb dX4_read_15 rfl (lv_at hl 2 rfl) ?_
    refine lv_iconst (v := 1) hx hb dX4_read_16 (by decide) ?_
    refine zb_ci (va_runV (As := [.int (nI e9), .int (nI ad), .int 1]) (rest := []) ⟨hx, hb, hml, hown, htb⟩ (c_accS l D a cA N f ob (tr_end tr) nd e9 ad 1 h22_e9) (cwV 3 htb (wb_V kM_X4_200 kI_X4_accessFault kS_X4_accessFault kN_X4 kD_X4_accessFault) rfl rfl rfl (by decide +kernel) ⟨Nat.le_of_ble_eq_true rfl, Nat.le_of_ble_eq_true rfl⟩) (zp_V 0 rfl rfl hP hK hSt hS hnw) rfl rfl hl.1 rfl (lv_room (Nat.le_of_ble_eq_true rfl)) dX4_read_17 ⟨Nat.le_of_ble_eq_true rfl, Nat.le_of_ble_eq_true rfl⟩) ?_
    refine lv_istore_n hx hb dX4_read_20 rfl hl (by decide) rfl (fun ls hl => ?_)
    have hl : lv_has ls 5 [(3, .int (nI (aS e9 1))), (2, .int (nI e9)), (0, .ref (a 0)), (1, .int (nI ad))] := hl
    refine lv_iload_n hx hb dX4_read_21 rfl (lv_at hl 0 rfl) ?_
    refine lv_if_eq (tgt := 32) hx hb dX4_read_22 (by decide) (fun hc1 => ?_) (fun hc1 => ?_)
    · have hft9 := x_fit e9 h22_e9
      refine lv_iload_n hx hb dX4_read_32 rfl (lv_at hl 1 rfl) ?_
      refine zb_ci (va_runS (As := [.int (nI e9)]) (rest := []) ⟨hx, hb, hml, hown, htb⟩ (c_sizeOf l D a cA N f ob (tr_end tr) nd e9 h22_e9) (va_cwS 1 htb (wb_S kM_X4_108 kZ_X0_sizeOf kN_X0 kD_X0_sizeOf) rfl rfl rfl (by decide +kernel) ⟨Nat.le_of_ble_eq_true rfl, Nat.le_of_ble_eq_true rfl⟩) (zp_S hP hK hSt hS hnw) rfl rfl hl.1 rfl (lv_room (Nat.le_of_ble_eq_true rfl)) dX4_read_33 ⟨Nat.le_of_ble_eq_true rfl, Nat.le_of_ble_eq_true rfl⟩) ?_
      refine lv_istore hx hb dX4_read_36 hl (by decide) rfl (fun ls hl => ?_)
      have hl : lv_has ls 5 [(4, .int (nI (xZ e9))), (3, .int (nI (aS e9 1))), (2, .int (nI e9)), (0, .ref (a 0)), (1, .int (nI ad))] := hl
      refine lv_iload hx hb dX4_read_38 (lv_at hl 0 rfl) ?_
      refine lv_iconst (v := 4) hx hb dX4_read_40 (by decide) ?_
      refine lv_icmp_gt (tgt := 73) hx hb dX4_read_41 (by decide) (fun hc2 => ?_) (fun hc2 => ?_)
      · refine lv_aload_n hx hb dX4_read_73 rfl (lv_at hl 3 rfl) ?_
        refine va_get (D := D) (ci := 4) (v := .ref (a 7)) (fs := [.int N, .ref (a 1), .ref (a 3), .ref (a 4), .ref (a 5), .ref (a 7), .int nd.1, .int nd.2.1, .int nd.2.2.1, .long nd.2.2.2]) (C := RX4) (T := TX4) (N := 10) hx hb htb inX4 hown hK hP 0 rfl rfl 5 (by decide) (htb _ kF_X4_51) (fun _ h9 => h9) rfl dX4_read_74 ?_
        refine lv_iload_n hx hb dX4_read_77 rfl (lv_at hl 2 rfl) ?_
        refine lv_iload_n hx hb dX4_read_78 rfl (lv_at hl 4 rfl) ?_
        refine lv_iconst (v := 0) hx hb dX4_read_79 (by decide) ?_
        refine zb_cv (va_runV (As := [.int (nI e9), .int (nI ad), .int 0]) (rest := []) ⟨hx, hb, hml, hown, htb⟩ (c_trBegin l D a cA N f ob (tr_end tr) nd _ (nI e9) (nI ad) 0 (by decide)) (cwV 3 htb (wb_V kM_X4_207 kI_X3_begin kS_X3_begin kN_X3 kD_X3_begin) rfl rfl rfl (by decide +kernel) ⟨Nat.le_of_ble_eq_true rfl, Nat.le_of_ble_eq_true rfl⟩) (zp_VW 7 rfl rfl hP hD hK hSt hS hA hnw) rfl rfl hl.1 rfl (lv_room (Nat.le_of_ble_eq_true rfl)) dX4_read_80 ⟨Nat.le_of_ble_eq_true rfl, Nat.le_of_ble_eq_true rfl⟩) hD hS hA (fun H locs hP hD hS => ?_)
        have hP : va_P D vwCl (cw a cA N f ob (tr_begin (tr_end tr) (nI e9) (nI ad) 0) nd) H := hP
        have hD : va_D A (cw a cA N f ob (tr_begin (tr_end tr) (nI e9) (nI ad) 0) nd) := hD
        refine lv_aload_n hx hb dX4_read_83 rfl (lv_at hl 3 rfl) ?_
        refine lv_bipush (v := 65) hx hb dX4_read_84 (by decide) ?_
        refine lv_iload_n hx hb dX4_read_86 rfl (lv_at hl 4 rfl) ?_
        refine lv_iload hx hb dX4_read_87 (lv_at hl 0 rfl) ?_
        refine zb_cv (va_runV (As := [.int 65, .int (nI ad), .int (nI (xZ e9))]) (rest := []) ⟨hx, hb, hml, hown, htb⟩ (c_answer l D a cA N f ob (tr_begin (tr_end tr) (nI e9) (nI ad) 0) nd _ 65 ad (xZ e9) ho (by decide) had (by omega)) (cwV 3 htb (wb_V kM_X4_223 kI_X4_answer kS_X4_answer kN_X4 kD_X4_answer) rfl rfl rfl (by decide +kernel) ⟨Nat.le_of_ble_eq_true rfl, Nat.le_of_ble_eq_true rfl⟩) (zp_VW 0 rfl rfl hP hD hK hSt hS hA hnw) rfl rfl hl.1 rfl (lv_room (Nat.le_of_ble_eq_true rfl)) dX4_read_89 ⟨Nat.le_of_ble_eq_true rfl, Nat.le_of_ble_eq_true rfl⟩) hD hS hA (fun H locs hP hD hS => ?_)
        have hP : va_P D vwCl (cw a cA N f (kAns N ob 65 ad (xZ e9)) (tr_begin (tr_end tr) (nI e9) (nI ad) 0) nd) H := hP
        have hD : va_D A (cw a cA N f (kAns N ob 65 ad (xZ e9)) (tr_begin (tr_end tr) (nI e9) (nI ad) 0) nd) := hD
        rw [hQ]
        have hw9 : (cw a cA N f (kAns N ob 65 ad (xZ e9)) (tr_begin (tr_end tr) (nI e9) (nI ad) 0) nd) = (c4 a cA N (kRead N f ob tr nd ad)) := by simp only [kRead, hea, Option.elim, if_pos hc1, if_pos hc2]; rfl
        exact W.vret hx hb hr (fun t ht hW => ⟨rfl, by rw [ht, ← hw9]; exact hP, by rw [← hw9]; exact hD, hS.F ht⟩) hS.2.2 dX4_read_92
      have hz4 : xZ e9 ≤ 4 := by have h9 : ¬ 4 < xZ e9 := fun h => hc2 (nI_lt (a := 4) h (by omega)); omega
      refine lv_aload_n hx hb dX4_read_44 rfl (lv_at hl 3 rfl) ?_
      refine lv_bipush (v := 67) hx hb dX4_read_45 (by decide) ?_
      refine lv_iconst (v := 4) hx hb dX4_read_47 (by decide) ?_
      refine lv_iconst (v := 4) hx hb dX4_read_48 (by decide) ?_
      refine lv_iload hx hb dX4_read_49 (lv_at hl 0 rfl) ?_
      refine lv_isub hx hb dX4_read_51 ?_
      refine zb_ti (y := nI (4 - xZ e9)) (pk_sub (a := 4) hz4) ?_
      refine lv_imul hx hb dX4_read_52 ?_
      refine zb_ti (pk_mul 4 (4 - xZ e9)) ?_
      refine lv_iadd hx hb dX4_read_53 ?_
      refine zb_ti (nI_add 67 (4 * (4 - xZ e9))) ?_
      refine lv_iload_n hx hb dX4_read_54 rfl (lv_at hl 4 rfl) ?_
      refine lv_aload_n hx hb dX4_read_55 rfl (lv_at hl 3 rfl) ?_
      refine va_get (D := D) (ci := 4) (v := .ref (a 1)) (fs := [.int N, .ref (a 1), .ref (a 3), .ref (a 4), .ref (a 5), .ref (a 7), .int nd.1, .int nd.2.1, .int nd.2.2.1, .long nd.2.2.2]) (C := RX4) (T := TX4) (N := 10) hx hb htb inX4 hown hK hP 0 rfl rfl 1 (by decide) (htb _ kF_X4_25) (fun _ h9 => h9) rfl dX4_read_56 ?_
      refine lv_iload_n hx hb dX4_read_59 rfl (lv_at hl 2 rfl) ?_
      refine lv_iconst (v := 0) hx hb dX4_read_60 (by decide) ?_
      refine lv_iload hx hb dX4_read_61 (lv_at hl 0 rfl) ?_
      refine zb_cl (va_runV (As := [.int (nI e9), .int 0, .int (nI (xZ e9))]) (rest := [.int (nI ad), .int (nI (67 + (4 * (4 - xZ e9)))), .ref (a 0)]) ⟨hx, hb, hml, hown, htb⟩ (c_part l D a cA N f ob (tr_end tr) nd e9 0 (xZ e9) hB h22_e9 (by omega) (by omega)) (cwV 3 htb (wb_V kM_X4_145 kI_X0_part kS_X0_part kN_X0 kD_X0_part) rfl rfl rfl (by decide +kernel) ⟨Nat.le_of_ble_eq_true rfl, Nat.le_of_ble_eq_true rfl⟩) (zp_V 1 rfl rfl hP hK hSt hS hnw) rfl rfl hl.1 rfl (lv_room (Nat.le_of_ble_eq_true rfl)) dX4_read_63 ⟨Nat.le_of_ble_eq_true rfl, Nat.le_of_ble_eq_true rfl⟩) ?_
      refine lv_l2i hx hb dX4_read_66 rfl ?_
      refine zb_ti (y := nI (sm f (xP e9) (xZ e9))) (by rw [Nat.add_zero]; exact lN_i _) ?_
      refine zb_cv (va_runV (As := [.int (nI (67 + (4 * (4 - xZ e9)))), .int (nI ad), .int (nI (sm f (xP e9) (xZ e9)))]) (rest := []) ⟨hx, hb, hml, hown, htb⟩ (c_answer l D a cA N f ob (tr_end tr) nd _ (67 + (4 * (4 - xZ e9))) ad (sm f (xP e9) (xZ e9)) ho (by omega) had (by have h8 := sm_lt hB (xP e9) (xZ e9); have h9 : 2 ^ (8 * xZ e9) ≤ 2 ^ 32 := Nat.pow_le_pow_right (by decide) (by omega); omega)) (cwV 3 htb (wb_V kM_X4_223 kI_X4_answer kS_X4_answer kN_X4 kD_X4_answer) rfl rfl rfl (by decide +kernel) ⟨Nat.le_of_ble_eq_true rfl, Nat.le_of_ble_eq_true rfl⟩) (zp_VW 0 rfl rfl hP hD hK hSt hS hA hnw) rfl rfl hl.1 rfl (lv_room (Nat.le_of_ble_eq_true rfl)) dX4_read_67 ⟨Nat.le_of_ble_eq_true rfl, Nat.le_of_ble_eq_true rfl⟩) hD hS hA (fun H locs hP hD hS => ?_)
      have hP : va_P D vwCl (cw a cA N f (kAns N ob (67 + (4 * (4 - xZ e9))) ad (sm f (xP e9) (xZ e9))) (tr_end tr) nd) H := hP
      have hD : va_D A (cw a cA N f (kAns N ob (67 + (4 * (4 - xZ e9))) ad (sm f (xP e9) (xZ e9))) (tr_end tr) nd) := hD
      refine lv_goto (tgt := 92) hx hb dX4_read_70 (by decide) ?_
      rw [hQ]
      have hw9 : (cw a cA N f (kAns N ob (67 + (4 * (4 - xZ e9))) ad (sm f (xP e9) (xZ e9))) (tr_end tr) nd) = (c4 a cA N (kRead N f ob tr nd ad)) := by simp only [kRead, hea, Option.elim, if_pos hc1, if_neg hc2]; rfl
      exact W.vret hx hb hr (fun t ht hW => ⟨rfl, by rw [ht, ← hw9]; exact hP, by rw [← hw9]; exact hD, hS.F ht⟩) hS.2.2 dX4_read_92
    refine lv_aload_n hx hb dX4_read_25 rfl (lv_at hl 2 rfl) ?_
    refine lv_iload_n hx hb dX4_read_26 rfl (lv_at hl 3 rfl) ?_
    refine lv_iload_n hx hb dX4_read_27 rfl (lv_at hl 0 rfl) ?_
    refine zb_cv (va_runV (As := [.int (nI ad), .int (nI (aS e9 1))]) (rest := []) ⟨hx, hb, hml, hown, htb⟩ (c_abort l D a cA N f ob (tr_end tr) nd _ ad (aS e9 1) ho (by omega) (aS_lt _ _)) (cwV 2 htb (wb_V kM_X4_102 kI_X4_abort kS_X4_abort kN_X4 kD_X4_abort) rfl rfl rfl (by decide +kernel) ⟨Nat.le_of_ble_eq_true rfl, Nat.le_of_ble_eq_true rfl⟩) (zp_VW 0 rfl rfl hP hD hK hSt hS hA hnw) rfl rfl hl.1 rfl (lv_room (Nat.le_of_ble_eq_true rfl)) dX4_read_28 ⟨Nat.le_of_ble_eq_true rfl, Nat.le_of_ble_eq_true rfl⟩) hD hS hA (fun H locs hP hD hS => ?_)
    have hP : va_P D vwCl (cw a cA N f (kAns N ob 128 ad (aS e9 1)) (tr_end (tr_end tr)) nd) H := hP
    have hD : va_D A (cw a cA N f (kAns N ob 128 ad (aS e9 1)) (tr_end (tr_end tr)) nd) := hD
    rw [hQ]
    have hw9 : (cw a cA N f (kAns N ob 128 ad (aS e9 1)) (tr_end (tr_end tr)) nd) = (c4 a cA N (kRead N f ob tr nd ad)) := by simp only [kRead, hea, Option.elim, if_neg hc1]; rfl
    exact W.vret hx hb hr (fun t ht hW => ⟨rfl, by rw [ht, ← hw9]; exact hP, by rw [← hw9]; exact hD, hS.F ht⟩) hS.2.2 dX4_read_31
