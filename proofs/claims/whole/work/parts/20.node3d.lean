set_option maxHeartbeats 4000000 in
set_option maxRecDepth 100000 in
theorem c_rseg (l : Launch) (D : va_G) (a : Nat → Nat) (cA : ClassId) (N : Int32) (f : Nat → Int32) (ob : OB) (tr : TR) (nd : ND) (sz : Nat) (fi e0 d0 ad0 : Nat) (hB : isB f) (ho : obK ob) (hfi : fi < 256) (he0 : e0 < 22) (hen : tr.2.2.2.1 = nI e0) (hdn : tr.2.2.2.2.2.1 = nI d0) (hd0 : d0 ≤ xZ e0) (hada : tr.2.2.2.2.1 = nI ad0) (had0 : ad0 < 2 ^ 24) : Met l yX4_readSegment (wX4_readSegment :: wb) ({ frames := 3, cells := 0, slots := 0, locals := 70 } : Room) (va_Pc [.ref (a 0), .int (nI fi)] (zPre D [(cA, .int)] (cw a cA N f ob tr nd) sz)) (zb_Vv D vwCl (c4 a cA N (kRSeg N f ob tr nd fi e0 d0 ad0)) (va_A (cw a cA N f ob tr nd) sz)) 0 0 (va_A (cw a cA N f ob tr nd) sz) := by
  refine Met.ofW (cc := cX4_readSegment) (maxL := 7) (ret := none) (by decide) rfl ?_
  intro p ev s m args below meth c s₁ B hml hv
  obtain ⟨rfl, hsz, hP, hK, hD0, hSt, hnw⟩ := hv
  have hx := B.exec
  have hb := B.bytes
  have hr := B.returns
  have hts := atoms_spec (ws := wX4_readSegment :: wb) B.pre
  have htb : ∀ w ∈ wb, w.before ([.ref (a 0), .int (nI fi)]).toArray s = true := fun w h => hts w (List.mem_cons_of_mem _ h)
  have hown : s.vm.findClass RX4 = some m.cls := findClass_of_methodNamed B.named
  have hlocks := B.notSynchronized
  subst hsz
  have hD := hD0.self (sz := s.heap.size)
  clear hD0
  generalize hAe : va_A (cw a cA N f ob tr nd) s.heap.size = A at hD hSt ⊢
  have hA : ∀ q : Nat, s.heap.size ≤ q → A q := fun q h => by rw [← hAe]; exact Or.inr h
  have hS : va_S A s.heap s.heap [] := va_S.rf
  obtain ⟨⟨tt, ff, hZT, hTT, hZF, hTF⟩, hXS⟩ := id hSt
  have hl := lv_entry ([.ref (a 0), .int (nI fi)]) (n := 7) (Nat.le_of_ble_eq_true rfl)
  rw [lg_entry_eq]
  generalize (lg_sl ([.ref (a 0), .int (nI fi)]) ++ List.replicate (7 - (lg_sl ([.ref (a 0), .int (nI fi)])).length) Slot.unset).toArray = ls at hl ⊢
  have hl : lv_has ls 7 [(0, .ref (a 0)), (1, .int (nI fi))] := hl
  refine zb_abs (fun Q hQ => ?_)
  obtain ⟨h0, go0, wr0, en0, ad9, dn0, tu0, ti0⟩ := tr
  obtain rfl : en0 = nI e0 := hen
  obtain rfl : dn0 = nI d0 := hdn
  obtain rfl : ad9 = nI ad0 := hada
  have hft := x_fit e0 he0
  obtain ⟨kp, hkp32, hkp⟩ := id ho
  refine lv_aload_n hx hb dX4_readSegment_0 rfl (lv_at hl 0 rfl) ?_
  refine lv_iload_n hx hb dX4_readSegment_1 rfl (lv_at hl 1 rfl) ?_
  refine lv_iconst (v := 0) hx hb dX4_readSegment_2 (by decide) ?_
  refine zb_ci (va_runV (As := [.int (nI fi), .int 0]) (rest := []) ⟨hx, hb, hml, hown, htb⟩ (c_segF l D a cA N f ob (h0, go0, wr0, nI e0, nI ad0, nI d0, tu0, ti0) nd fi 0) (cwV 2 htb (wb_V kM_X4_226 kI_X4_segmentFault kS_X4_segmentFault kN_X4 kD_X4_segmentFault) rfl rfl rfl (by decide +kernel) ⟨Nat.le_of_ble_eq_true rfl, Nat.le_of_ble_eq_true rfl⟩) (zp_V 0 rfl rfl hP hK hSt hS hnw) rfl rfl hl.1 rfl (lv_room (Nat.le_of_ble_eq_true rfl)) dX4_readSegment_3 ⟨Nat.le_of_ble_eq_true rfl, Nat.le_of_ble_eq_true rfl⟩) ?_
  refine lv_istore_n hx hb dX4_readSegment_6 rfl hl (by decide) rfl (fun ls hl => ?_)
  have hl : lv_has ls 7 [(2, .int (nI (sF (h0, go0, wr0, nI e0, nI ad0, nI d0, tu0, ti0) fi 0))), (0, .ref (a 0)), (1, .int (nI fi))] := hl
  refine lv_iload_n hx hb dX4_readSegment_7 rfl (lv_at hl 0 rfl) ?_
  refine lv_if_eq (tgt := 24) hx hb dX4_readSegment_8 (by decide) (fun hc1 => ?_) (fun hc1 => ?_)
  · refine lv_bipush (v := 7) hx hb dX4_readSegment_24 (by decide) ?_
    refine lv_aload_n hx hb dX4_readSegment_26 rfl (lv_at hl 1 rfl) ?_
    refine va_get (D := D) (ci := 4) (v := .ref (a 7)) (fs := [.int N, .ref (a 1), .ref (a 3), .ref (a 4), .ref (a 5), .ref (a 7), .int nd.1, .int nd.2.1, .int nd.2.2.1, .long nd.2.2.2]) (C := RX4) (T := TX4) (N := 10) hx hb htb inX4 hown hK hP 0 rfl rfl 5 (by decide) (htb _ kF_X4_51) (fun _ h9 => h9) rfl dX4_readSegment_27 ?_
    refine zb_ci (va_runV (As := []) (rest := [.int 7]) ⟨hx, hb, hml, hown, htb⟩ (c_left l D a cA N f ob (h0, go0, wr0, nI e0, nI ad0, nI d0, tu0, ti0) nd e0 d0 he0 rfl rfl hd0) (cwV 0 htb (wb_V kM_X4_231 kI_X3_left kS_X3_left kN_X3 kD_X3_left) rfl rfl rfl (by decide +kernel) ⟨Nat.le_of_ble_eq_true rfl, Nat.le_of_ble_eq_true rfl⟩) (zp_V 7 rfl rfl hP hK hSt hS hnw) rfl rfl hl.1 rfl (lv_room (Nat.le_of_ble_eq_true rfl)) dX4_readSegment_30 ⟨Nat.le_of_ble_eq_true rfl, Nat.le_of_ble_eq_true rfl⟩) ?_
    refine va_mmin hx hb (by rw [hml]; exact hl.1.symm) hown (htb _ kM_X4_7) (htb _ kZ_min) (htb _ kN_Math) (htb _ kD_min) (Nat.le_of_ble_eq_true rfl) (Nat.le_of_ble_eq_true rfl) (Nat.le_of_ble_eq_true rfl) (Nat.le_of_ble_eq_true rfl) dX4_readSegment_33 ?_
    refine zb_ti (y := nI (rc e0 d0)) (by show (if nI (xZ e0 - d0) < nI 7 then nI (xZ e0 - d0) else nI 7) = nI (rc e0 d0); unfold rc; rcases Nat.lt_or_ge (xZ e0 - d0) 7 with h9 | h9; rw [if_pos (nI_lt h9 (by decide)), Nat.min_eq_right (by omega)]; rw [if_neg (nI_nlt h9 (by omega)), Nat.min_eq_left (by omega)]) ?_
    refine lv_istore_n hx hb dX4_readSegment_36 rfl hl (by decide) rfl (fun ls hl => ?_)
    have hl : lv_has ls 7 [(3, .int (nI (rc e0 d0))), (2, .int (nI (sF (h0, go0, wr0, nI e0, nI ad0, nI d0, tu0, ti0) fi 0))), (0, .ref (a 0)), (1, .int (nI fi))] := hl
    refine lv_aload_n hx hb dX4_readSegment_37 rfl (lv_at hl 2 rfl) ?_
    refine va_get (D := D) (ci := 4) (v := .ref (a 1)) (fs := [.int N, .ref (a 1), .ref (a 3), .ref (a 4), .ref (a 5), .ref (a 7), .int nd.1, .int nd.2.1, .int nd.2.2.1, .long nd.2.2.2]) (C := RX4) (T := TX4) (N := 10) hx hb htb inX4 hown hK hP 0 rfl rfl 1 (by decide) (htb _ kF_X4_25) (fun _ h9 => h9) rfl dX4_readSegment_38 ?_
    refine lv_aload_n hx hb dX4_readSegment_41 rfl (lv_at hl 2 rfl) ?_
    refine va_get (D := D) (ci := 4) (v := .ref (a 7)) (fs := [.int N, .ref (a 1), .ref (a 3), .ref (a 4), .ref (a 5), .ref (a 7), .int nd.1, .int nd.2.1, .int nd.2.2.1, .long nd.2.2.2]) (C := RX4) (T := TX4) (N := 10) hx hb htb inX4 hown hK hP 0 rfl rfl 5 (by decide) (htb _ kF_X4_51) (fun _ h9 => h9) rfl dX4_readSegment_42 ?_
    refine va_getN (D := D) (ci := 3) (v := .int (nI e0)) (fs := [.ref (a 8), .int go0, .int wr0, .int (nI e0), .int (nI ad0), .int (nI d0), .int tu0, .int ti0]) (C := RX3) (T := TX3) (N := 8) hx hb htb inX3 hown hK hP 7 rfl rfl 3 (by decide) (va_Nw.use rfl (hnw _ kT_X4_235)) (fun _ h9 => h9) rfl dX4_readSegment_45 ?_
    refine lv_aload_n hx hb dX4_readSegment_48 rfl (lv_at hl 2 rfl) ?_
    refine va_get (D := D) (ci := 4) (v := .ref (a 7)) (fs := [.int N, .ref (a 1), .ref (a 3), .ref (a 4), .ref (a 5), .ref (a 7), .int nd.1, .int nd.2.1, .int nd.2.2.1, .long nd.2.2.2]) (C := RX4) (T := TX4) (N := 10) hx hb htb inX4 hown hK hP 0 rfl rfl 5 (by decide) (htb _ kF_X4_51) (fun _ h9 => h9) rfl dX4_readSegment_49 ?_
    refine va_getN (D := D) (ci := 3) (v := .int (nI d0)) (fs := [.ref (a 8), .int go0, .int wr0, .int (nI e0), .int (nI ad0), .int (nI d0), .int tu0, .int ti0]) (C := RX3) (T := TX3) (N := 8) hx hb htb inX3 hown hK hP 7 rfl rfl 5 (by decide) (va_Nw.use rfl (hnw _ kT_X4_241)) (fun _ h9 => h9) rfl dX4_readSegment_52 ?_
    refine lv_iload_n hx hb dX4_readSegment_55 rfl (lv_at hl 0 rfl) ?_
    refine zb_cl (va_runV (As := [.int (nI e0), .int (nI d0), .int (nI (rc e0 d0))]) (rest := []) ⟨hx, hb, hml, hown, htb⟩ (c_part l D a cA N f ob (h0, go0, wr0, nI e0, nI ad0, nI d0, tu0, ti0) nd e0 d0 (rc e0 d0) hB he0 (by unfold rc; omega) (by unfold rc; omega)) (cwV 3 htb (wb_V kM_X4_145 kI_X0_part kS_X0_part kN_X0 kD_X0_part) rfl rfl rfl (by decide +kernel) ⟨Nat.le_of_ble_eq_true rfl, Nat.le_of_ble_eq_true rfl⟩) (zp_V 1 rfl rfl hP hK hSt hS hnw) rfl rfl hl.1 rfl (lv_room (Nat.le_of_ble_eq_true rfl)) dX4_readSegment_56 ⟨Nat.le_of_ble_eq_true rfl, Nat.le_of_ble_eq_true rfl⟩) ?_
    refine lv_lstore hx hb dX4_readSegment_59 hl (by decide) rfl (fun ls hl => ?_)
    have hl : lv_has ls 7 [(4, .long (lN (sm f (xP e0 + d0) (rc e0 d0)))), (3, .int (nI (rc e0 d0))), (2, .int (nI (sF (h0, go0, wr0, nI e0, nI ad0, nI d0, tu0, ti0) fi 0))), (0, .ref (a 0)), (1, .int (nI fi))] := hl
    refine lv_iload_n hx hb dX4_readSegment_61 rfl (lv_at hl 4 rfl) ?_
    refine lv_bipush (v := 16) hx hb dX4_readSegment_62 (by decide) ?_
    refine lv_iand hx hb dX4_readSegment_64 ?_
    refine lv_iconst (v := 2) hx hb dX4_readSegment_65 (by decide) ?_
    refine lv_bipush (v := 7) hx hb dX4_readSegment_66 (by decide) ?_
    refine lv_iload_n hx hb dX4_readSegment_68 rfl (lv_at hl 1 rfl) ?_
    refine lv_isub hx hb dX4_readSegment_69 ?_
    refine lv_imul hx hb dX4_readSegment_70 ?_
    refine lv_iadd hx hb dX4_readSegment_71 ?_
    refine zb_ti (y := nI (fi / 16 % 2 * 16 + 2 * (7 - rc e0 d0))) (hd16 hfi (by unfold rc; omega)) ?_
    refine lv_istore hx hb dX4_readSegment_72 hl (by decide) rfl (fun ls hl => ?_)
    have hl : lv_has ls 7 [(6, .int (nI (fi / 16 % 2 * 16 + 2 * (7 - rc e0 d0)))), (4, .long (lN (sm f (xP e0 + d0) (rc e0 d0)))), (3, .int (nI (rc e0 d0))), (2, .int (nI (sF (h0, go0, wr0, nI e0, nI ad0, nI d0, tu0, ti0) fi 0))), (0, .ref (a 0)), (1, .int (nI fi))] := hl
    refine lv_aload_n hx hb dX4_readSegment_74 rfl (lv_at hl 4 rfl) ?_
    refine va_get (D := D) (ci := 4) (v := .ref (a 7)) (fs := [.int N, .ref (a 1), .ref (a 3), .ref (a 4), .ref (a 5), .ref (a 7), .int nd.1, .int nd.2.1, .int nd.2.2.1, .long nd.2.2.2]) (C := RX4) (T := TX4) (N := 10) hx hb htb inX4 hown hK hP 0 rfl rfl 5 (by decide) (htb _ kF_X4_51) (fun _ h9 => h9) rfl dX4_readSegment_75 ?_
    refine lv_dup hx hb dX4_readSegment_78 rfl ?_
    refine va_getN (D := D) (ci := 3) (v := .int (nI d0)) (fs := [.ref (a 8), .int go0, .int wr0, .int (nI e0), .int (nI ad0), .int (nI d0), .int tu0, .int ti0]) (C := RX3) (T := TX3) (N := 8) hx hb htb inX3 hown hK hP 7 rfl rfl 5 (by decide) (va_Nw.use rfl (hnw _ kT_X4_241)) (fun _ h9 => h9) rfl dX4_readSegment_79 ?_
    refine lv_iload_n hx hb dX4_readSegment_82 rfl (lv_at hl 2 rfl) ?_
    refine lv_iadd hx hb dX4_readSegment_83 ?_
    refine zb_ti (nI_add d0 (rc e0 d0)) ?_
    refine va_putN (D := D) (ci := 3) (v := .int (nI (d0 + (rc e0 d0)))) (fs := [.ref (a 8), .int go0, .int wr0, .int (nI e0), .int (nI ad0), .int (nI d0), .int tu0, .int ti0]) (ty := .int) (C := RX3) (T := TX3) (N := 8) hx hb htb inX3 tyX3 tyX3_ok nmX3 hown hK hP hD hS 7 rfl rfl 5 (by decide) (va_Nw.use rfl (hnw _ kT_X4_241)) (fun _ h9 => h9) rfl (by decide +kernel) rfl rfl (Nat.le_of_ble_eq_true rfl) dX4_readSegment_84 (fun H locs hP hD hS => ?_)
    have hP : va_P D vwCl (cw a cA N f ob (h0, go0, wr0, nI e0, nI ad0, nI (d0 + (rc e0 d0)), tu0, ti0) nd) H := hP
    have hD : va_D A (cw a cA N f ob (h0, go0, wr0, nI e0, nI ad0, nI (d0 + (rc e0 d0)), tu0, ti0) nd) := hD
    have hP : va_P D vwCl (cw a cA N f ob (trR (h0, go0, wr0, nI e0, nI ad0, nI d0, tu0, ti0) e0 d0) nd) H := hP
    have hD : va_D A (cw a cA N f ob (trR (h0, go0, wr0, nI e0, nI ad0, nI d0, tu0, ti0) e0 d0) nd) := hD
    refine lv_aload_n hx hb dX4_readSegment_87 rfl (lv_at hl 4 rfl) ?_
    refine va_get (D := D) (ci := 4) (v := .ref (a 7)) (fs := [.int N, .ref (a 1), .ref (a 3), .ref (a 4), .ref (a 5), .ref (a 7), .int nd.1, .int nd.2.1, .int nd.2.2.1, .long nd.2.2.2]) (C := RX4) (T := TX4) (N := 10) hx hb htb inX4 hown hK hP 0 rfl rfl 5 (by decide) (htb _ kF_X4_51) (fun _ h9 => h9) rfl dX4_readSegment_88 ?_
    refine zb_ci (va_runV (As := []) (rest := []) ⟨hx, hb, hml, hown, htb⟩ (c_left l D a cA N f ob (trR (h0, go0, wr0, nI e0, nI ad0, nI d0, tu0, ti0) e0 d0) nd e0 (d0 + rc e0 d0) he0 rfl rfl (by unfold rc; omega)) (cwV 0 htb (wb_V kM_X4_231 kI_X3_left kS_X3_left kN_X3 kD_X3_left) rfl rfl rfl (by decide +kernel) ⟨Nat.le_of_ble_eq_true rfl, Nat.le_of_ble_eq_true rfl⟩) (zp_V 7 rfl rfl hP hK hSt hS hnw) rfl rfl hl.1 rfl (lv_room (Nat.le_of_ble_eq_true rfl)) dX4_readSegment_91 ⟨Nat.le_of_ble_eq_true rfl, Nat.le_of_ble_eq_true rfl⟩) ?_
    refine lv_if_ne (tgt := 110) hx hb dX4_readSegment_94 (by decide) (fun hc2 => ?_) (fun hc2 => ?_)
    · refine lv_aload_n hx hb dX4_readSegment_110 rfl (lv_at hl 4 rfl) ?_
      refine va_get (D := D) (ci := 4) (v := .ref (a 7)) (fs := [.int N, .ref (a 1), .ref (a 3), .ref (a 4), .ref (a 5), .ref (a 7), .int nd.1, .int nd.2.1, .int nd.2.2.1, .long nd.2.2.2]) (C := RX4) (T := TX4) (N := 10) hx hb htb inX4 hown hK hP 0 rfl rfl 5 (by decide) (htb _ kF_X4_51) (fun _ h9 => h9) rfl dX4_readSegment_111 ?_
      refine zb_cv (va_runV (As := []) (rest := []) ⟨hx, hb, hml, hown, htb⟩ (c_trNext l D a cA N f ob (trR (h0, go0, wr0, nI e0, nI ad0, nI d0, tu0, ti0) e0 d0) nd _ ) (cwV 0 htb (wb_V kM_X4_238 kI_X3_awaitNext kS_X3_awaitNext kN_X3 kD_X3_awaitNext) rfl rfl rfl (by decide +kernel) ⟨Nat.le_of_ble_eq_true rfl, Nat.le_of_ble_eq_true rfl⟩) (zp_VW 7 rfl rfl hP hD hK hSt hS hA hnw) rfl rfl hl.1 rfl (lv_room (Nat.le_of_ble_eq_true rfl)) dX4_readSegment_114 ⟨Nat.le_of_ble_eq_true rfl, Nat.le_of_ble_eq_true rfl⟩) hD hS hA (fun H locs hP hD hS => ?_)
      have hP : va_P D vwCl (cw a cA N f ob (tr_next (trR (h0, go0, wr0, nI e0, nI ad0, nI d0, tu0, ti0) e0 d0)) nd) H := hP
      have hD : va_D A (cw a cA N f ob (tr_next (trR (h0, go0, wr0, nI e0, nI ad0, nI d0, tu0, ti0) e0 d0)) nd) := hD
      refine lv_aload_n hx hb dX4_readSegment_117 rfl (lv_at hl 4 rfl) ?_
      refine va_get (D := D) (ci := 4) (v := .ref (a 5)) (fs := [.int N, .ref (a 1), .ref (a 3), .ref (a 4), .ref (a 5), .ref (a 7), .int nd.1, .int nd.2.1, .int nd.2.2.1, .long nd.2.2.2]) (C := RX4) (T := TX4) (N := 10) hx hb htb inX4 hown hK hP 0 rfl rfl 4 (by decide) (htb _ kF_X4_44) (fun _ h9 => h9) rfl dX4_readSegment_118 ?_
      refine lv_sipush (v := 1408) hx hb dX4_readSegment_121 (by decide) ?_
      refine lv_aload_n hx hb dX4_readSegment_124 rfl (lv_at hl 4 rfl) ?_
      refine va_get (D := D) (ci := 4) (v := .int N) (fs := [.int N, .ref (a 1), .ref (a 3), .ref (a 4), .ref (a 5), .ref (a 7), .int nd.1, .int nd.2.1, .int nd.2.2.1, .long nd.2.2.2]) (C := RX4) (T := TX4) (N := 10) hx hb htb inX4 hown hK hP 0 rfl rfl 0 (by decide) (htb _ kF_X4_16) (fun _ h9 => h9) rfl dX4_readSegment_125 ?_
      refine lv_iadd hx hb dX4_readSegment_128 ?_
      refine lv_bipush (v := 8) hx hb dX4_readSegment_129 (by decide) ?_
      refine lv_lload hx hb dX4_readSegment_131 (lv_at hl 1 rfl) ?_
      refine lv_bipush (v := 8) hx hb dX4_readSegment_133 (by decide) ?_
      refine lv_lshl hx hb dX4_readSegment_135 rfl ?_
      refine lv_iload hx hb dX4_readSegment_136 (lv_at hl 0 rfl) ?_
      refine lv_i2l hx hb dX4_readSegment_138 rfl ?_
      refine lv_lor hx hb dX4_readSegment_139 ?_
      have h8r := sm_lt hB (xP e0 + d0) (rc e0 d0)
      have h9r : 2 ^ (8 * rc e0 d0) ≤ 2 ^ 56 := Nat.pow_le_pow_right (by decide) (by unfold rc; omega)
      have hrc : rc e0 d0 ≤ 7 := by unfold rc; omega
      refine zb_tl (y := lN (rx f fi e0 d0 0)) (rx_or (b := fi / 16 % 2 * 16 + 2 * (7 - rc e0 d0) + 0) (by omega) (by omega)) ?_
      refine zb_cv (va_runV (As := [.int (1408 + N), .int 8, .long (lN (rx f fi e0 d0 0))]) (rest := []) ⟨hx, hb, hml, hown, htb⟩ (c_send l D a cA N f ob (tr_next (trR (h0, go0, wr0, nI e0, nI ad0, nI d0, tu0, ti0) e0 d0)) nd _ kp (1408 + N) 8 (rx f fi e0 d0 0) hkp hkp32 (by unfold rx; omega)) (cwV 3 htb (wb_V kM_X4_141 kI_X2_send kS_X2_send kN_X2 kD_X2_send) rfl rfl rfl (by decide +kernel) ⟨Nat.le_of_ble_eq_true rfl, Nat.le_of_ble_eq_true rfl⟩) (zp_VW 5 rfl rfl hP hD hK hSt hS hA hnw) rfl rfl hl.1 rfl (lv_room (Nat.le_of_ble_eq_true rfl)) dX4_readSegment_140 ⟨Nat.le_of_ble_eq_true rfl, Nat.le_of_ble_eq_true rfl⟩) hD hS hA (fun H locs hP hD hS => ?_)
      have hP : va_P D vwCl (cw a cA N f (ob_send ob (1408 + N) 8 (rx f fi e0 d0 0)) (tr_next (trR (h0, go0, wr0, nI e0, nI ad0, nI d0, tu0, ti0) e0 d0)) nd) H := hP
      have hD : va_D A (cw a cA N f (ob_send ob (1408 + N) 8 (rx f fi e0 d0 0)) (tr_next (trR (h0, go0, wr0, nI e0, nI ad0, nI d0, tu0, ti0) e0 d0)) nd) := hD
      rw [hQ]
      have hw9 : (cw a cA N f (ob_send ob (1408 + N) 8 (rx f fi e0 d0 0)) (tr_next (trR (h0, go0, wr0, nI e0, nI ad0, nI d0, tu0, ti0) e0 d0)) nd) = (c4 a cA N (kRSeg N f ob (h0, go0, wr0, nI e0, nI ad0, nI d0, tu0, ti0) nd fi e0 d0 ad0)) := by simp only [kRSeg, if_pos hc1, if_neg hc2]; rfl
      exact W.vret hx hb hr (fun t ht hW => ⟨rfl, by rw [ht, ← hw9]; exact hP, by rw [← hw9]; exact hD, hS.F ht⟩) hS.2.2 dX4_readSegment_143
    refine lv_iinc (k := 0) (v := nI ((fi / 16 % 2 * 16 + 2 * (7 - rc e0 d0)) + 1)) hx hb dX4_readSegment_97 hl rfl (nI_1 (fi / 16 % 2 * 16 + 2 * (7 - rc e0 d0))) (by decide) rfl (fun ls hl => ?_)
    have hl : lv_has ls 7 [(6, .int (nI ((fi / 16 % 2 * 16 + 2 * (7 - rc e0 d0)) + 1))), (4, .long (lN (sm f (xP e0 + d0) (rc e0 d0)))), (3, .int (nI (rc e0 d0))), (2, .int (nI (sF (h0, go0, wr0, nI e0, nI ad0, nI d0, tu0, ti0) fi 0))), (0, .ref (a 0)), (1, .int (nI fi))] := hl
    refine lv_aload_n hx hb dX4_readSegment_100 rfl (lv_at hl 4 rfl) ?_
    refine va_get (D := D) (ci := 4) (v := .ref (a 7)) (fs := [.int N, .ref (a 1), .ref (a 3), .ref (a 4), .ref (a 5), .ref (a 7), .int nd.1, .int nd.2.1, .int nd.2.2.1, .long nd.2.2.2]) (C := RX4) (T := TX4) (N := 10) hx hb htb inX4 hown hK hP 0 rfl rfl 5 (by decide) (htb _ kF_X4_51) (fun _ h9 => h9) rfl dX4_readSegment_101 ?_
    refine zb_cv (va_runV (As := []) (rest := []) ⟨hx, hb, hml, hown, htb⟩ (c_trEnd l D a cA N f ob (trR (h0, go0, wr0, nI e0, nI ad0, nI d0, tu0, ti0) e0 d0) nd _ ) (cwV 0 htb (wb_V kM_X4_132 kI_X3_end kS_X3_end kN_X3 kD_X3_end) rfl rfl rfl (by decide +kernel) ⟨Nat.le_of_ble_eq_true rfl, Nat.le_of_ble_eq_true rfl⟩) (zp_VW 7 rfl rfl hP hD hK hSt hS hA hnw) rfl rfl hl.1 rfl (lv_room (Nat.le_of_ble_eq_true rfl)) dX4_readSegment_104 ⟨Nat.le_of_ble_eq_true rfl, Nat.le_of_ble_eq_true rfl⟩) hD hS hA (fun H locs hP hD hS => ?_)
    have hP : va_P D vwCl (cw a cA N f ob (tr_end (trR (h0, go0, wr0, nI e0, nI ad0, nI d0, tu0, ti0) e0 d0)) nd) H := hP
    have hD : va_D A (cw a cA N f ob (tr_end (trR (h0, go0, wr0, nI e0, nI ad0, nI d0, tu0, ti0) e0 d0)) nd) := hD
    refine lv_goto (tgt := 117) hx hb dX4_readSegment_107 (by decide) ?_
    refine lv_aload_n hx hb dX4_readSegment_117 rfl (lv_at hl 4 rfl) ?_
    refine va_get (D := D) (ci := 4) (v := .ref (a 5)) (fs := [.int N, .ref (a 1), .ref (a 3), .ref (a 4), .ref (a 5), .ref (a 7), .int nd.1, .int nd.2.1, .int nd.2.2.1, .long nd.2.2.2]) (C := RX4) (T := TX4) (N := 10) hx hb htb inX4 hown hK hP 0 rfl rfl 4 (by decide) (htb _ kF_X4_44) (fun _ h9 => h9) rfl dX4_readSegment_118 ?_
    refine lv_sipush (v := 1408) hx hb dX4_readSegment_121 (by decide) ?_
    refine lv_aload_n hx hb dX4_readSegment_124 rfl (lv_at hl 4 rfl) ?_
    refine va_get (D := D) (ci := 4) (v := .int N) (fs := [.int N, .ref (a 1), .ref (a 3), .ref (a 4), .ref (a 5), .ref (a 7), .int nd.1, .int nd.2.1, .int nd.2.2.1, .long nd.2.2.2]) (C := RX4) (T := TX4) (N := 10) hx hb htb inX4 hown hK hP 0 rfl rfl 0 (by decide) (htb _ kF_X4_16) (fun _ h9 => h9) rfl dX4_readSegment_125 ?_
    refine lv_iadd hx hb dX4_readSegment_128 ?_
    refine lv_bipush (v := 8) hx hb dX4_readSegment_129 (by decide) ?_
    refine lv_lload hx hb dX4_readSegment_131 (lv_at hl 1 rfl) ?_
    refine lv_bipush (v := 8) hx hb dX4_readSegment_133 (by decide) ?_
    refine lv_lshl hx hb dX4_readSegment_135 rfl ?_
    refine lv_iload hx hb dX4_readSegment_136 (lv_at hl 0 rfl) ?_
    refine lv_i2l hx hb dX4_readSegment_138 rfl ?_
    refine lv_lor hx hb dX4_readSegment_139 ?_
    have h8r := sm_lt hB (xP e0 + d0) (rc e0 d0)
    have h9r : 2 ^ (8 * rc e0 d0) ≤ 2 ^ 56 := Nat.pow_le_pow_right (by decide) (by unfold rc; omega)
    have hrc : rc e0 d0 ≤ 7 := by unfold rc; omega
    refine zb_tl (y := lN (rx f fi e0 d0 1)) (rx_or (b := fi / 16 % 2 * 16 + 2 * (7 - rc e0 d0) + 1) (by omega) (by omega)) ?_
    refine zb_cv (va_runV (As := [.int (1408 + N), .int 8, .long (lN (rx f fi e0 d0 1))]) (rest := []) ⟨hx, hb, hml, hown, htb⟩ (c_send l D a cA N f ob (tr_end (trR (h0, go0, wr0, nI e0, nI ad0, nI d0, tu0, ti0) e0 d0)) nd _ kp (1408 + N) 8 (rx f fi e0 d0 1) hkp hkp32 (by unfold rx; omega)) (cwV 3 htb (wb_V kM_X4_141 kI_X2_send kS_X2_send kN_X2 kD_X2_send) rfl rfl rfl (by decide +kernel) ⟨Nat.le_of_ble_eq_true rfl, Nat.le_of_ble_eq_true rfl⟩) (zp_VW 5 rfl rfl hP hD hK hSt hS hA hnw) rfl rfl hl.1 rfl (lv_room (Nat.le_of_ble_eq_true rfl)) dX4_readSegment_140 ⟨Nat.le_of_ble_eq_true rfl, Nat.le_of_ble_eq_true rfl⟩) hD hS hA (fun H locs hP hD hS => ?_)
    have hP : va_P D vwCl (cw a cA N f (ob_send ob (1408 + N) 8 (rx f fi e0 d0 1)) (tr_end (trR (h0, go0, wr0, nI e0, nI ad0, nI d0, tu0, ti0) e0 d0)) nd) H := hP
    have hD : va_D A (cw a cA N f (ob_send ob (1408 + N) 8 (rx f fi e0 d0 1)) (tr_end (trR (h0, go0, wr0, nI e0, nI ad0, nI d0, tu0, ti0) e0 d0)) nd) := hD
    rw [hQ]
    have hw9 : (cw a cA N f (ob_send ob (1408 + N) 8 (rx f fi e0 d0 1)) (tr_end (trR (h0, go0, wr0, nI e0, nI ad0, nI d0, tu0, ti0) e0 d0)) nd) = (c4 a cA N (kRSeg N f ob (h0, go0, wr0, nI e0, nI ad0, nI d0, tu0, ti0) nd fi e0 d0 ad0)) := by simp only [kRSeg, if_pos hc1, if_pos hc2]; rfl
    exact W.vret hx hb hr (fun t ht hW => ⟨rfl, by rw [ht, ← hw9]; exact hP, by rw [← hw9]; exact hD, hS.F ht⟩) hS.2.2 dX4_readSegment_143
  refine lv_aload_n hx hb dX4_readSegment_11 rfl (lv_at hl 1 rfl) ?_
  refine lv_aload_n hx hb dX4_readSegment_12 rfl (lv_at hl 1 rfl) ?_
  refine va_get (D := D) (ci := 4) (v := .ref (a 7)) (fs := [.int N, .ref (a 1), .ref (a 3), .ref (a 4), .ref (a 5), .ref (a 7), .int nd.1, .int nd.2.1, .int nd.2.2.1, .long nd.2.2.2]) (C := RX4) (T := TX4) (N := 10) hx hb htb inX4 hown hK hP 0 rfl rfl 5 (by decide) (htb _ kF_X4_51) (fun _ h9 => h9) rfl dX4_readSegment_13 ?_
  refine va_getN (D := D) (ci := 3) (v := .int (nI ad0)) (fs := [.ref (a 8), .int go0, .int wr0, .int (nI e0), .int (nI ad0), .int (nI d0), .int tu0, .int ti0]) (C := RX3) (T := TX3) (N := 8) hx hb htb inX3 hown hK hP 7 rfl rfl 4 (by decide) (va_Nw.use rfl (hnw _ kT_X4_98)) (fun _ h9 => h9) rfl dX4_readSegment_16 ?_
  refine zb_ti (y := nI ad0) (rfl) ?_
  refine lv_iload_n hx hb dX4_readSegment_19 rfl (lv_at hl 0 rfl) ?_
  refine zb_cv (va_runV (As := [.int (nI ad0), .int (nI (sF (h0, go0, wr0, nI e0, nI ad0, nI d0, tu0, ti0) fi 0))]) (rest := []) ⟨hx, hb, hml, hown, htb⟩ (c_abort l D a cA N f ob (h0, go0, wr0, nI e0, nI ad0, nI d0, tu0, ti0) nd _ ad0 (sF (h0, go0, wr0, nI e0, nI ad0, nI d0, tu0, ti0) fi 0) ho (by omega) (sF_lt _ _ _)) (cwV 2 htb (wb_V kM_X4_102 kI_X4_abort kS_X4_abort kN_X4 kD_X4_abort) rfl rfl rfl (by decide +kernel) ⟨Nat.le_of_ble_eq_true rfl, Nat.le_of_ble_eq_true rfl⟩) (zp_VW 0 rfl rfl hP hD hK hSt hS hA hnw) rfl rfl hl.1 rfl (lv_room (Nat.le_of_ble_eq_true rfl)) dX4_readSegment_20 ⟨Nat.le_of_ble_eq_true rfl, Nat.le_of_ble_eq_true rfl⟩) hD hS hA (fun H locs hP hD hS => ?_)
  have hP : va_P D vwCl (cw a cA N f (kAns N ob 128 ad0 (sF (h0, go0, wr0, nI e0, nI ad0, nI d0, tu0, ti0) fi 0)) (tr_end (h0, go0, wr0, nI e0, nI ad0, nI d0, tu0, ti0)) nd) H := hP
  have hD : va_D A (cw a cA N f (kAns N ob 128 ad0 (sF (h0, go0, wr0, nI e0, nI ad0, nI d0, tu0, ti0) fi 0)) (tr_end (h0, go0, wr0, nI e0, nI ad0, nI d0, tu0, ti0)) nd) := hD
  rw [hQ]
  have hw9 : (cw a cA N f (kAns N ob 128 ad0 (sF (h0, go0, wr0, nI e0, nI ad0, nI d0, tu0, ti0) fi 0)) (tr_end (h0, go0, wr0, nI e0, nI ad0, nI d0, tu0, ti0)) nd) = (c4 a cA N (kRSeg N f ob (h0, go0, wr0, nI e0, nI ad0, nI d0, tu0, ti0) nd fi e0 d0 ad0)) := by simp only [kRSeg, if_neg hc1]; rfl
  exact W.vret hx hb hr (fun t ht hW => ⟨rfl, by rw [ht, ← hw9]; exact hP, by rw [← hw9]; exact hD, hS.F ht⟩) hS.2.2 dX4_readSegment_23
