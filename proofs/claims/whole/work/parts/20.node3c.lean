set_option maxHeartbeats 4000000 in
set_option maxRecDepth 100000 in
theorem c_wseg (l : Launch) (D : va_G) (a : Nat → Nat) (cA : ClassId) (N : Int32) (f : Nat → Int32) (ob : OB) (tr : TR) (nd : ND) (sz : Nat) (fi x e0 d0 ad0 : Nat) (hB : isB f) (hT : mapK f 3 6) (hG : mapK f 9 5) (ho : obK ob) (hBh : isB tr.1) (hfi : fi < 256) (hx64 : x < 2 ^ 64) (he0 : e0 < 22) (hen : tr.2.2.2.1 = nI e0) (hdn : tr.2.2.2.2.2.1 = nI d0) (hd0 : d0 ≤ xZ e0) (hada : tr.2.2.2.2.1 = nI ad0) (had0 : ad0 < 2 ^ 24) : Met l yX4_writeSegment (wX4_writeSegment :: wb) ({ frames := 4, cells := 0, slots := 0, locals := 103 } : Room) (va_Pc [.ref (a 0), .int (nI fi), .long (lN x)] (zPre D [(cA, .int)] (cw a cA N f ob tr nd) sz)) (zb_Vv D vwCl (c4 a cA N (kWSeg N f ob tr nd fi x e0 d0 ad0)) (va_A (cw a cA N f ob tr nd) sz)) 0 0 (va_A (cw a cA N f ob tr nd) sz) := by
  refine Met.ofW (cc := cX4_writeSegment) (maxL := 6) (ret := none) (by decide) rfl ?_
  intro p ev s m args below meth c s₁ B hml hv
  obtain ⟨rfl, hsz, hP, hK, hD0, hSt, hnw⟩ := hv
  have hx := B.exec
  have hb := B.bytes
  have hr := B.returns
  have hts := atoms_spec (ws := wX4_writeSegment :: wb) B.pre
  have htb : ∀ w ∈ wb, w.before ([.ref (a 0), .int (nI fi), .long (lN x)]).toArray s = true := fun w h => hts w (List.mem_cons_of_mem _ h)
  have hown : s.vm.findClass RX4 = some m.cls := findClass_of_methodNamed B.named
  have hlocks := B.notSynchronized
  subst hsz
  have hD := hD0.self (sz := s.heap.size)
  clear hD0
  generalize hAe : va_A (cw a cA N f ob tr nd) s.heap.size = A at hD hSt ⊢
  have hA : ∀ q : Nat, s.heap.size ≤ q → A q := fun q h => by rw [← hAe]; exact Or.inr h
  have hS : va_S A s.heap s.heap [] := va_S.rf
  obtain ⟨⟨tt, ff, hZT, hTT, hZF, hTF⟩, hXS⟩ := id hSt
  have hl := lv_entry ([.ref (a 0), .int (nI fi), .long (lN x)]) (n := 6) (Nat.le_of_ble_eq_true rfl)
  rw [lg_entry_eq]
  generalize (lg_sl ([.ref (a 0), .int (nI fi), .long (lN x)]) ++ List.replicate (6 - (lg_sl ([.ref (a 0), .int (nI fi), .long (lN x)])).length) Slot.unset).toArray = ls at hl ⊢
  have hl : lv_has ls 6 [(0, .ref (a 0)), (1, .int (nI fi)), (2, .long (lN x))] := hl
  refine zb_abs (fun Q hQ => ?_)
  obtain ⟨h0, go0, wr0, en0, ad9, dn0, tu0, ti0⟩ := tr
  obtain rfl : en0 = nI e0 := hen
  obtain rfl : dn0 = nI d0 := hdn
  obtain rfl : ad9 = nI ad0 := hada
  have hft := x_fit e0 he0
  refine lv_iload_n hx hb dX4_writeSegment_0 rfl (lv_at hl 1 rfl) ?_
  refine lv_iconst (v := 1) hx hb dX4_writeSegment_1 (by decide) ?_
  refine lv_iand hx hb dX4_writeSegment_2 ?_
  refine lv_if_eq (tgt := 10) hx hb dX4_writeSegment_3 (by decide) (fun hc1 => ?_) (fun hc1 => ?_)
  · refine lv_iconst (v := 0) hx hb dX4_writeSegment_10 (by decide) ?_
    refine lv_istore hx hb dX4_writeSegment_11 hl (by decide) rfl (fun ls hl => ?_)
    have hl : lv_has ls 6 [(4, .int 0), (0, .ref (a 0)), (1, .int (nI fi)), (2, .long (lN x))] := hl
    refine lv_aload_n hx hb dX4_writeSegment_13 rfl (lv_at hl 1 rfl) ?_
    refine lv_iload_n hx hb dX4_writeSegment_14 rfl (lv_at hl 2 rfl) ?_
    refine lv_iconst (v := 1) hx hb dX4_writeSegment_15 (by decide) ?_
    refine zb_ci (va_runV (As := [.int (nI fi), .int 1]) (rest := []) ⟨hx, hb, hml, hown, htb⟩ (c_segF l D a cA N f ob (h0, go0, wr0, nI e0, nI ad0, nI d0, tu0, ti0) nd fi 1) (cwV 2 htb (wb_V kM_X4_226 kI_X4_segmentFault kS_X4_segmentFault kN_X4 kD_X4_segmentFault) rfl rfl rfl (by decide +kernel) ⟨Nat.le_of_ble_eq_true rfl, Nat.le_of_ble_eq_true rfl⟩) (zp_V 0 rfl rfl hP hK hSt hS hnw) rfl rfl hl.1 rfl (lv_room (Nat.le_of_ble_eq_true rfl)) dX4_writeSegment_16 ⟨Nat.le_of_ble_eq_true rfl, Nat.le_of_ble_eq_true rfl⟩) ?_
    refine lv_istore hx hb dX4_writeSegment_19 hl (by decide) rfl (fun ls hl => ?_)
    have hl : lv_has ls 6 [(5, .int (nI (sF (h0, go0, wr0, nI e0, nI ad0, nI d0, tu0, ti0) fi 1))), (4, .int 0), (0, .ref (a 0)), (1, .int (nI fi)), (2, .long (lN x))] := hl
    refine lv_iload hx hb dX4_writeSegment_21 (lv_at hl 0 rfl) ?_
    refine lv_if_ne (tgt := 50) hx hb dX4_writeSegment_23 (by decide) (fun hc2 => ?_) (fun hc2 => ?_)
    · refine lv_iload hx hb dX4_writeSegment_50 (lv_at hl 0 rfl) ?_
      refine lv_if_ne (tgt := 95) hx hb dX4_writeSegment_52 (by decide) (fun _ => ?_) (fun hno => absurd hno hc2)
      refine lv_iload hx hb dX4_writeSegment_95 (lv_at hl 0 rfl) ?_
      refine lv_if_eq (tgt := 114) hx hb dX4_writeSegment_97 (by decide) (fun hno => absurd hno hc2) (fun _ => ?_)
      refine lv_aload_n hx hb dX4_writeSegment_100 rfl (lv_at hl 2 rfl) ?_
      refine lv_aload_n hx hb dX4_writeSegment_101 rfl (lv_at hl 2 rfl) ?_
      refine va_get (D := D) (ci := 4) (v := .ref (a 7)) (fs := [.int N, .ref (a 1), .ref (a 3), .ref (a 4), .ref (a 5), .ref (a 7), .int nd.1, .int nd.2.1, .int nd.2.2.1, .long nd.2.2.2]) (C := RX4) (T := TX4) (N := 10) hx hb htb inX4 hown hK hP 0 rfl rfl 5 (by decide) (htb _ kF_X4_51) (fun _ h9 => h9) rfl dX4_writeSegment_102 ?_
      refine va_getN (D := D) (ci := 3) (v := .int (nI ad0)) (fs := [.ref (a 8), .int go0, .int wr0, .int (nI e0), .int (nI ad0), .int (nI d0), .int tu0, .int ti0]) (C := RX3) (T := TX3) (N := 8) hx hb htb inX3 hown hK hP 7 rfl rfl 4 (by decide) (va_Nw.use rfl (hnw _ kT_X4_98)) (fun _ h9 => h9) rfl dX4_writeSegment_105 ?_
      refine zb_ti (y := nI ad0) (rfl) ?_
      refine lv_iload hx hb dX4_writeSegment_108 (lv_at hl 0 rfl) ?_
      refine zb_cv (va_runV (As := [.int (nI ad0), .int (nI (sF (h0, go0, wr0, nI e0, nI ad0, nI d0, tu0, ti0) fi 1))]) (rest := []) ⟨hx, hb, hml, hown, htb⟩ (c_abort l D a cA N f ob (h0, go0, wr0, nI e0, nI ad0, nI d0, tu0, ti0) nd _ ad0 (sF (h0, go0, wr0, nI e0, nI ad0, nI d0, tu0, ti0) fi 1) ho (by omega) (sF_lt _ _ _)) (cwV 2 htb (wb_V kM_X4_102 kI_X4_abort kS_X4_abort kN_X4 kD_X4_abort) rfl rfl rfl (by decide +kernel) ⟨Nat.le_of_ble_eq_true rfl, Nat.le_of_ble_eq_true rfl⟩) (zp_VW 0 rfl rfl hP hD hK hSt hS hA hnw) rfl rfl hl.1 rfl (lv_room (Nat.le_of_ble_eq_true rfl)) dX4_writeSegment_110 ⟨Nat.le_of_ble_eq_true rfl, Nat.le_of_ble_eq_true rfl⟩) hD hS hA (fun H locs hP hD hS => ?_)
      have hP : va_P D vwCl (cw a cA N f (kAns N ob 128 ad0 (sF (h0, go0, wr0, nI e0, nI ad0, nI d0, tu0, ti0) fi 1)) (tr_end (h0, go0, wr0, nI e0, nI ad0, nI d0, tu0, ti0)) nd) H := hP
      have hD : va_D A (cw a cA N f (kAns N ob 128 ad0 (sF (h0, go0, wr0, nI e0, nI ad0, nI d0, tu0, ti0) fi 1)) (tr_end (h0, go0, wr0, nI e0, nI ad0, nI d0, tu0, ti0)) nd) := hD
      rw [hQ]
      have hw9 : (cw a cA N f (kAns N ob 128 ad0 (sF (h0, go0, wr0, nI e0, nI ad0, nI d0, tu0, ti0) fi 1)) (tr_end (h0, go0, wr0, nI e0, nI ad0, nI d0, tu0, ti0)) nd) = (c4 a cA N (kWSeg N f ob (h0, go0, wr0, nI e0, nI ad0, nI d0, tu0, ti0) nd fi x e0 d0 ad0)) := by simp only [kWSeg, if_pos hc1, if_neg hc2]; rfl
      exact W.vret hx hb hr (fun t ht hW => ⟨rfl, by rw [ht, ← hw9]; exact hP, by rw [← hw9]; exact hD, hS.F ht⟩) hS.2.2 dX4_writeSegment_113
    refine lv_aload_n hx hb dX4_writeSegment_26 rfl (lv_at hl 2 rfl) ?_
    refine va_get (D := D) (ci := 4) (v := .ref (a 7)) (fs := [.int N, .ref (a 1), .ref (a 3), .ref (a 4), .ref (a 5), .ref (a 7), .int nd.1, .int nd.2.1, .int nd.2.2.1, .long nd.2.2.2]) (C := RX4) (T := TX4) (N := 10) hx hb htb inX4 hown hK hP 0 rfl rfl 5 (by decide) (htb _ kF_X4_51) (fun _ h9 => h9) rfl dX4_writeSegment_27 ?_
    refine lv_lload_n hx hb dX4_writeSegment_30 rfl (lv_at hl 4 rfl) ?_
    refine lv_bipush (v := 7) hx hb dX4_writeSegment_31 (by decide) ?_
    refine lv_iload_n hx hb dX4_writeSegment_33 rfl (lv_at hl 3 rfl) ?_
    refine lv_iconst (v := 1) hx hb dX4_writeSegment_34 (by decide) ?_
    refine lv_ishr hx hb dX4_writeSegment_35 ?_
    refine lv_bipush (v := 7) hx hb dX4_writeSegment_36 (by decide) ?_
    refine lv_iand hx hb dX4_writeSegment_38 ?_
    refine lv_isub hx hb dX4_writeSegment_39 ?_
    refine zb_ti (y := nI (sn fi)) (seg7 fi hfi) ?_
    by_cases hle : sn fi ≤ xZ e0 - d0
    · refine zb_cvi (va_runV (As := [.long (lN x), .int (nI (sn fi))]) (rest := []) ⟨hx, hb, hml, hown, htb⟩ (c_add l D a cA N f ob (h0, go0, wr0, nI e0, nI ad0, nI d0, tu0, ti0) nd _ e0 d0 (sn fi) x he0 rfl rfl hd0 hle (by unfold sn; omega) hx64) (cwV 2 htb (wb_V kM_X4_211 kI_X3_add kS_X3_add kN_X3 kD_X3_add) rfl rfl rfl (by decide +kernel) ⟨Nat.le_of_ble_eq_true rfl, Nat.le_of_ble_eq_true rfl⟩) (zp_VW 7 rfl rfl hP hD hK hSt hS hA hnw) rfl rfl hl.1 rfl (lv_room (Nat.le_of_ble_eq_true rfl)) dX4_writeSegment_40 ⟨Nat.le_of_ble_eq_true rfl, Nat.le_of_ble_eq_true rfl⟩) hD hS hA (fun H locs hP hD hS => ?_)
      have hP : va_P D vwCl (cw a cA N f ob (tr_add (h0, go0, wr0, nI e0, nI ad0, nI d0, tu0, ti0) d0 (sn fi) x) nd) H := hP
      have hD : va_D A (cw a cA N f ob (tr_add (h0, go0, wr0, nI e0, nI ad0, nI d0, tu0, ti0) d0 (sn fi) x) nd) := hD
      have hP : va_P D vwCl (cw a cA N f ob (tr_add (h0, go0, wr0, nI e0, nI ad0, nI d0, tu0, ti0) d0 (sn fi) x) nd) H := hP
      have hD : va_D A (cw a cA N f ob (tr_add (h0, go0, wr0, nI e0, nI ad0, nI d0, tu0, ti0) d0 (sn fi) x) nd) := hD
      refine lv_if_ne (tgt := 50) hx hb dX4_writeSegment_43 (by decide) (fun _ => ?_) (fun hno => absurd hno (by decide))
      refine lv_iload hx hb dX4_writeSegment_50 (lv_at hl 0 rfl) ?_
      refine lv_if_ne (tgt := 95) hx hb dX4_writeSegment_52 (by decide) (fun hno => absurd hc2 hno) (fun _ => ?_)
      refine lv_iload hx hb dX4_writeSegment_55 (lv_at hl 1 rfl) ?_
      refine lv_if_eq (tgt := 95) hx hb dX4_writeSegment_57 (by decide) (fun _ => ?_) (fun hno => absurd (by decide) hno)
      refine lv_iload hx hb dX4_writeSegment_95 (lv_at hl 0 rfl) ?_
      refine lv_if_eq (tgt := 114) hx hb dX4_writeSegment_97 (by decide) (fun _ => ?_) (fun hno => absurd hc2 hno)
      refine lv_iload hx hb dX4_writeSegment_114 (lv_at hl 1 rfl) ?_
      refine lv_if_eq (tgt := 126) hx hb dX4_writeSegment_116 (by decide) (fun _ => ?_) (fun hno => absurd (by decide) hno)
      refine lv_aload_n hx hb dX4_writeSegment_126 rfl (lv_at hl 2 rfl) ?_
      refine va_get (D := D) (ci := 4) (v := .ref (a 7)) (fs := [.int N, .ref (a 1), .ref (a 3), .ref (a 4), .ref (a 5), .ref (a 7), .int nd.1, .int nd.2.1, .int nd.2.2.1, .long nd.2.2.2]) (C := RX4) (T := TX4) (N := 10) hx hb htb inX4 hown hK hP 0 rfl rfl 5 (by decide) (htb _ kF_X4_51) (fun _ h9 => h9) rfl dX4_writeSegment_127 ?_
      refine zb_cv (va_runV (As := []) (rest := []) ⟨hx, hb, hml, hown, htb⟩ (c_trNext l D a cA N f ob (tr_add (h0, go0, wr0, nI e0, nI ad0, nI d0, tu0, ti0) d0 (sn fi) x) nd _ ) (cwV 0 htb (wb_V kM_X4_238 kI_X3_awaitNext kS_X3_awaitNext kN_X3 kD_X3_awaitNext) rfl rfl rfl (by decide +kernel) ⟨Nat.le_of_ble_eq_true rfl, Nat.le_of_ble_eq_true rfl⟩) (zp_VW 7 rfl rfl hP hD hK hSt hS hA hnw) rfl rfl hl.1 rfl (lv_room (Nat.le_of_ble_eq_true rfl)) dX4_writeSegment_130 ⟨Nat.le_of_ble_eq_true rfl, Nat.le_of_ble_eq_true rfl⟩) hD hS hA (fun H locs hP hD hS => ?_)
      have hP : va_P D vwCl (cw a cA N f ob (tr_next (tr_add (h0, go0, wr0, nI e0, nI ad0, nI d0, tu0, ti0) d0 (sn fi) x)) nd) H := hP
      have hD : va_D A (cw a cA N f ob (tr_next (tr_add (h0, go0, wr0, nI e0, nI ad0, nI d0, tu0, ti0) d0 (sn fi) x)) nd) := hD
      refine lv_aload_n hx hb dX4_writeSegment_133 rfl (lv_at hl 2 rfl) ?_
      refine lv_bipush (v := 32) hx hb dX4_writeSegment_134 (by decide) ?_
      refine lv_iload_n hx hb dX4_writeSegment_136 rfl (lv_at hl 3 rfl) ?_
      refine lv_bipush (v := 16) hx hb dX4_writeSegment_137 (by decide) ?_
      refine lv_iand hx hb dX4_writeSegment_139 ?_
      refine lv_iadd hx hb dX4_writeSegment_140 ?_
      refine zb_ti (y := nI (32 + fi / 16 % 2 * 16)) (a32 fi hfi) ?_
      refine lv_iconst (v := 0) hx hb dX4_writeSegment_141 (by decide) ?_
      refine lv_iconst (v := 0) hx hb dX4_writeSegment_142 (by decide) ?_
      refine zb_cv (va_runV (As := [.int (nI (32 + fi / 16 % 2 * 16)), .int 0, .int 0]) (rest := []) ⟨hx, hb, hml, hown, htb⟩ (c_answer l D a cA N f ob (tr_next (tr_add (h0, go0, wr0, nI e0, nI ad0, nI d0, tu0, ti0) d0 (sn fi) x)) nd _ (32 + fi / 16 % 2 * 16) 0 0 ho (by omega) (by decide) (by decide)) (cwV 3 htb (wb_V kM_X4_223 kI_X4_answer kS_X4_answer kN_X4 kD_X4_answer) rfl rfl rfl (by decide +kernel) ⟨Nat.le_of_ble_eq_true rfl, Nat.le_of_ble_eq_true rfl⟩) (zp_VW 0 rfl rfl hP hD hK hSt hS hA hnw) rfl rfl hl.1 rfl (lv_room (Nat.le_of_ble_eq_true rfl)) dX4_writeSegment_143 ⟨Nat.le_of_ble_eq_true rfl, Nat.le_of_ble_eq_true rfl⟩) hD hS hA (fun H locs hP hD hS => ?_)
      have hP : va_P D vwCl (cw a cA N f (kAns N ob (32 + fi / 16 % 2 * 16) 0 0) (tr_next (tr_add (h0, go0, wr0, nI e0, nI ad0, nI d0, tu0, ti0) d0 (sn fi) x)) nd) H := hP
      have hD : va_D A (cw a cA N f (kAns N ob (32 + fi / 16 % 2 * 16) 0 0) (tr_next (tr_add (h0, go0, wr0, nI e0, nI ad0, nI d0, tu0, ti0) d0 (sn fi) x)) nd) := hD
      rw [hQ]
      have hw9 : (cw a cA N f (kAns N ob (32 + fi / 16 % 2 * 16) 0 0) (tr_next (tr_add (h0, go0, wr0, nI e0, nI ad0, nI d0, tu0, ti0) d0 (sn fi) x)) nd) = (c4 a cA N (kWSeg N f ob (h0, go0, wr0, nI e0, nI ad0, nI d0, tu0, ti0) nd fi x e0 d0 ad0)) := by simp only [kWSeg, if_pos hc1, if_pos hc2, if_pos hle]; rfl
      exact W.vret hx hb hr (fun t ht hW => ⟨rfl, by rw [ht, ← hw9]; exact hP, by rw [← hw9]; exact hD, hS.F ht⟩) hS.2.2 dX4_writeSegment_146
    · refine zb_ci (va_runV (As := [.long (lN x), .int (nI (sn fi))]) (rest := []) ⟨hx, hb, hml, hown, htb⟩ (c_addNo l D a cA N f ob (h0, go0, wr0, nI e0, nI ad0, nI d0, tu0, ti0) nd e0 d0 (sn fi) (lN x) he0 rfl rfl hd0 (by omega) (by unfold sn; omega)) (cwV 2 htb (wb_V kM_X4_211 kI_X3_add kS_X3_add kN_X3 kD_X3_add) rfl rfl rfl (by decide +kernel) ⟨Nat.le_of_ble_eq_true rfl, Nat.le_of_ble_eq_true rfl⟩) (zp_V 7 rfl rfl hP hK hSt hS hnw) rfl rfl hl.1 rfl (lv_room (Nat.le_of_ble_eq_true rfl)) dX4_writeSegment_40 ⟨Nat.le_of_ble_eq_true rfl, Nat.le_of_ble_eq_true rfl⟩) ?_
      refine lv_if_ne (tgt := 50) hx hb dX4_writeSegment_43 (by decide) (fun hno => absurd (by decide) hno) (fun _ => ?_)
      refine lv_ldc (v := 101122066) hx hb hown (htb _ kK_X4_230) dX4_writeSegment_46 ?_
      refine lv_istore hx hb dX4_writeSegment_48 hl (by decide) rfl (fun ls hl => ?_)
      have hl : lv_has ls 6 [(5, .int 101122066), (4, .int 0), (0, .ref (a 0)), (1, .int (nI fi)), (2, .long (lN x))] := hl
      refine lv_iload hx hb dX4_writeSegment_50 (lv_at hl 0 rfl) ?_
      refine lv_if_ne (tgt := 95) hx hb dX4_writeSegment_52 (by decide) (fun _ => ?_) (fun hno => absurd hno (by decide))
      refine lv_iload hx hb dX4_writeSegment_95 (lv_at hl 0 rfl) ?_
      refine lv_if_eq (tgt := 114) hx hb dX4_writeSegment_97 (by decide) (fun hno => absurd hno (by decide)) (fun _ => ?_)
      refine lv_aload_n hx hb dX4_writeSegment_100 rfl (lv_at hl 2 rfl) ?_
      refine lv_aload_n hx hb dX4_writeSegment_101 rfl (lv_at hl 2 rfl) ?_
      refine va_get (D := D) (ci := 4) (v := .ref (a 7)) (fs := [.int N, .ref (a 1), .ref (a 3), .ref (a 4), .ref (a 5), .ref (a 7), .int nd.1, .int nd.2.1, .int nd.2.2.1, .long nd.2.2.2]) (C := RX4) (T := TX4) (N := 10) hx hb htb inX4 hown hK hP 0 rfl rfl 5 (by decide) (htb _ kF_X4_51) (fun _ h9 => h9) rfl dX4_writeSegment_102 ?_
      refine va_getN (D := D) (ci := 3) (v := .int (nI ad0)) (fs := [.ref (a 8), .int go0, .int wr0, .int (nI e0), .int (nI ad0), .int (nI d0), .int tu0, .int ti0]) (C := RX3) (T := TX3) (N := 8) hx hb htb inX3 hown hK hP 7 rfl rfl 4 (by decide) (va_Nw.use rfl (hnw _ kT_X4_98)) (fun _ h9 => h9) rfl dX4_writeSegment_105 ?_
      refine zb_ti (y := nI ad0) (rfl) ?_
      refine lv_iload hx hb dX4_writeSegment_108 (lv_at hl 0 rfl) ?_
      refine zb_cv (va_runV (As := [.int (nI ad0), .int 101122066]) (rest := []) ⟨hx, hb, hml, hown, htb⟩ (c_abort l D a cA N f ob (h0, go0, wr0, nI e0, nI ad0, nI d0, tu0, ti0) nd _ ad0 101122066 ho (by omega) (by decide)) (cwV 2 htb (wb_V kM_X4_102 kI_X4_abort kS_X4_abort kN_X4 kD_X4_abort) rfl rfl rfl (by decide +kernel) ⟨Nat.le_of_ble_eq_true rfl, Nat.le_of_ble_eq_true rfl⟩) (zp_VW 0 rfl rfl hP hD hK hSt hS hA hnw) rfl rfl hl.1 rfl (lv_room (Nat.le_of_ble_eq_true rfl)) dX4_writeSegment_110 ⟨Nat.le_of_ble_eq_true rfl, Nat.le_of_ble_eq_true rfl⟩) hD hS hA (fun H locs hP hD hS => ?_)
      have hP : va_P D vwCl (cw a cA N f (kAns N ob 128 ad0 101122066) (tr_end (h0, go0, wr0, nI e0, nI ad0, nI d0, tu0, ti0)) nd) H := hP
      have hD : va_D A (cw a cA N f (kAns N ob 128 ad0 101122066) (tr_end (h0, go0, wr0, nI e0, nI ad0, nI d0, tu0, ti0)) nd) := hD
      rw [hQ]
      have hw9 : (cw a cA N f (kAns N ob 128 ad0 101122066) (tr_end (h0, go0, wr0, nI e0, nI ad0, nI d0, tu0, ti0)) nd) = (c4 a cA N (kWSeg N f ob (h0, go0, wr0, nI e0, nI ad0, nI d0, tu0, ti0) nd fi x e0 d0 ad0)) := by simp only [kWSeg, if_pos hc1, if_pos hc2, if_neg hle]; rfl
      exact W.vret hx hb hr (fun t ht hW => ⟨rfl, by rw [ht, ← hw9]; exact hP, by rw [← hw9]; exact hD, hS.F ht⟩) hS.2.2 dX4_writeSegment_113
  refine lv_iconst (v := 1) hx hb dX4_writeSegment_6 (by decide) ?_
  refine lv_goto (tgt := 11) hx hb dX4_writeSegment_7 (by decide) ?_
  refine lv_istore hx hb dX4_writeSegment_11 hl (by decide) rfl (fun ls hl => ?_)
  have hl : lv_has ls 6 [(4, .int 1), (0, .ref (a 0)), (1, .int (nI fi)), (2, .long (lN x))] := hl
  refine lv_aload_n hx hb dX4_writeSegment_13 rfl (lv_at hl 1 rfl) ?_
  refine lv_iload_n hx hb dX4_writeSegment_14 rfl (lv_at hl 2 rfl) ?_
  refine lv_iconst (v := 1) hx hb dX4_writeSegment_15 (by decide) ?_
  refine zb_ci (va_runV (As := [.int (nI fi), .int 1]) (rest := []) ⟨hx, hb, hml, hown, htb⟩ (c_segF l D a cA N f ob (h0, go0, wr0, nI e0, nI ad0, nI d0, tu0, ti0) nd fi 1) (cwV 2 htb (wb_V kM_X4_226 kI_X4_segmentFault kS_X4_segmentFault kN_X4 kD_X4_segmentFault) rfl rfl rfl (by decide +kernel) ⟨Nat.le_of_ble_eq_true rfl, Nat.le_of_ble_eq_true rfl⟩) (zp_V 0 rfl rfl hP hK hSt hS hnw) rfl rfl hl.1 rfl (lv_room (Nat.le_of_ble_eq_true rfl)) dX4_writeSegment_16 ⟨Nat.le_of_ble_eq_true rfl, Nat.le_of_ble_eq_true rfl⟩) ?_
  refine lv_istore hx hb dX4_writeSegment_19 hl (by decide) rfl (fun ls hl => ?_)
  have hl : lv_has ls 6 [(5, .int (nI (sF (h0, go0, wr0, nI e0, nI ad0, nI d0, tu0, ti0) fi 1))), (4, .int 1), (0, .ref (a 0)), (1, .int (nI fi)), (2, .long (lN x))] := hl
  refine lv_iload hx hb dX4_writeSegment_21 (lv_at hl 0 rfl) ?_
  refine lv_if_ne (tgt := 50) hx hb dX4_writeSegment_23 (by decide) (fun hc3 => ?_) (fun hc3 => ?_)
  · refine lv_iload hx hb dX4_writeSegment_50 (lv_at hl 0 rfl) ?_
    refine lv_if_ne (tgt := 95) hx hb dX4_writeSegment_52 (by decide) (fun _ => ?_) (fun hno => absurd hno hc3)
    refine lv_iload hx hb dX4_writeSegment_95 (lv_at hl 0 rfl) ?_
    refine lv_if_eq (tgt := 114) hx hb dX4_writeSegment_97 (by decide) (fun hno => absurd hno hc3) (fun _ => ?_)
    refine lv_aload_n hx hb dX4_writeSegment_100 rfl (lv_at hl 2 rfl) ?_
    refine lv_aload_n hx hb dX4_writeSegment_101 rfl (lv_at hl 2 rfl) ?_
    refine va_get (D := D) (ci := 4) (v := .ref (a 7)) (fs := [.int N, .ref (a 1), .ref (a 3), .ref (a 4), .ref (a 5), .ref (a 7), .int nd.1, .int nd.2.1, .int nd.2.2.1, .long nd.2.2.2]) (C := RX4) (T := TX4) (N := 10) hx hb htb inX4 hown hK hP 0 rfl rfl 5 (by decide) (htb _ kF_X4_51) (fun _ h9 => h9) rfl dX4_writeSegment_102 ?_
    refine va_getN (D := D) (ci := 3) (v := .int (nI ad0)) (fs := [.ref (a 8), .int go0, .int wr0, .int (nI e0), .int (nI ad0), .int (nI d0), .int tu0, .int ti0]) (C := RX3) (T := TX3) (N := 8) hx hb htb inX3 hown hK hP 7 rfl rfl 4 (by decide) (va_Nw.use rfl (hnw _ kT_X4_98)) (fun _ h9 => h9) rfl dX4_writeSegment_105 ?_
    refine zb_ti (y := nI ad0) (rfl) ?_
    refine lv_iload hx hb dX4_writeSegment_108 (lv_at hl 0 rfl) ?_
    refine zb_cv (va_runV (As := [.int (nI ad0), .int (nI (sF (h0, go0, wr0, nI e0, nI ad0, nI d0, tu0, ti0) fi 1))]) (rest := []) ⟨hx, hb, hml, hown, htb⟩ (c_abort l D a cA N f ob (h0, go0, wr0, nI e0, nI ad0, nI d0, tu0, ti0) nd _ ad0 (sF (h0, go0, wr0, nI e0, nI ad0, nI d0, tu0, ti0) fi 1) ho (by omega) (sF_lt _ _ _)) (cwV 2 htb (wb_V kM_X4_102 kI_X4_abort kS_X4_abort kN_X4 kD_X4_abort) rfl rfl rfl (by decide +kernel) ⟨Nat.le_of_ble_eq_true rfl, Nat.le_of_ble_eq_true rfl⟩) (zp_VW 0 rfl rfl hP hD hK hSt hS hA hnw) rfl rfl hl.1 rfl (lv_room (Nat.le_of_ble_eq_true rfl)) dX4_writeSegment_110 ⟨Nat.le_of_ble_eq_true rfl, Nat.le_of_ble_eq_true rfl⟩) hD hS hA (fun H locs hP hD hS => ?_)
    have hP : va_P D vwCl (cw a cA N f (kAns N ob 128 ad0 (sF (h0, go0, wr0, nI e0, nI ad0, nI d0, tu0, ti0) fi 1)) (tr_end (h0, go0, wr0, nI e0, nI ad0, nI d0, tu0, ti0)) nd) H := hP
    have hD : va_D A (cw a cA N f (kAns N ob 128 ad0 (sF (h0, go0, wr0, nI e0, nI ad0, nI d0, tu0, ti0) fi 1)) (tr_end (h0, go0, wr0, nI e0, nI ad0, nI d0, tu0, ti0)) nd) := hD
    rw [hQ]
    have hw9 : (cw a cA N f (kAns N ob 128 ad0 (sF (h0, go0, wr0, nI e0, nI ad0, nI d0, tu0, ti0) fi 1)) (tr_end (h0, go0, wr0, nI e0, nI ad0, nI d0, tu0, ti0)) nd) = (c4 a cA N (kWSeg N f ob (h0, go0, wr0, nI e0, nI ad0, nI d0, tu0, ti0) nd fi x e0 d0 ad0)) := by simp only [kWSeg, if_neg hc1, if_neg hc3]; rfl
    exact W.vret hx hb hr (fun t ht hW => ⟨rfl, by rw [ht, ← hw9]; exact hP, by rw [← hw9]; exact hD, hS.F ht⟩) hS.2.2 dX4_writeSegment_113
  refine lv_aload_n hx hb dX4_writeSegment_26 rfl (lv_at hl 2 rfl) ?_
  refine va_get (D := D) (ci := 4) (v := .ref (a 7)) (fs := [.int N, .ref (a 1), .ref (a 3), .ref (a 4), .ref (a 5), .ref (a 7), .int nd.1, .int nd.2.1, .int nd.2.2.1, .long nd.2.2.2]) (C := RX4) (T := TX4) (N := 10) hx hb htb inX4 hown hK hP 0 rfl rfl 5 (by decide) (htb _ kF_X4_51) (fun _ h9 => h9) rfl dX4_writeSegment_27 ?_
  refine lv_lload_n hx hb dX4_writeSegment_30 rfl (lv_at hl 4 rfl) ?_
  refine lv_bipush (v := 7) hx hb dX4_writeSegment_31 (by decide) ?_
  refine lv_iload_n hx hb dX4_writeSegment_33 rfl (lv_at hl 3 rfl) ?_
  refine lv_iconst (v := 1) hx hb dX4_writeSegment_34 (by decide) ?_
  refine lv_ishr hx hb dX4_writeSegment_35 ?_
  refine lv_bipush (v := 7) hx hb dX4_writeSegment_36 (by decide) ?_
  refine lv_iand hx hb dX4_writeSegment_38 ?_
  refine lv_isub hx hb dX4_writeSegment_39 ?_
  refine zb_ti (y := nI (sn fi)) (seg7 fi hfi) ?_
  by_cases hle : sn fi ≤ xZ e0 - d0
  · refine zb_cvi (va_runV (As := [.long (lN x), .int (nI (sn fi))]) (rest := []) ⟨hx, hb, hml, hown, htb⟩ (c_add l D a cA N f ob (h0, go0, wr0, nI e0, nI ad0, nI d0, tu0, ti0) nd _ e0 d0 (sn fi) x he0 rfl rfl hd0 hle (by unfold sn; omega) hx64) (cwV 2 htb (wb_V kM_X4_211 kI_X3_add kS_X3_add kN_X3 kD_X3_add) rfl rfl rfl (by decide +kernel) ⟨Nat.le_of_ble_eq_true rfl, Nat.le_of_ble_eq_true rfl⟩) (zp_VW 7 rfl rfl hP hD hK hSt hS hA hnw) rfl rfl hl.1 rfl (lv_room (Nat.le_of_ble_eq_true rfl)) dX4_writeSegment_40 ⟨Nat.le_of_ble_eq_true rfl, Nat.le_of_ble_eq_true rfl⟩) hD hS hA (fun H locs hP hD hS => ?_)
    have hP : va_P D vwCl (cw a cA N f ob (tr_add (h0, go0, wr0, nI e0, nI ad0, nI d0, tu0, ti0) d0 (sn fi) x) nd) H := hP
    have hD : va_D A (cw a cA N f ob (tr_add (h0, go0, wr0, nI e0, nI ad0, nI d0, tu0, ti0) d0 (sn fi) x) nd) := hD
    have hP : va_P D vwCl (cw a cA N f ob (tr_add (h0, go0, wr0, nI e0, nI ad0, nI d0, tu0, ti0) d0 (sn fi) x) nd) H := hP
    have hD : va_D A (cw a cA N f ob (tr_add (h0, go0, wr0, nI e0, nI ad0, nI d0, tu0, ti0) d0 (sn fi) x) nd) := hD
    refine lv_if_ne (tgt := 50) hx hb dX4_writeSegment_43 (by decide) (fun _ => ?_) (fun hno => absurd hno (by decide))
    refine lv_iload hx hb dX4_writeSegment_50 (lv_at hl 0 rfl) ?_
    refine lv_if_ne (tgt := 95) hx hb dX4_writeSegment_52 (by decide) (fun hno => absurd hc3 hno) (fun _ => ?_)
    refine lv_iload hx hb dX4_writeSegment_55 (lv_at hl 1 rfl) ?_
    refine lv_if_eq (tgt := 95) hx hb dX4_writeSegment_57 (by decide) (fun hno => absurd hno (by decide)) (fun _ => ?_)
    refine lv_aload_n hx hb dX4_writeSegment_60 rfl (lv_at hl 2 rfl) ?_
    refine va_get (D := D) (ci := 4) (v := .ref (a 7)) (fs := [.int N, .ref (a 1), .ref (a 3), .ref (a 4), .ref (a 5), .ref (a 7), .int nd.1, .int nd.2.1, .int nd.2.2.1, .long nd.2.2.2]) (C := RX4) (T := TX4) (N := 10) hx hb htb inX4 hown hK hP 0 rfl rfl 5 (by decide) (htb _ kF_X4_51) (fun _ h9 => h9) rfl dX4_writeSegment_61 ?_
    refine zb_ci (va_runV (As := []) (rest := []) ⟨hx, hb, hml, hown, htb⟩ (c_left l D a cA N f ob (tr_add (h0, go0, wr0, nI e0, nI ad0, nI d0, tu0, ti0) d0 (sn fi) x) nd e0 (d0 + sn fi) he0 rfl rfl (by omega)) (cwV 0 htb (wb_V kM_X4_231 kI_X3_left kS_X3_left kN_X3 kD_X3_left) rfl rfl rfl (by decide +kernel) ⟨Nat.le_of_ble_eq_true rfl, Nat.le_of_ble_eq_true rfl⟩) (zp_V 7 rfl rfl hP hK hSt hS hnw) rfl rfl hl.1 rfl (lv_room (Nat.le_of_ble_eq_true rfl)) dX4_writeSegment_64 ⟨Nat.le_of_ble_eq_true rfl, Nat.le_of_ble_eq_true rfl⟩) ?_
    refine lv_if_le (tgt := 75) hx hb dX4_writeSegment_67 (by decide) (fun hc4 => ?_) (fun hc4 => ?_)
    · have hend : xZ e0 - (d0 + sn fi) = 0 := by have h9 := (nI_leI (b := 0) (by omega) (by decide)).mp hc4; omega
      refine lv_aload_n hx hb dX4_writeSegment_75 rfl (lv_at hl 2 rfl) ?_
      refine lv_aload_n hx hb dX4_writeSegment_76 rfl (lv_at hl 2 rfl) ?_
      refine va_get (D := D) (ci := 4) (v := .ref (a 7)) (fs := [.int N, .ref (a 1), .ref (a 3), .ref (a 4), .ref (a 5), .ref (a 7), .int nd.1, .int nd.2.1, .int nd.2.2.1, .long nd.2.2.2]) (C := RX4) (T := TX4) (N := 10) hx hb htb inX4 hown hK hP 0 rfl rfl 5 (by decide) (htb _ kF_X4_51) (fun _ h9 => h9) rfl dX4_writeSegment_77 ?_
      refine va_getN (D := D) (ci := 3) (v := .int ((tr_add (h0, go0, wr0, nI e0, nI ad0, nI d0, tu0, ti0) d0 (sn fi) x).2.2.2.1)) (fs := [.ref (a 8), .int ((tr_add (h0, go0, wr0, nI e0, nI ad0, nI d0, tu0, ti0) d0 (sn fi) x).2.1), .int ((tr_add (h0, go0, wr0, nI e0, nI ad0, nI d0, tu0, ti0) d0 (sn fi) x).2.2.1), .int ((tr_add (h0, go0, wr0, nI e0, nI ad0, nI d0, tu0, ti0) d0 (sn fi) x).2.2.2.1), .int ((tr_add (h0, go0, wr0, nI e0, nI ad0, nI d0, tu0, ti0) d0 (sn fi) x).2.2.2.2.1), .int ((tr_add (h0, go0, wr0, nI e0, nI ad0, nI d0, tu0, ti0) d0 (sn fi) x).2.2.2.2.2.1), .int ((tr_add (h0, go0, wr0, nI e0, nI ad0, nI d0, tu0, ti0) d0 (sn fi) x).2.2.2.2.2.2.1), .int ((tr_add (h0, go0, wr0, nI e0, nI ad0, nI d0, tu0, ti0) d0 (sn fi) x).2.2.2.2.2.2.2)]) (C := RX3) (T := TX3) (N := 8) hx hb htb inX3 hown hK hP 7 rfl rfl 3 (by decide) (va_Nw.use rfl (hnw _ kT_X4_235)) (fun _ h9 => h9) rfl dX4_writeSegment_80 ?_
      refine zb_ti (y := nI e0) (rfl) ?_
      refine lv_aload_n hx hb dX4_writeSegment_83 rfl (lv_at hl 2 rfl) ?_
      refine va_get (D := D) (ci := 4) (v := .ref (a 7)) (fs := [.int N, .ref (a 1), .ref (a 3), .ref (a 4), .ref (a 5), .ref (a 7), .int nd.1, .int nd.2.1, .int nd.2.2.1, .long nd.2.2.2]) (C := RX4) (T := TX4) (N := 10) hx hb htb inX4 hown hK hP 0 rfl rfl 5 (by decide) (htb _ kF_X4_51) (fun _ h9 => h9) rfl dX4_writeSegment_84 ?_
      refine zb_ci (va_runV (As := []) (rest := [.int (nI e0), .ref (a 0)]) ⟨hx, hb, hml, hown, htb⟩ (c_number l D a cA N f ob (tr_add (h0, go0, wr0, nI e0, nI ad0, nI d0, tu0, ti0) d0 (sn fi) x) nd e0 (d0 + sn fi) he0 rfl rfl (by omega) (isB_pF hBh _ _ _ _)) (cwV 0 htb (wb_V kM_X4_215 kI_X3_number kS_X3_number kN_X3 kD_X3_number) rfl rfl rfl (by decide +kernel) ⟨Nat.le_of_ble_eq_true rfl, Nat.le_of_ble_eq_true rfl⟩) (zp_V 7 rfl rfl hP hK hSt hS hnw) rfl rfl hl.1 rfl (lv_room (Nat.le_of_ble_eq_true rfl)) dX4_writeSegment_87 ⟨Nat.le_of_ble_eq_true rfl, Nat.le_of_ble_eq_true rfl⟩) ?_
      refine zb_ti (y := nI (sm (tr_add (h0, go0, wr0, nI e0, nI ad0, nI d0, tu0, ti0) d0 (sn fi) x).1 0 (min (d0 + sn fi) 4))) (rfl) ?_
      refine zb_ci (va_runV (As := [.int (nI e0), .int (nI (sm (tr_add (h0, go0, wr0, nI e0, nI ad0, nI d0, tu0, ti0) d0 (sn fi) x).1 0 (min (d0 + sn fi) 4)))]) (rest := []) ⟨hx, hb, hml, hown, htb⟩ (c_storeFault l D a cA N f ob (tr_add (h0, go0, wr0, nI e0, nI ad0, nI d0, tu0, ti0) d0 (sn fi) x) nd e0 (sm (tr_add (h0, go0, wr0, nI e0, nI ad0, nI d0, tu0, ti0) d0 (sn fi) x).1 0 (min (d0 + sn fi) 4)) hB hT hG he0 (fun h1 => by have h8 := sm_lt (f := (tr_add (h0, go0, wr0, nI e0, nI ad0, nI d0, tu0, ti0) d0 (sn fi) x).1) (isB_pF hBh _ _ _ _) 0 (min (d0 + sn fi) 4); have h9 : min (d0 + sn fi) 4 = 1 := (by omega); rw [h9] at h8 ⊢; exact h8)) (cwV 2 htb (wb_V kM_X4_217 kI_X4_storeFault kS_X4_storeFault kN_X4 kD_X4_storeFault) rfl rfl rfl (by decide +kernel) ⟨Nat.le_of_ble_eq_true rfl, Nat.le_of_ble_eq_true rfl⟩) (zp_V 0 rfl rfl hP hK hSt hS hnw) rfl rfl hl.1 rfl (lv_room (Nat.le_of_ble_eq_true rfl)) dX4_writeSegment_90 ⟨Nat.le_of_ble_eq_true rfl, Nat.le_of_ble_eq_true rfl⟩) ?_
      refine lv_istore hx hb dX4_writeSegment_93 hl (by decide) rfl (fun ls hl => ?_)
      have hl : lv_has ls 6 [(5, .int (nI (stF nd.1 f e0 (sm (tr_add (h0, go0, wr0, nI e0, nI ad0, nI d0, tu0, ti0) d0 (sn fi) x).1 0 (min (d0 + sn fi) 4))))), (4, .int 1), (0, .ref (a 0)), (1, .int (nI fi)), (2, .long (lN x))] := hl
      refine lv_iload hx hb dX4_writeSegment_95 (lv_at hl 0 rfl) ?_
      refine lv_if_eq (tgt := 114) hx hb dX4_writeSegment_97 (by decide) (fun hc5 => ?_) (fun hc5 => ?_)
      · refine lv_iload hx hb dX4_writeSegment_114 (lv_at hl 1 rfl) ?_
        refine lv_if_eq (tgt := 126) hx hb dX4_writeSegment_116 (by decide) (fun hno => absurd hno (by decide)) (fun _ => ?_)
        refine lv_aload_n hx hb dX4_writeSegment_119 rfl (lv_at hl 2 rfl) ?_
        refine zb_cv (va_runV (As := []) (rest := []) ⟨hx, hb, hml, hown, htb⟩ (c_store l D a cA N f ob (tr_add (h0, go0, wr0, nI e0, nI ad0, nI d0, tu0, ti0) d0 (sn fi) x) nd _ e0 (d0 + sn fi) he0 rfl rfl (by omega)) (cwV 0 htb (wb_V kM_X4_220 kI_X4_store kS_X4_store kN_X4 kD_X4_store) rfl rfl rfl (by decide +kernel) ⟨Nat.le_of_ble_eq_true rfl, Nat.le_of_ble_eq_true rfl⟩) (zp_VW 0 rfl rfl hP hD hK hSt hS hA hnw) rfl rfl hl.1 rfl (lv_room (Nat.le_of_ble_eq_true rfl)) dX4_writeSegment_120 ⟨Nat.le_of_ble_eq_true rfl, Nat.le_of_ble_eq_true rfl⟩) hD hS hA (fun H locs hP hD hS => ?_)
        have hP : va_P D vwCl (cw a cA N (fSto f ((tr_add (h0, go0, wr0, nI e0, nI ad0, nI d0, tu0, ti0) d0 (sn fi) x).1) e0) ob (tr_end (tr_add (h0, go0, wr0, nI e0, nI ad0, nI d0, tu0, ti0) d0 (sn fi) x)) (nSto e0 nd)) H := hP
        have hD : va_D A (cw a cA N (fSto f ((tr_add (h0, go0, wr0, nI e0, nI ad0, nI d0, tu0, ti0) d0 (sn fi) x).1) e0) ob (tr_end (tr_add (h0, go0, wr0, nI e0, nI ad0, nI d0, tu0, ti0) d0 (sn fi) x)) (nSto e0 nd)) := hD
        refine lv_goto (tgt := 133) hx hb dX4_writeSegment_123 (by decide) ?_
        refine lv_aload_n hx hb dX4_writeSegment_133 rfl (lv_at hl 2 rfl) ?_
        refine lv_bipush (v := 32) hx hb dX4_writeSegment_134 (by decide) ?_
        refine lv_iload_n hx hb dX4_writeSegment_136 rfl (lv_at hl 3 rfl) ?_
        refine lv_bipush (v := 16) hx hb dX4_writeSegment_137 (by decide) ?_
        refine lv_iand hx hb dX4_writeSegment_139 ?_
        refine lv_iadd hx hb dX4_writeSegment_140 ?_
        refine zb_ti (y := nI (32 + fi / 16 % 2 * 16)) (a32 fi hfi) ?_
        refine lv_iconst (v := 0) hx hb dX4_writeSegment_141 (by decide) ?_
        refine lv_iconst (v := 0) hx hb dX4_writeSegment_142 (by decide) ?_
        refine zb_cv (va_runV (As := [.int (nI (32 + fi / 16 % 2 * 16)), .int 0, .int 0]) (rest := []) ⟨hx, hb, hml, hown, htb⟩ (c_answer l D a cA N (fSto f ((tr_add (h0, go0, wr0, nI e0, nI ad0, nI d0, tu0, ti0) d0 (sn fi) x).1) e0) ob (tr_end (tr_add (h0, go0, wr0, nI e0, nI ad0, nI d0, tu0, ti0) d0 (sn fi) x)) (nSto e0 nd) _ (32 + fi / 16 % 2 * 16) 0 0 ho (by omega) (by decide) (by decide)) (cwV 3 htb (wb_V kM_X4_223 kI_X4_answer kS_X4_answer kN_X4 kD_X4_answer) rfl rfl rfl (by decide +kernel) ⟨Nat.le_of_ble_eq_true rfl, Nat.le_of_ble_eq_true rfl⟩) (zp_VW 0 rfl rfl hP hD hK hSt hS hA hnw) rfl rfl hl.1 rfl (lv_room (Nat.le_of_ble_eq_true rfl)) dX4_writeSegment_143 ⟨Nat.le_of_ble_eq_true rfl, Nat.le_of_ble_eq_true rfl⟩) hD hS hA (fun H locs hP hD hS => ?_)
        have hP : va_P D vwCl (cw a cA N (fSto f ((tr_add (h0, go0, wr0, nI e0, nI ad0, nI d0, tu0, ti0) d0 (sn fi) x).1) e0) (kAns N ob (32 + fi / 16 % 2 * 16) 0 0) (tr_end (tr_add (h0, go0, wr0, nI e0, nI ad0, nI d0, tu0, ti0) d0 (sn fi) x)) (nSto e0 nd)) H := hP
        have hD : va_D A (cw a cA N (fSto f ((tr_add (h0, go0, wr0, nI e0, nI ad0, nI d0, tu0, ti0) d0 (sn fi) x).1) e0) (kAns N ob (32 + fi / 16 % 2 * 16) 0 0) (tr_end (tr_add (h0, go0, wr0, nI e0, nI ad0, nI d0, tu0, ti0) d0 (sn fi) x)) (nSto e0 nd)) := hD
        rw [hQ]
        have hw9 : (cw a cA N (fSto f ((tr_add (h0, go0, wr0, nI e0, nI ad0, nI d0, tu0, ti0) d0 (sn fi) x).1) e0) (kAns N ob (32 + fi / 16 % 2 * 16) 0 0) (tr_end (tr_add (h0, go0, wr0, nI e0, nI ad0, nI d0, tu0, ti0) d0 (sn fi) x)) (nSto e0 nd)) = (c4 a cA N (kWSeg N f ob (h0, go0, wr0, nI e0, nI ad0, nI d0, tu0, ti0) nd fi x e0 d0 ad0)) := by simp only [kWSeg, if_neg hc1, if_pos hc3, if_pos hle, if_pos hc4, if_pos hc5]; rfl
        exact W.vret hx hb hr (fun t ht hW => ⟨rfl, by rw [ht, ← hw9]; exact hP, by rw [← hw9]; exact hD, hS.F ht⟩) hS.2.2 dX4_writeSegment_146
      refine lv_aload_n hx hb dX4_writeSegment_100 rfl (lv_at hl 2 rfl) ?_
      refine lv_aload_n hx hb dX4_writeSegment_101 rfl (lv_at hl 2 rfl) ?_
      refine va_get (D := D) (ci := 4) (v := .ref (a 7)) (fs := [.int N, .ref (a 1), .ref (a 3), .ref (a 4), .ref (a 5), .ref (a 7), .int nd.1, .int nd.2.1, .int nd.2.2.1, .long nd.2.2.2]) (C := RX4) (T := TX4) (N := 10) hx hb htb inX4 hown hK hP 0 rfl rfl 5 (by decide) (htb _ kF_X4_51) (fun _ h9 => h9) rfl dX4_writeSegment_102 ?_
      refine va_getN (D := D) (ci := 3) (v := .int ((tr_add (h0, go0, wr0, nI e0, nI ad0, nI d0, tu0, ti0) d0 (sn fi) x).2.2.2.2.1)) (fs := [.ref (a 8), .int ((tr_add (h0, go0, wr0, nI e0, nI ad0, nI d0, tu0, ti0) d0 (sn fi) x).2.1), .int ((tr_add (h0, go0, wr0, nI e0, nI ad0, nI d0, tu0, ti0) d0 (sn fi) x).2.2.1), .int ((tr_add (h0, go0, wr0, nI e0, nI ad0, nI d0, tu0, ti0) d0 (sn fi) x).2.2.2.1), .int ((tr_add (h0, go0, wr0, nI e0, nI ad0, nI d0, tu0, ti0) d0 (sn fi) x).2.2.2.2.1), .int ((tr_add (h0, go0, wr0, nI e0, nI ad0, nI d0, tu0, ti0) d0 (sn fi) x).2.2.2.2.2.1), .int ((tr_add (h0, go0, wr0, nI e0, nI ad0, nI d0, tu0, ti0) d0 (sn fi) x).2.2.2.2.2.2.1), .int ((tr_add (h0, go0, wr0, nI e0, nI ad0, nI d0, tu0, ti0) d0 (sn fi) x).2.2.2.2.2.2.2)]) (C := RX3) (T := TX3) (N := 8) hx hb htb inX3 hown hK hP 7 rfl rfl 4 (by decide) (va_Nw.use rfl (hnw _ kT_X4_98)) (fun _ h9 => h9) rfl dX4_writeSegment_105 ?_
      refine zb_ti (y := nI ad0) (rfl) ?_
      refine lv_iload hx hb dX4_writeSegment_108 (lv_at hl 0 rfl) ?_
      refine zb_cv (va_runV (As := [.int (nI ad0), .int (nI (stF nd.1 f e0 (sm (tr_add (h0, go0, wr0, nI e0, nI ad0, nI d0, tu0, ti0) d0 (sn fi) x).1 0 (min (d0 + sn fi) 4))))]) (rest := []) ⟨hx, hb, hml, hown, htb⟩ (c_abort l D a cA N f ob (tr_add (h0, go0, wr0, nI e0, nI ad0, nI d0, tu0, ti0) d0 (sn fi) x) nd _ ad0 (stF nd.1 f e0 (sm (tr_add (h0, go0, wr0, nI e0, nI ad0, nI d0, tu0, ti0) d0 (sn fi) x).1 0 (min (d0 + sn fi) 4))) ho (by omega) (stF_lt _ _ _ _)) (cwV 2 htb (wb_V kM_X4_102 kI_X4_abort kS_X4_abort kN_X4 kD_X4_abort) rfl rfl rfl (by decide +kernel) ⟨Nat.le_of_ble_eq_true rfl, Nat.le_of_ble_eq_true rfl⟩) (zp_VW 0 rfl rfl hP hD hK hSt hS hA hnw) rfl rfl hl.1 rfl (lv_room (Nat.le_of_ble_eq_true rfl)) dX4_writeSegment_110 ⟨Nat.le_of_ble_eq_true rfl, Nat.le_of_ble_eq_true rfl⟩) hD hS hA (fun H locs hP hD hS => ?_)
      have hP : va_P D vwCl (cw a cA N f (kAns N ob 128 ad0 (stF nd.1 f e0 (sm (tr_add (h0, go0, wr0, nI e0, nI ad0, nI d0, tu0, ti0) d0 (sn fi) x).1 0 (min (d0 + sn fi) 4)))) (tr_end (tr_add (h0, go0, wr0, nI e0, nI ad0, nI d0, tu0, ti0) d0 (sn fi) x)) nd) H := hP
      have hD : va_D A (cw a cA N f (kAns N ob 128 ad0 (stF nd.1 f e0 (sm (tr_add (h0, go0, wr0, nI e0, nI ad0, nI d0, tu0, ti0) d0 (sn fi) x).1 0 (min (d0 + sn fi) 4)))) (tr_end (tr_add (h0, go0, wr0, nI e0, nI ad0, nI d0, tu0, ti0) d0 (sn fi) x)) nd) := hD
      rw [hQ]
      have hw9 : (cw a cA N f (kAns N ob 128 ad0 (stF nd.1 f e0 (sm (tr_add (h0, go0, wr0, nI e0, nI ad0, nI d0, tu0, ti0) d0 (sn fi) x).1 0 (min (d0 + sn fi) 4)))) (tr_end (tr_add (h0, go0, wr0, nI e0, nI ad0, nI d0, tu0, ti0) d0 (sn fi) x)) nd) = (c4 a cA N (kWSeg N f ob (h0, go0, wr0, nI e0, nI ad0, nI d0, tu0, ti0) nd fi x e0 d0 ad0)) := by simp only [kWSeg, if_neg hc1, if_pos hc3, if_pos hle, if_pos hc4, if_neg hc5]; rfl
      exact W.vret hx hb hr (fun t ht hW => ⟨rfl, by rw [ht, ← hw9]; exact hP, by rw [← hw9]; exact hD, hS.F ht⟩) hS.2.2 dX4_writeSegment_113
    refine lv_ldc (v := 101122067) hx hb hown (htb _ kK_X4_234) dX4_writeSegment_70 ?_
    refine lv_goto (tgt := 93) hx hb dX4_writeSegment_72 (by decide) ?_
    refine lv_istore hx hb dX4_writeSegment_93 hl (by decide) rfl (fun ls hl => ?_)
    have hl : lv_has ls 6 [(5, .int 101122067), (4, .int 1), (0, .ref (a 0)), (1, .int (nI fi)), (2, .long (lN x))] := hl
    refine lv_iload hx hb dX4_writeSegment_95 (lv_at hl 0 rfl) ?_
    refine lv_if_eq (tgt := 114) hx hb dX4_writeSegment_97 (by decide) (fun hno => absurd hno (by decide)) (fun _ => ?_)
    refine lv_aload_n hx hb dX4_writeSegment_100 rfl (lv_at hl 2 rfl) ?_
    refine lv_aload_n hx hb dX4_writeSegment_101 rfl (lv_at hl 2 rfl) ?_
    refine va_get (D := D) (ci := 4) (v := .ref (a 7)) (fs := [.int N, .ref (a 1), .ref (a 3), .ref (a 4), .ref (a 5), .ref (a 7), .int nd.1, .int nd.2.1, .int nd.2.2.1, .long nd.2.2.2]) (C := RX4) (T := TX4) (N := 10) hx hb htb inX4 hown hK hP 0 rfl rfl 5 (by decide) (htb _ kF_X4_51) (fun _ h9 => h9) rfl dX4_writeSegment_102 ?_
    refine va_getN (D := D) (ci := 3) (v := .int ((tr_add (h0, go0, wr0, nI e0, nI ad0, nI d0, tu0, ti0) d0 (sn fi) x).2.2.2.2.1)) (fs := [.ref (a 8), .int ((tr_add (h0, go0, wr0, nI e0, nI ad0, nI d0, tu0, ti0) d0 (sn fi) x).2.1), .int ((tr_add (h0, go0, wr0, nI e0, nI ad0, nI d0, tu0, ti0) d0 (sn fi) x).2.2.1), .int ((tr_add (h0, go0, wr0, nI e0, nI ad0, nI d0, tu0, ti0) d0 (sn fi) x).2.2.2.1), .int ((tr_add (h0, go0, wr0, nI e0, nI ad0, nI d0, tu0, ti0) d0 (sn fi) x).2.2.2.2.1), .int ((tr_add (h0, go0, wr0, nI e0, nI ad0, nI d0, tu0, ti0) d0 (sn fi) x).2.2.2.2.2.1), .int ((tr_add (h0, go0, wr0, nI e0, nI ad0, nI d0, tu0, ti0) d0 (sn fi) x).2.2.2.2.2.2.1), .int ((tr_add (h0, go0, wr0, nI e0, nI ad0, nI d0, tu0, ti0) d0 (sn fi) x).2.2.2.2.2.2.2)]) (C := RX3) (T := TX3) (N := 8) hx hb htb inX3 hown hK hP 7 rfl rfl 4 (by decide) (va_Nw.use rfl (hnw _ kT_X4_98)) (fun _ h9 => h9) rfl dX4_writeSegment_105 ?_
    refine zb_ti (y := nI ad0) (rfl) ?_
    refine lv_iload hx hb dX4_writeSegment_108 (lv_at hl 0 rfl) ?_
    refine zb_cv (va_runV (As := [.int (nI ad0), .int 101122067]) (rest := []) ⟨hx, hb, hml, hown, htb⟩ (c_abort l D a cA N f ob (tr_add (h0, go0, wr0, nI e0, nI ad0, nI d0, tu0, ti0) d0 (sn fi) x) nd _ ad0 101122067 ho (by omega) (by decide)) (cwV 2 htb (wb_V kM_X4_102 kI_X4_abort kS_X4_abort kN_X4 kD_X4_abort) rfl rfl rfl (by decide +kernel) ⟨Nat.le_of_ble_eq_true rfl, Nat.le_of_ble_eq_true rfl⟩) (zp_VW 0 rfl rfl hP hD hK hSt hS hA hnw) rfl rfl hl.1 rfl (lv_room (Nat.le_of_ble_eq_true rfl)) dX4_writeSegment_110 ⟨Nat.le_of_ble_eq_true rfl, Nat.le_of_ble_eq_true rfl⟩) hD hS hA (fun H locs hP hD hS => ?_)
    have hP : va_P D vwCl (cw a cA N f (kAns N ob 128 ad0 101122067) (tr_end (tr_add (h0, go0, wr0, nI e0, nI ad0, nI d0, tu0, ti0) d0 (sn fi) x)) nd) H := hP
    have hD : va_D A (cw a cA N f (kAns N ob 128 ad0 101122067) (tr_end (tr_add (h0, go0, wr0, nI e0, nI ad0, nI d0, tu0, ti0) d0 (sn fi) x)) nd) := hD
    rw [hQ]
    have hw9 : (cw a cA N f (kAns N ob 128 ad0 101122067) (tr_end (tr_add (h0, go0, wr0, nI e0, nI ad0, nI d0, tu0, ti0) d0 (sn fi) x)) nd) = (c4 a cA N (kWSeg N f ob (h0, go0, wr0, nI e0, nI ad0, nI d0, tu0, ti0) nd fi x e0 d0 ad0)) := by simp only [kWSeg, if_neg hc1, if_pos hc3, if_pos hle, if_neg hc4]; rfl
    exact W.vret hx hb hr (fun t ht hW => ⟨rfl, by rw [ht, ← hw9]; exact hP, by rw [← hw9]; exact hD, hS.F ht⟩) hS.2.2 dX4_writeSegment_113
  · refine zb_ci (va_runV (As := [.long (lN x), .int (nI (sn fi))]) (rest := []) ⟨hx, hb, hml, hown, htb⟩ (c_addNo l D a cA N f ob (h0, go0, wr0, nI e0, nI ad0, nI d0, tu0, ti0) nd e0 d0 (sn fi) (lN x) he0 rfl rfl hd0 (by omega) (by unfold sn; omega)) (cwV 2 htb (wb_V kM_X4_211 kI_X3_add kS_X3_add kN_X3 kD_X3_add) rfl rfl rfl (by decide +kernel) ⟨Nat.le_of_ble_eq_true rfl, Nat.le_of_ble_eq_true rfl⟩) (zp_V 7 rfl rfl hP hK hSt hS hnw) rfl rfl hl.1 rfl (lv_room (Nat.le_of_ble_eq_true rfl)) dX4_writeSegment_40 ⟨Nat.le_of_ble_eq_true rfl, Nat.le_of_ble_eq_true rfl⟩) ?_
    refine lv_if_ne (tgt := 50) hx hb dX4_writeSegment_43 (by decide) (fun hno => absurd (by decide) hno) (fun _ => ?_)
    refine lv_ldc (v := 101122066) hx hb hown (htb _ kK_X4_230) dX4_writeSegment_46 ?_
    refine lv_istore hx hb dX4_writeSegment_48 hl (by decide) rfl (fun ls hl => ?_)
    have hl : lv_has ls 6 [(5, .int 101122066), (4, .int 1), (0, .ref (a 0)), (1, .int (nI fi)), (2, .long (lN x))] := hl
    refine lv_iload hx hb dX4_writeSegment_50 (lv_at hl 0 rfl) ?_
    refine lv_if_ne (tgt := 95) hx hb dX4_writeSegment_52 (by decide) (fun _ => ?_) (fun hno => absurd hno (by decide))
    refine lv_iload hx hb dX4_writeSegment_95 (lv_at hl 0 rfl) ?_
    refine lv_if_eq (tgt := 114) hx hb dX4_writeSegment_97 (by decide) (fun hno => absurd hno (by decide)) (fun _ => ?_)
    refine lv_aload_n hx hb dX4_writeSegment_100 rfl (lv_at hl 2 rfl) ?_
    refine lv_aload_n hx hb dX4_writeSegment_101 rfl (lv_at hl 2 rfl) ?_
    refine va_get (D := D) (ci := 4) (v := .ref (a 7)) (fs := [.int N, .ref (a 1), .ref (a 3), .ref (a 4), .ref (a 5), .ref (a 7), .int nd.1, .int nd.2.1, .int nd.2.2.1, .long nd.2.2.2]) (C := RX4) (T := TX4) (N := 10) hx hb htb inX4 hown hK hP 0 rfl rfl 5 (by decide) (htb _ kF_X4_51) (fun _ h9 => h9) rfl dX4_writeSegment_102 ?_
    refine va_getN (D := D) (ci := 3) (v := .int (nI ad0)) (fs := [.ref (a 8), .int go0, .int wr0, .int (nI e0), .int (nI ad0), .int (nI d0), .int tu0, .int ti0]) (C := RX3) (T := TX3) (N := 8) hx hb htb inX3 hown hK hP 7 rfl rfl 4 (by decide) (va_Nw.use rfl (hnw _ kT_X4_98)) (fun _ h9 => h9) rfl dX4_writeSegment_105 ?_
    refine zb_ti (y := nI ad0) (rfl) ?_
    refine lv_iload hx hb dX4_writeSegment_108 (lv_at hl 0 rfl) ?_
    refine zb_cv (va_runV (As := [.int (nI ad0), .int 101122066]) (rest := []) ⟨hx, hb, hml, hown, htb⟩ (c_abort l D a cA N f ob (h0, go0, wr0, nI e0, nI ad0, nI d0, tu0, ti0) nd _ ad0 101122066 ho (by omega) (by decide)) (cwV 2 htb (wb_V kM_X4_102 kI_X4_abort kS_X4_abort kN_X4 kD_X4_abort) rfl rfl rfl (by decide +kernel) ⟨Nat.le_of_ble_eq_true rfl, Nat.le_of_ble_eq_true rfl⟩) (zp_VW 0 rfl rfl hP hD hK hSt hS hA hnw) rfl rfl hl.1 rfl (lv_room (Nat.le_of_ble_eq_true rfl)) dX4_writeSegment_110 ⟨Nat.le_of_ble_eq_true rfl, Nat.le_of_ble_eq_true rfl⟩) hD hS hA (fun H locs hP hD hS => ?_)
    have hP : va_P D vwCl (cw a cA N f (kAns N ob 128 ad0 101122066) (tr_end (h0, go0, wr0, nI e0, nI ad0, nI d0, tu0, ti0)) nd) H := hP
    have hD : va_D A (cw a cA N f (kAns N ob 128 ad0 101122066) (tr_end (h0, go0, wr0, nI e0, nI ad0, nI d0, tu0, ti0)) nd) := hD
    rw [hQ]
    have hw9 : (cw a cA N f (kAns N ob 128 ad0 101122066) (tr_end (h0, go0, wr0, nI e0, nI ad0, nI d0, tu0, ti0)) nd) = (c4 a cA N (kWSeg N f ob (h0, go0, wr0, nI e0, nI ad0, nI d0, tu0, ti0) nd fi x e0 d0 ad0)) := by simp only [kWSeg, if_neg hc1, if_pos hc3, if_neg hle]; rfl
    exact W.vret hx hb hr (fun t ht hW => ⟨rfl, by rw [ht, ← hw9]; exact hP, by rw [← hw9]; exact hD, hS.F ht⟩) hS.2.2 dX4_writeSegment_113
