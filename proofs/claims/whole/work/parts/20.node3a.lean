set_option maxHeartbeats 4000000 in
set_option maxRecDepth 100000 in
theorem c_write (l : Launch) (D : va_G) (a : Nat → Nat) (cA : ClassId) (N : Int32) (f : Nat → Int32) (ob : OB) (tr : TR) (nd : ND) (sz : Nat) (fi ad hg : Nat) (hB : isB f) (hT : mapK f 3 6) (hG : mapK f 9 5) (ho : obK ob) (hBh : isB tr.1) (hfi : fi < 256) (had : ad < 2 ^ 24) (hhg : hg < 2 ^ 32) : Met l yX4_write (wX4_write :: wb) ({ frames := 4, cells := 0, slots := 0, locals := 103 } : Room) (va_Pc [.ref (a 0), .int (nI fi), .int (nI ad), .int (nI hg)] (zPre D [(cA, .int)] (cw a cA N f ob tr nd) sz)) (zb_Vv D vwCl (c4 a cA N (kWrite N f ob tr nd fi ad hg)) (va_A (cw a cA N f ob tr nd) sz)) 0 0 (va_A (cw a cA N f ob tr nd) sz) := by
  refine Met.ofW (cc := cX4_write) (maxL := 7) (ret := none) (by decide) rfl ?_
  intro p ev s m args below meth c s₁ B hml hv
  obtain ⟨rfl, hsz, hP, hK, hD0, hSt, hnw⟩ := hv
  have hx := B.exec
  have hb := B.bytes
  have hr := B.returns
  have hts := atoms_spec (ws := wX4_write :: wb) B.pre
  have htb : ∀ w ∈ wb, w.before ([.ref (a 0), .int (nI fi), .int (nI ad), .int (nI hg)]).toArray s = true := fun w h => hts w (List.mem_cons_of_mem _ h)
  have hown : s.vm.findClass RX4 = some m.cls := findClass_of_methodNamed B.named
  have hlocks := B.notSynchronized
  subst hsz
  have hD := hD0.self (sz := s.heap.size)
  clear hD0
  generalize hAe : va_A (cw a cA N f ob tr nd) s.heap.size = A at hD hSt ⊢
  have hA : ∀ q : Nat, s.heap.size ≤ q → A q := fun q h => by rw [← hAe]; exact Or.inr h
  have hS : va_S A s.heap s.heap [] := va_S.rf
  obtain ⟨⟨tt, ff, hZT, hTT, hZF, hTF⟩, hXS⟩ := id hSt
  have hl := lv_entry ([.ref (a 0), .int (nI fi), .int (nI ad), .int (nI hg)]) (n := 7) (Nat.le_of_ble_eq_true rfl)
  rw [lg_entry_eq]
  generalize (lg_sl ([.ref (a 0), .int (nI fi), .int (nI ad), .int (nI hg)]) ++ List.replicate (7 - (lg_sl ([.ref (a 0), .int (nI fi), .int (nI ad), .int (nI hg)])).length) Slot.unset).toArray = ls at hl ⊢
  have hl : lv_has ls 7 [(0, .ref (a 0)), (1, .int (nI fi)), (2, .int (nI ad)), (3, .int (nI hg))] := hl
  refine zb_abs (fun Q hQ => ?_)
  refine lv_aload_n hx hb dX4_write_0 rfl (lv_at hl 0 rfl) ?_
  refine va_get (D := D) (ci := 4) (v := .ref (a 7)) (fs := [.int N, .ref (a 1), .ref (a 3), .ref (a 4), .ref (a 5), .ref (a 7), .int nd.1, .int nd.2.1, .int nd.2.2.1, .long nd.2.2.2]) (C := RX4) (T := TX4) (N := 10) hx hb htb inX4 hown hK hP 0 rfl rfl 5 (by decide) (htb _ kF_X4_51) (fun _ h9 => h9) rfl dX4_write_1 ?_
  refine zb_cv (va_runV (As := []) (rest := []) ⟨hx, hb, hml, hown, htb⟩ (c_trEnd l D a cA N f ob tr nd _ ) (cwV 0 htb (wb_V kM_X4_132 kI_X3_end kS_X3_end kN_X3 kD_X3_end) rfl rfl rfl (by decide +kernel) ⟨Nat.le_of_ble_eq_true rfl, Nat.le_of_ble_eq_true rfl⟩) (zp_VW 7 rfl rfl hP hD hK hSt hS hA hnw) rfl rfl hl.1 rfl (lv_room (Nat.le_of_ble_eq_true rfl)) dX4_write_4 ⟨Nat.le_of_ble_eq_true rfl, Nat.le_of_ble_eq_true rfl⟩) hD hS hA (fun H locs hP hD hS => ?_)
  have hP : va_P D vwCl (cw a cA N f ob (tr_end tr) nd) H := hP
  have hD : va_D A (cw a cA N f ob (tr_end tr) nd) := hD
  refine lv_iload_n hx hb dX4_write_7 rfl (lv_at hl 1 rfl) ?_
  refine lv_iconst (v := 2) hx hb dX4_write_8 (by decide) ?_
  refine lv_iand hx hb dX4_write_9 ?_
  refine lv_if_eq (tgt := 17) hx hb dX4_write_10 (by decide) (fun hc1 => ?_) (fun hc1 => ?_)
  · refine lv_iconst (v := 0) hx hb dX4_write_17 (by decide) ?_
    refine lv_istore hx hb dX4_write_18 hl (by decide) rfl (fun ls hl => ?_)
    have hl : lv_has ls 7 [(4, .int 0), (0, .ref (a 0)), (1, .int (nI fi)), (2, .int (nI ad)), (3, .int (nI hg))] := hl
    refine lv_aload_n hx hb dX4_write_20 rfl (lv_at hl 1 rfl) ?_
    refine lv_iload_n hx hb dX4_write_21 rfl (lv_at hl 3 rfl) ?_
    refine zb_ci (va_runV (As := [.int (nI ad)]) (rest := []) ⟨hx, hb, hml, hown, htb⟩ (c_entryAt l D a cA N f ob (tr_end tr) nd ad had) (cwV 1 htb (wb_V kM_X4_197 kI_X4_entryAt kS_X4_entryAt kN_X4 kD_X4_entryAt) rfl rfl rfl (by decide +kernel) ⟨Nat.le_of_ble_eq_true rfl, Nat.le_of_ble_eq_true rfl⟩) (zp_V 0 rfl rfl hP hK hSt hS hnw) rfl rfl hl.1 rfl (lv_room (Nat.le_of_ble_eq_true rfl)) dX4_write_22 ⟨Nat.le_of_ble_eq_true rfl, Nat.le_of_ble_eq_true rfl⟩) ?_
    cases hea : eAt ad with
    | none =>
      refine zb_ti (y := (-1)) (rfl) ?_
      refine lv_istore hx hb dX4_write_25 hl (by decide) rfl (fun ls hl => ?_)
      have hl : lv_has ls 7 [(5, .int (-1)), (4, .int 0), (0, .ref (a 0)), (1, .int (nI fi)), (2, .int (nI ad)), (3, .int (nI hg))] := hl
      refine lv_aload_n hx hb dX4_write_27 rfl (lv_at hl 2 rfl) ?_
      refine lv_iload hx hb dX4_write_28 (lv_at hl 0 rfl) ?_
      refine lv_iload_n hx hb dX4_write_30 rfl (lv_at hl 4 rfl) ?_
      refine lv_iconst (v := 2) hx hb dX4_write_31 (by decide) ?_
      refine zb_ci (va_runV (As := [.int (-1), .int (nI ad), .int 2]) (rest := []) ⟨hx, hb, hml, hown, htb⟩ (c_accN l D a cA N f ob (tr_end tr) nd ad 2 (by omega)) (cwV 3 htb (wb_V kM_X4_200 kI_X4_accessFault kS_X4_accessFault kN_X4 kD_X4_accessFault) rfl rfl rfl (by decide +kernel) ⟨Nat.le_of_ble_eq_true rfl, Nat.le_of_ble_eq_true rfl⟩) (zp_V 0 rfl rfl hP hK hSt hS hnw) rfl rfl hl.1 rfl (lv_room (Nat.le_of_ble_eq_true rfl)) dX4_write_32 ⟨Nat.le_of_ble_eq_true rfl, Nat.le_of_ble_eq_true rfl⟩) ?_
      refine lv_istore hx hb dX4_write_35 hl (by decide) rfl (fun ls hl => ?_)
      have hl : lv_has ls 7 [(6, .int (nI (aX ad))), (5, .int (-1)), (4, .int 0), (0, .ref (a 0)), (1, .int (nI fi)), (2, .int (nI ad)), (3, .int (nI hg))] := hl
      refine lv_iload hx hb dX4_write_37 (lv_at hl 0 rfl) ?_
      refine lv_if_ne (tgt := 54) hx hb dX4_write_39 (by decide) (fun _ => ?_) (fun hno => absurd hno (aN_ne _))
      refine lv_iload hx hb dX4_write_54 (lv_at hl 0 rfl) ?_
      refine lv_if_ne (tgt := 105) hx hb dX4_write_56 (by decide) (fun _ => ?_) (fun hno => absurd hno (aN_ne _))
      refine lv_iload hx hb dX4_write_105 (lv_at hl 0 rfl) ?_
      refine lv_if_eq (tgt := 118) hx hb dX4_write_107 (by decide) (fun hno => absurd hno (aN_ne _)) (fun _ => ?_)
      refine lv_aload_n hx hb dX4_write_110 rfl (lv_at hl 3 rfl) ?_
      refine lv_iload_n hx hb dX4_write_111 rfl (lv_at hl 5 rfl) ?_
      refine lv_iload hx hb dX4_write_112 (lv_at hl 0 rfl) ?_
      refine zb_cv (va_runV (As := [.int (nI ad), .int (nI (aX ad))]) (rest := []) ⟨hx, hb, hml, hown, htb⟩ (c_abort l D a cA N f ob (tr_end tr) nd _ ad (aX ad) ho (by omega) (aN_lt _)) (cwV 2 htb (wb_V kM_X4_102 kI_X4_abort kS_X4_abort kN_X4 kD_X4_abort) rfl rfl rfl (by decide +kernel) ⟨Nat.le_of_ble_eq_true rfl, Nat.le_of_ble_eq_true rfl⟩) (zp_VW 0 rfl rfl hP hD hK hSt hS hA hnw) rfl rfl hl.1 rfl (lv_room (Nat.le_of_ble_eq_true rfl)) dX4_write_114 ⟨Nat.le_of_ble_eq_true rfl, Nat.le_of_ble_eq_true rfl⟩) hD hS hA (fun H locs hP hD hS => ?_)
      have hP : va_P D vwCl (cw a cA N f (kAns N ob 128 ad (aX ad)) (tr_end (tr_end tr)) nd) H := hP
      have hD : va_D A (cw a cA N f (kAns N ob 128 ad (aX ad)) (tr_end (tr_end tr)) nd) := hD
      rw [hQ]
      have hw9 : (cw a cA N f (kAns N ob 128 ad (aX ad)) (tr_end (tr_end tr)) nd) = (c4 a cA N (kWrite N f ob tr nd fi ad hg)) := by simp only [kWrite, hea, Option.elim, if_pos hc1]; rfl
      exact W.vret hx hb hr (fun t ht hW => ⟨rfl, by rw [ht, ← hw9]; exact hP, by rw [← hw9]; exact hD, hS.F ht⟩) hS.2.2 dX4_write_117
    | some e9 =>
      refine zb_ti (y := nI e9) (rfl) ?_
      have h22_e9 : e9 < 22 := (fun h => (fd_lt h).1) hea
      refine lv_istore hx hb dX4_write_25 hl (by decide) rfl (fun ls hl => ?_)
      have hl : lv_has ls 7 [(5, .int (nI e9)), (4, .int 0), (0, .ref (a 0)), (1, .int (nI fi)), (2, .int (nI ad)), (3, .int (nI hg))] := hl
      refine lv_aload_n hx hb dX4_write_27 rfl (lv_at hl 2 rfl) ?_
      refine lv_iload hx hb dX4_write_28 (lv_at hl 0 rfl) ?_
      refine lv_iload_n hx hb dX4_write_30 rfl (lv_at hl 4 rfl) ?_
      refine lv_iconst (v := 2) hx hb dX4_write_31 (by decide) ?_
      refine zb_ci (va_runV (As := [.int (nI e9), .int (nI ad), .int 2]) (rest := []) ⟨hx, hb, hml, hown, htb⟩ (c_accS l D a cA N f ob (tr_end tr) nd e9 ad 2 h22_e9) (cwV 3 htb (wb_V kM_X4_200 kI_X4_accessFault kS_X4_accessFault kN_X4 kD_X4_accessFault) rfl rfl rfl (by decide +kernel) ⟨Nat.le_of_ble_eq_true rfl, Nat.le_of_ble_eq_true rfl⟩) (zp_V 0 rfl rfl hP hK hSt hS hnw) rfl rfl hl.1 rfl (lv_room (Nat.le_of_ble_eq_true rfl)) dX4_write_32 ⟨Nat.le_of_ble_eq_true rfl, Nat.le_of_ble_eq_true rfl⟩) ?_
      refine lv_istore hx hb dX4_write_35 hl (by decide) rfl (fun ls hl => ?_)
      have hl : lv_has ls 7 [(6, .int (nI (aS e9 2))), (5, .int (nI e9)), (4, .int 0), (0, .ref (a 0)), (1, .int (nI fi)), (2, .int (nI ad)), (3, .int (nI hg))] := hl
      refine lv_iload hx hb dX4_write_37 (lv_at hl 0 rfl) ?_
      refine lv_if_ne (tgt := 54) hx hb dX4_write_39 (by decide) (fun hc2 => ?_) (fun hc2 => ?_)
      · refine lv_iload hx hb dX4_write_54 (lv_at hl 0 rfl) ?_
        refine lv_if_ne (tgt := 105) hx hb dX4_write_56 (by decide) (fun _ => ?_) (fun hno => absurd hno hc2)
        refine lv_iload hx hb dX4_write_105 (lv_at hl 0 rfl) ?_
        refine lv_if_eq (tgt := 118) hx hb dX4_write_107 (by decide) (fun hno => absurd hno hc2) (fun _ => ?_)
        refine lv_aload_n hx hb dX4_write_110 rfl (lv_at hl 3 rfl) ?_
        refine lv_iload_n hx hb dX4_write_111 rfl (lv_at hl 5 rfl) ?_
        refine lv_iload hx hb dX4_write_112 (lv_at hl 0 rfl) ?_
        refine zb_cv (va_runV (As := [.int (nI ad), .int (nI (aS e9 2))]) (rest := []) ⟨hx, hb, hml, hown, htb⟩ (c_abort l D a cA N f ob (tr_end tr) nd _ ad (aS e9 2) ho (by omega) (aS_lt _ _)) (cwV 2 htb (wb_V kM_X4_102 kI_X4_abort kS_X4_abort kN_X4 kD_X4_abort) rfl rfl rfl (by decide +kernel) ⟨Nat.le_of_ble_eq_true rfl, Nat.le_of_ble_eq_true rfl⟩) (zp_VW 0 rfl rfl hP hD hK hSt hS hA hnw) rfl rfl hl.1 rfl (lv_room (Nat.le_of_ble_eq_true rfl)) dX4_write_114 ⟨Nat.le_of_ble_eq_true rfl, Nat.le_of_ble_eq_true rfl⟩) hD hS hA (fun H locs hP hD hS => ?_)
        have hP : va_P D vwCl (cw a cA N f (kAns N ob 128 ad (aS e9 2)) (tr_end (tr_end tr)) nd) H := hP
        have hD : va_D A (cw a cA N f (kAns N ob 128 ad (aS e9 2)) (tr_end (tr_end tr)) nd) := hD
        rw [hQ]
        have hw9 : (cw a cA N f (kAns N ob 128 ad (aS e9 2)) (tr_end (tr_end tr)) nd) = (c4 a cA N (kWrite N f ob tr nd fi ad hg)) := by simp only [kWrite, hea, Option.elim, if_pos hc1, if_neg hc2]; rfl
        exact W.vret hx hb hr (fun t ht hW => ⟨rfl, by rw [ht, ← hw9]; exact hP, by rw [← hw9]; exact hD, hS.F ht⟩) hS.2.2 dX4_write_117
      have hft9 := x_fit e9 h22_e9
      refine lv_iload_n hx hb dX4_write_42 rfl (lv_at hl 4 rfl) ?_
      refine lv_iload_n hx hb dX4_write_43 rfl (lv_at hl 6 rfl) ?_
      refine lv_iload hx hb dX4_write_44 (lv_at hl 1 rfl) ?_
      refine zb_ci (va_runS (As := [.int (nI e9)]) (rest := [.int (nI hg), .int (nI fi)]) ⟨hx, hb, hml, hown, htb⟩ (c_sizeOf l D a cA N f ob (tr_end tr) nd e9 h22_e9) (va_cwS 1 htb (wb_S kM_X4_108 kZ_X0_sizeOf kN_X0 kD_X0_sizeOf) rfl rfl rfl (by decide +kernel) ⟨Nat.le_of_ble_eq_true rfl, Nat.le_of_ble_eq_true rfl⟩) (zp_S hP hK hSt hS hnw) rfl rfl hl.1 rfl (lv_room (Nat.le_of_ble_eq_true rfl)) dX4_write_46 ⟨Nat.le_of_ble_eq_true rfl, Nat.le_of_ble_eq_true rfl⟩) ?_
      refine zb_ci (va_runS (As := [.int (nI fi), .int (nI hg), .int (nI (xZ e9))]) (rest := []) ⟨hx, hb, hml, hown, htb⟩ (c_lenF l D a cA N f ob (tr_end tr) nd fi (nI hg) (xZ e9)) (va_cwS 3 htb (wb_S kM_X4_204 kZ_X4_lengthFault kN_X4 kD_X4_lengthFault) rfl rfl rfl (by decide +kernel) ⟨Nat.le_of_ble_eq_true rfl, Nat.le_of_ble_eq_true rfl⟩) (zp_S hP hK hSt hS hnw) rfl rfl hl.1 rfl (lv_room (Nat.le_of_ble_eq_true rfl)) dX4_write_49 ⟨Nat.le_of_ble_eq_true rfl, Nat.le_of_ble_eq_true rfl⟩) ?_
      refine lv_istore hx hb dX4_write_52 hl (by decide) rfl (fun ls hl => ?_)
      have hl : lv_has ls 7 [(6, .int (nI (lF fi (nI hg) (xZ e9)))), (5, .int (nI e9)), (4, .int 0), (0, .ref (a 0)), (1, .int (nI fi)), (2, .int (nI ad)), (3, .int (nI hg))] := hl
      refine lv_iload hx hb dX4_write_54 (lv_at hl 0 rfl) ?_
      refine lv_if_ne (tgt := 105) hx hb dX4_write_56 (by decide) (fun hc3 => ?_) (fun hc3 => ?_)
      · refine lv_iload hx hb dX4_write_105 (lv_at hl 0 rfl) ?_
        refine lv_if_eq (tgt := 118) hx hb dX4_write_107 (by decide) (fun hno => absurd hno hc3) (fun _ => ?_)
        refine lv_aload_n hx hb dX4_write_110 rfl (lv_at hl 3 rfl) ?_
        refine lv_iload_n hx hb dX4_write_111 rfl (lv_at hl 5 rfl) ?_
        refine lv_iload hx hb dX4_write_112 (lv_at hl 0 rfl) ?_
        refine zb_cv (va_runV (As := [.int (nI ad), .int (nI (lF fi (nI hg) (xZ e9)))]) (rest := []) ⟨hx, hb, hml, hown, htb⟩ (c_abort l D a cA N f ob (tr_end tr) nd _ ad (lF fi (nI hg) (xZ e9)) ho (by omega) (lF_lt _ _ _)) (cwV 2 htb (wb_V kM_X4_102 kI_X4_abort kS_X4_abort kN_X4 kD_X4_abort) rfl rfl rfl (by decide +kernel) ⟨Nat.le_of_ble_eq_true rfl, Nat.le_of_ble_eq_true rfl⟩) (zp_VW 0 rfl rfl hP hD hK hSt hS hA hnw) rfl rfl hl.1 rfl (lv_room (Nat.le_of_ble_eq_true rfl)) dX4_write_114 ⟨Nat.le_of_ble_eq_true rfl, Nat.le_of_ble_eq_true rfl⟩) hD hS hA (fun H locs hP hD hS => ?_)
        have hP : va_P D vwCl (cw a cA N f (kAns N ob 128 ad (lF fi (nI hg) (xZ e9))) (tr_end (tr_end tr)) nd) H := hP
        have hD : va_D A (cw a cA N f (kAns N ob 128 ad (lF fi (nI hg) (xZ e9))) (tr_end (tr_end tr)) nd) := hD
        rw [hQ]
        have hw9 : (cw a cA N f (kAns N ob 128 ad (lF fi (nI hg) (xZ e9))) (tr_end (tr_end tr)) nd) = (c4 a cA N (kWrite N f ob tr nd fi ad hg)) := by simp only [kWrite, hea, Option.elim, if_pos hc1, if_pos hc2, if_neg hc3]; rfl
        exact W.vret hx hb hr (fun t ht hW => ⟨rfl, by rw [ht, ← hw9]; exact hP, by rw [← hw9]; exact hD, hS.F ht⟩) hS.2.2 dX4_write_117
      refine lv_aload_n hx hb dX4_write_59 rfl (lv_at hl 3 rfl) ?_
      refine va_get (D := D) (ci := 4) (v := .ref (a 7)) (fs := [.int N, .ref (a 1), .ref (a 3), .ref (a 4), .ref (a 5), .ref (a 7), .int nd.1, .int nd.2.1, .int nd.2.2.1, .long nd.2.2.2]) (C := RX4) (T := TX4) (N := 10) hx hb htb inX4 hown hK hP 0 rfl rfl 5 (by decide) (htb _ kF_X4_51) (fun _ h9 => h9) rfl dX4_write_60 ?_
      refine lv_iload hx hb dX4_write_63 (lv_at hl 1 rfl) ?_
      refine lv_iload_n hx hb dX4_write_65 rfl (lv_at hl 5 rfl) ?_
      refine lv_iconst (v := 1) hx hb dX4_write_66 (by decide) ?_
      refine zb_cv (va_runV (As := [.int (nI e9), .int (nI ad), .int 1]) (rest := []) ⟨hx, hb, hml, hown, htb⟩ (c_trBegin l D a cA N f ob (tr_end tr) nd _ (nI e9) (nI ad) 1 (by decide)) (cwV 3 htb (wb_V kM_X4_207 kI_X3_begin kS_X3_begin kN_X3 kD_X3_begin) rfl rfl rfl (by decide +kernel) ⟨Nat.le_of_ble_eq_true rfl, Nat.le_of_ble_eq_true rfl⟩) (zp_VW 7 rfl rfl hP hD hK hSt hS hA hnw) rfl rfl hl.1 rfl (lv_room (Nat.le_of_ble_eq_true rfl)) dX4_write_67 ⟨Nat.le_of_ble_eq_true rfl, Nat.le_of_ble_eq_true rfl⟩) hD hS hA (fun H locs hP hD hS => ?_)
      have hP : va_P D vwCl (cw a cA N f ob (tr_begin (tr_end tr) (nI e9) (nI ad) 1) nd) H := hP
      have hD : va_D A (cw a cA N f ob (tr_begin (tr_end tr) (nI e9) (nI ad) 1) nd) := hD
      refine lv_iload hx hb dX4_write_70 (lv_at hl 2 rfl) ?_
      refine lv_if_eq (tgt := 105) hx hb dX4_write_72 (by decide) (fun _ => ?_) (fun hno => absurd (by decide) hno)
      refine lv_iload hx hb dX4_write_105 (lv_at hl 0 rfl) ?_
      refine lv_if_eq (tgt := 118) hx hb dX4_write_107 (by decide) (fun _ => ?_) (fun hno => absurd hc3 hno)
      refine lv_iload hx hb dX4_write_118 (lv_at hl 2 rfl) ?_
      refine lv_if_eq (tgt := 127) hx hb dX4_write_120 (by decide) (fun _ => ?_) (fun hno => absurd (by decide) hno)
      refine lv_aload_n hx hb dX4_write_127 rfl (lv_at hl 3 rfl) ?_
      refine lv_bipush (v := 96) hx hb dX4_write_128 (by decide) ?_
      refine lv_iload_n hx hb dX4_write_130 rfl (lv_at hl 5 rfl) ?_
      refine lv_iconst (v := 0) hx hb dX4_write_131 (by decide) ?_
      refine zb_cv (va_runV (As := [.int 96, .int (nI ad), .int 0]) (rest := []) ⟨hx, hb, hml, hown, htb⟩ (c_answer l D a cA N f ob (tr_begin (tr_end tr) (nI e9) (nI ad) 1) nd _ 96 ad 0 ho (by decide) (by omega) (by decide)) (cwV 3 htb (wb_V kM_X4_223 kI_X4_answer kS_X4_answer kN_X4 kD_X4_answer) rfl rfl rfl (by decide +kernel) ⟨Nat.le_of_ble_eq_true rfl, Nat.le_of_ble_eq_true rfl⟩) (zp_VW 0 rfl rfl hP hD hK hSt hS hA hnw) rfl rfl hl.1 rfl (lv_room (Nat.le_of_ble_eq_true rfl)) dX4_write_132 ⟨Nat.le_of_ble_eq_true rfl, Nat.le_of_ble_eq_true rfl⟩) hD hS hA (fun H locs hP hD hS => ?_)
      have hP : va_P D vwCl (cw a cA N f (kAns N ob 96 ad 0) (tr_begin (tr_end tr) (nI e9) (nI ad) 1) nd) H := hP
      have hD : va_D A (cw a cA N f (kAns N ob 96 ad 0) (tr_begin (tr_end tr) (nI e9) (nI ad) 1) nd) := hD
      rw [hQ]
      have hw9 : (cw a cA N f (kAns N ob 96 ad 0) (tr_begin (tr_end tr) (nI e9) (nI ad) 1) nd) = (c4 a cA N (kWrite N f ob tr nd fi ad hg)) := by simp only [kWrite, hea, Option.elim, if_pos hc1, if_pos hc2, if_pos hc3]; rfl
      exact W.vret hx hb hr (fun t ht hW => ⟨rfl, by rw [ht, ← hw9]; exact hP, by rw [← hw9]; exact hD, hS.F ht⟩) hS.2.2 dX4_write_135
  refine lv_iconst (v := 1) hx hb dX4_write_13 (by decide) ?_
  refine lv_goto (tgt := 18) hx hb dX4_write_14 (by decide) ?_
  refine lv_istore hx hb dX4_write_18 hl (by decide) rfl (fun ls hl => ?_)
  have hl : lv_has ls 7 [(4, .int 1), (0, .ref (a 0)), (1, .int (nI fi)), (2, .int (nI ad)), (3, .int (nI hg))] := hl
  refine lv_aload_n hx hb dX4_write_20 rfl (lv_at hl 1 rfl) ?_
  refine lv_iload_n hx hb dX4_write_21 rfl (lv_at hl 3 rfl) ?_
  refine zb_ci (va_runV (As := [.int (nI ad)]) (rest := []) ⟨hx, hb, hml, hown, htb⟩ (c_entryAt l D a cA N f ob (tr_end tr) nd ad had) (cwV 1 htb (wb_V kM_X4_197 kI_X4_entryAt kS_X4_entryAt kN_X4 kD_X4_entryAt) rfl rfl rfl (by decide +kernel) ⟨Nat.le_of_ble_eq_true rfl, Nat.le_of_ble_eq_true rfl⟩) (zp_V 0 rfl rfl hP hK hSt hS hnw) rfl rfl hl.1 rfl (lv_room (Nat.le_of_ble_eq_true rfl)) dX4_write_22 ⟨Nat.le_of_ble_eq_true rfl, Nat.le_of_ble_eq_true rfl⟩) ?_
  cases hea : eAt ad with
  | none =>
    refine zb_ti (y := (-1)) (rfl) ?_
    refine lv_istore hx hb dX4_write_25 hl (by decide) rfl (fun ls hl => ?_)
    have hl : lv_has ls 7 [(5, .int (-1)), (4, .int 1), (0, .ref (a 0)), (1, .int (nI fi)), (2, .int (nI ad)), (3, .int (nI hg))] := hl
    refine lv_aload_n hx hb dX4_write_27 rfl (lv_at hl 2 rfl) ?_
    refine lv_iload hx hb dX4_write_28 (lv_at hl 0 rfl) ?_
    refine lv_iload_n hx hb dX4_write_30 rfl (lv_at hl 4 rfl) ?_
    refine lv_iconst (v := 2) hx hb dX4_write_31 (by decide) ?_
    refine zb_ci (va_runV (As := [.int (-1), .int (nI ad), .int 2]) (rest := []) ⟨hx, hb, hml, hown, htb⟩ (c_accN l D a cA N f ob (tr_end tr) nd ad 2 (by omega)) (cwV 3 htb (wb_V kM_X4_200 kI_X4_accessFault kS_X4_accessFault kN_X4 kD_X4_accessFault) rfl rfl rfl (by decide +kernel) ⟨Nat.le_of_ble_eq_true rfl, Nat.le_of_ble_eq_true rfl⟩) (zp_V 0 rfl rfl hP hK hSt hS hnw) rfl rfl hl.1 rfl (lv_room (Nat.le_of_ble_eq_true rfl)) dX4_write_32 ⟨Nat.le_of_ble_eq_true rfl, Nat.le_of_ble_eq_true rfl⟩) ?_
    refine lv_istore hx hb dX4_write_35 hl (by decide) rfl (fun ls hl => ?_)
    have hl : lv_has ls 7 [(6, .int (nI (aX ad))), (5, .int (-1)), (4, .int 1), (0, .ref (a 0)), (1, .int (nI fi)), (2, .int (nI ad)), (3, .int (nI hg))] := hl
    refine lv_iload hx hb dX4_write_37 (lv_at hl 0 rfl) ?_
    refine lv_if_ne (tgt := 54) hx hb dX4_write_39 (by decide) (fun _ => ?_) (fun hno => absurd hno (aN_ne _))
    refine lv_iload hx hb dX4_write_54 (lv_at hl 0 rfl) ?_
    refine lv_if_ne (tgt := 105) hx hb dX4_write_56 (by decide) (fun _ => ?_) (fun hno => absurd hno (aN_ne _))
    refine lv_iload hx hb dX4_write_105 (lv_at hl 0 rfl) ?_
    refine lv_if_eq (tgt := 118) hx hb dX4_write_107 (by decide) (fun hno => absurd hno (aN_ne _)) (fun _ => ?_)
    refine lv_aload_n hx hb dX4_write_110 rfl (lv_at hl 3 rfl) ?_
    refine lv_iload_n hx hb dX4_write_111 rfl (lv_at hl 5 rfl) ?_
    refine lv_iload hx hb dX4_write_112 (lv_at hl 0 rfl) ?_
    refine zb_cv (va_runV (As := [.int (nI ad), .int (nI (aX ad))]) (rest := []) ⟨hx, hb, hml, hown, htb⟩ (c_abort l D a cA N f ob (tr_end tr) nd _ ad (aX ad) ho (by omega) (aN_lt _)) (cwV 2 htb (wb_V kM_X4_102 kI_X4_abort kS_X4_abort kN_X4 kD_X4_abort) rfl rfl rfl (by decide +kernel) ⟨Nat.le_of_ble_eq_true rfl, Nat.le_of_ble_eq_true rfl⟩) (zp_VW 0 rfl rfl hP hD hK hSt hS hA hnw) rfl rfl hl.1 rfl (lv_room (Nat.le_of_ble_eq_true rfl)) dX4_write_114 ⟨Nat.le_of_ble_eq_true rfl, Nat.le_of_ble_eq_true rfl⟩) hD hS hA (fun H locs hP hD hS => ?_)
    have hP : va_P D vwCl (cw a cA N f (kAns N ob 128 ad (aX ad)) (tr_end (tr_end tr)) nd) H := hP
    have hD : va_D A (cw a cA N f (kAns N ob 128 ad (aX ad)) (tr_end (tr_end tr)) nd) := hD
    rw [hQ]
    have hw9 : (cw a cA N f (kAns N ob 128 ad (aX ad)) (tr_end (tr_end tr)) nd) = (c4 a cA N (kWrite N f ob tr nd fi ad hg)) := by simp only [kWrite, hea, Option.elim, if_neg hc1]; rfl
    exact W.vret hx hb hr (fun t ht hW => ⟨rfl, by rw [ht, ← hw9]; exact hP, by rw [← hw9]; exact hD, hS.F ht⟩) hS.2.2 dX4_write_117
  | some e9 =>
    refine zb_ti (y := nI e9) (rfl) ?_
    have h22_e9 : e9 < 22 := (fun h => (fd_lt h).1) hea
    refine lv_istore hx hb dX4_write_25 hl (by decide) rfl (fun ls hl => ?_)
    have hl : lv_has ls 7 [(5, .int (nI e9)), (4, .int 1), (0, .ref (a 0)), (1, .int (nI fi)), (2, .int (nI ad)), (3, .int (nI hg))] := hl
    refine lv_aload_n hx hb dX4_write_27 rfl (lv_at hl 2 rfl) ?_
    refine lv_iload hx hb dX4_write_28 (lv_at hl 0 rfl) ?_
    refine lv_iload_n hx hb dX4_write_30 rfl (lv_at hl 4 rfl) ?_
    refine lv_iconst (v := 2) hx hb dX4_write_31 (by decide) ?_
    refine zb_ci (va_runV (As := [.int (nI e9), .int (nI ad), .int 2]) (rest := []) ⟨hx, hb, hml, hown, htb⟩ (c_accS l D a cA N f ob (tr_end tr) nd e9 ad 2 h22_e9) (cwV 3 htb (wb_V kM_X4_200 kI_X4_accessFault kS_X4_accessFault kN_X4 kD_X4_accessFault) rfl rfl rfl (by decide +kernel) ⟨Nat.le_of_ble_eq_true rfl, Nat.le_of_ble_eq_true rfl⟩) (zp_V 0 rfl rfl hP hK hSt hS hnw) rfl rfl hl.1 rfl (lv_room (Nat.le_of_ble_eq_true rfl)) dX4_write_32 ⟨Nat.le_of_ble_eq_true rfl, Nat.le_of_ble_eq_true rfl⟩) ?_
    refine lv_istore hx hb dX4_write_35 hl (by decide) rfl (fun ls hl => ?_)
    have hl : lv_has ls 7 [(6, .int (nI (aS e9 2))), (5, .int (nI e9)), (4, .int 1), (0, .ref (a 0)), (1, .int (nI fi)), (2, .int (nI ad)), (3, .int (nI hg))] := hl
    refine lv_iload hx hb dX4_write_37 (lv_at hl 0 rfl) ?_
    refine lv_if_ne (tgt := 54) hx hb dX4_write_39 (by decide) (fun hc4 => ?_) (fun hc4 => ?_)
    · refine lv_iload hx hb dX4_write_54 (lv_at hl 0 rfl) ?_
      refine lv_if_ne (tgt := 105) hx hb dX4_write_56 (by decide) (fun _ => ?_) (fun hno => absurd hno hc4)
      refine lv_iload hx hb dX4_write_105 (lv_at hl 0 rfl) ?_
      refine lv_if_eq (tgt := 118) hx hb dX4_write_107 (by decide) (fun hno => absurd hno hc4) (fun _ => ?_)
      refine lv_aload_n hx hb dX4_write_110 rfl (lv_at hl 3 rfl) ?_
      refine lv_iload_n hx hb dX4_write_111 rfl (lv_at hl 5 rfl) ?_
      refine lv_iload hx hb dX4_write_112 (lv_at hl 0 rfl) ?_
      refine zb_cv (va_runV (As := [.int (nI ad), .int (nI (aS e9 2))]) (rest := []) ⟨hx, hb, hml, hown, htb⟩ (c_abort l D a cA N f ob (tr_end tr) nd _ ad (aS e9 2) ho (by omega) (aS_lt _ _)) (cwV 2 htb (wb_V kM_X4_102 kI_X4_abort kS_X4_abort kN_X4 kD_X4_abort) rfl rfl rfl (by decide +kernel) ⟨Nat.le_of_ble_eq_true rfl, Nat.le_of_ble_eq_true rfl⟩) (zp_VW 0 rfl rfl hP hD hK hSt hS hA hnw) rfl rfl hl.1 rfl (lv_room (Nat.le_of_ble_eq_true rfl)) dX4_write_114 ⟨Nat.le_of_ble_eq_true rfl, Nat.le_of_ble_eq_true rfl⟩) hD hS hA (fun H locs hP hD hS => ?_)
      have hP : va_P D vwCl (cw a cA N f (kAns N ob 128 ad (aS e9 2)) (tr_end (tr_end tr)) nd) H := hP
      have hD : va_D A (cw a cA N f (kAns N ob 128 ad (aS e9 2)) (tr_end (tr_end tr)) nd) := hD
      rw [hQ]
      have hw9 : (cw a cA N f (kAns N ob 128 ad (aS e9 2)) (tr_end (tr_end tr)) nd) = (c4 a cA N (kWrite N f ob tr nd fi ad hg)) := by simp only [kWrite, hea, Option.elim, if_neg hc1, if_neg hc4]; rfl
      exact W.vret hx hb hr (fun t ht hW => ⟨rfl, by rw [ht, ← hw9]; exact hP, by rw [← hw9]; exact hD, hS.F ht⟩) hS.2.2 dX4_write_117
    have hft9 := x_fit e9 h22_e9
    refine lv_iload_n hx hb dX4_write_42 rfl (lv_at hl 4 rfl) ?_
    refine lv_iload_n hx hb dX4_write_43 rfl (lv_at hl 6 rfl) ?_
    refine lv_iload hx hb dX4_write_44 (lv_at hl 1 rfl) ?_
    refine zb_ci (va_runS (As := [.int (nI e9)]) (rest := [.int (nI hg), .int (nI fi)]) ⟨hx, hb, hml, hown, htb⟩ (c_sizeOf l D a cA N f ob (tr_end tr) nd e9 h22_e9) (va_cwS 1 htb (wb_S kM_X4_108 kZ_X0_sizeOf kN_X0 kD_X0_sizeOf) rfl rfl rfl (by decide +kernel) ⟨Nat.le_of_ble_eq_true rfl, Nat.le_of_ble_eq_true rfl⟩) (zp_S hP hK hSt hS hnw) rfl rfl hl.1 rfl (lv_room (Nat.le_of_ble_eq_true rfl)) dX4_write_46 ⟨Nat.le_of_ble_eq_true rfl, Nat.le_of_ble_eq_true rfl⟩) ?_
    refine zb_ci (va_runS (As := [.int (nI fi), .int (nI hg), .int (nI (xZ e9))]) (rest := []) ⟨hx, hb, hml, hown, htb⟩ (c_lenF l D a cA N f ob (tr_end tr) nd fi (nI hg) (xZ e9)) (va_cwS 3 htb (wb_S kM_X4_204 kZ_X4_lengthFault kN_X4 kD_X4_lengthFault) rfl rfl rfl (by decide +kernel) ⟨Nat.le_of_ble_eq_true rfl, Nat.le_of_ble_eq_true rfl⟩) (zp_S hP hK hSt hS hnw) rfl rfl hl.1 rfl (lv_room (Nat.le_of_ble_eq_true rfl)) dX4_write_49 ⟨Nat.le_of_ble_eq_true rfl, Nat.le_of_ble_eq_true rfl⟩) ?_
    refine lv_istore hx hb dX4_write_52 hl (by decide) rfl (fun ls hl => ?_)
    have hl : lv_has ls 7 [(6, .int (nI (lF fi (nI hg) (xZ e9)))), (5, .int (nI e9)), (4, .int 1), (0, .ref (a 0)), (1, .int (nI fi)), (2, .int (nI ad)), (3, .int (nI hg))] := hl
    refine lv_iload hx hb dX4_write_54 (lv_at hl 0 rfl) ?_
    refine lv_if_ne (tgt := 105) hx hb dX4_write_56 (by decide) (fun hc5 => ?_) (fun hc5 => ?_)
    · refine lv_iload hx hb dX4_write_105 (lv_at hl 0 rfl) ?_
      refine lv_if_eq (tgt := 118) hx hb dX4_write_107 (by decide) (fun hno => absurd hno hc5) (fun _ => ?_)
      refine lv_aload_n hx hb dX4_write_110 rfl (lv_at hl 3 rfl) ?_
      refine lv_iload_n hx hb dX4_write_111 rfl (lv_at hl 5 rfl) ?_
      refine lv_iload hx hb dX4_write_112 (lv_at hl 0 rfl) ?_
      refine zb_cv (va_runV (As := [.int (nI ad), .int (nI (lF fi (nI hg) (xZ e9)))]) (rest := []) ⟨hx, hb, hml, hown, htb⟩ (c_abort l D a cA N f ob (tr_end tr) nd _ ad (lF fi (nI hg) (xZ e9)) ho (by omega) (lF_lt _ _ _)) (cwV 2 htb (wb_V kM_X4_102 kI_X4_abort kS_X4_abort kN_X4 kD_X4_abort) rfl rfl rfl (by decide +kernel) ⟨Nat.le_of_ble_eq_true rfl, Nat.le_of_ble_eq_true rfl⟩) (zp_VW 0 rfl rfl hP hD hK hSt hS hA hnw) rfl rfl hl.1 rfl (lv_room (Nat.le_of_ble_eq_true rfl)) dX4_write_114 ⟨Nat.le_of_ble_eq_true rfl, Nat.le_of_ble_eq_true rfl⟩) hD hS hA (fun H locs hP hD hS => ?_)
      have hP : va_P D vwCl (cw a cA N f (kAns N ob 128 ad (lF fi (nI hg) (xZ e9))) (tr_end (tr_end tr)) nd) H := hP
      have hD : va_D A (cw a cA N f (kAns N ob 128 ad (lF fi (nI hg) (xZ e9))) (tr_end (tr_end tr)) nd) := hD
      rw [hQ]
      have hw9 : (cw a cA N f (kAns N ob 128 ad (lF fi (nI hg) (xZ e9))) (tr_end (tr_end tr)) nd) = (c4 a cA N (kWrite N f ob tr nd fi ad hg)) := by simp only [kWrite, hea, Option.elim, if_neg hc1, if_pos hc4, if_neg hc5]; rfl
      exact W.vret hx hb hr (fun t ht hW => ⟨rfl, by rw [ht, ← hw9]; exact hP, by rw [← hw9]; exact hD, hS.F ht⟩) hS.2.2 dX4_write_117
    refine lv_aload_n hx hb dX4_write_59 rfl (lv_at hl 3 rfl) ?_
    refine va_get (D := D) (ci := 4) (v := .ref (a 7)) (fs := [.int N, .ref (a 1), .ref (a 3), .ref (a 4), .ref (a 5), .ref (a 7), .int nd.1, .int nd.2.1, .int nd.2.2.1, .long nd.2.2.2]) (C := RX4) (T := TX4) (N := 10) hx hb htb inX4 hown hK hP 0 rfl rfl 5 (by decide) (htb _ kF_X4_51) (fun _ h9 => h9) rfl dX4_write_60 ?_
    refine lv_iload hx hb dX4_write_63 (lv_at hl 1 rfl) ?_
    refine lv_iload_n hx hb dX4_write_65 rfl (lv_at hl 5 rfl) ?_
    refine lv_iconst (v := 1) hx hb dX4_write_66 (by decide) ?_
    refine zb_cv (va_runV (As := [.int (nI e9), .int (nI ad), .int 1]) (rest := []) ⟨hx, hb, hml, hown, htb⟩ (c_trBegin l D a cA N f ob (tr_end tr) nd _ (nI e9) (nI ad) 1 (by decide)) (cwV 3 htb (wb_V kM_X4_207 kI_X3_begin kS_X3_begin kN_X3 kD_X3_begin) rfl rfl rfl (by decide +kernel) ⟨Nat.le_of_ble_eq_true rfl, Nat.le_of_ble_eq_true rfl⟩) (zp_VW 7 rfl rfl hP hD hK hSt hS hA hnw) rfl rfl hl.1 rfl (lv_room (Nat.le_of_ble_eq_true rfl)) dX4_write_67 ⟨Nat.le_of_ble_eq_true rfl, Nat.le_of_ble_eq_true rfl⟩) hD hS hA (fun H locs hP hD hS => ?_)
    have hP : va_P D vwCl (cw a cA N f ob (tr_begin (tr_end tr) (nI e9) (nI ad) 1) nd) H := hP
    have hD : va_D A (cw a cA N f ob (tr_begin (tr_end tr) (nI e9) (nI ad) 1) nd) := hD
    refine lv_iload hx hb dX4_write_70 (lv_at hl 2 rfl) ?_
    refine lv_if_eq (tgt := 105) hx hb dX4_write_72 (by decide) (fun hno => absurd hno (by decide)) (fun _ => ?_)
    refine lv_aload_n hx hb dX4_write_75 rfl (lv_at hl 3 rfl) ?_
    refine va_get (D := D) (ci := 4) (v := .ref (a 7)) (fs := [.int N, .ref (a 1), .ref (a 3), .ref (a 4), .ref (a 5), .ref (a 7), .int nd.1, .int nd.2.1, .int nd.2.2.1, .long nd.2.2.2]) (C := RX4) (T := TX4) (N := 10) hx hb htb inX4 hown hK hP 0 rfl rfl 5 (by decide) (htb _ kF_X4_51) (fun _ h9 => h9) rfl dX4_write_76 ?_
    have hft9 := x_fit e9 h22_e9
    have hz4 : xZ e9 ≤ 4 := lF_at (by omega) hc5 hc1
    refine lv_iload_n hx hb dX4_write_79 rfl (lv_at hl 6 rfl) ?_
    refine lv_i2l hx hb dX4_write_80 rfl ?_
    refine zb_tl (y := lN (sx hg)) (sx_eq hhg) ?_
    refine lv_iload hx hb dX4_write_81 (lv_at hl 1 rfl) ?_
    refine zb_ci (va_runS (As := [.int (nI e9)]) (rest := [.long (lN (sx hg)), .ref (a 7)]) ⟨hx, hb, hml, hown, htb⟩ (c_sizeOf l D a cA N f ob (tr_begin (tr_end tr) (nI e9) (nI ad) 1) nd e9 h22_e9) (va_cwS 1 htb (wb_S kM_X4_108 kZ_X0_sizeOf kN_X0 kD_X0_sizeOf) rfl rfl rfl (by decide +kernel) ⟨Nat.le_of_ble_eq_true rfl, Nat.le_of_ble_eq_true rfl⟩) (zp_S hP hK hSt hS hnw) rfl rfl hl.1 rfl (lv_room (Nat.le_of_ble_eq_true rfl)) dX4_write_83 ⟨Nat.le_of_ble_eq_true rfl, Nat.le_of_ble_eq_true rfl⟩) ?_
    refine zb_cvi (va_runV (As := [.long (lN (sx hg)), .int (nI (xZ e9))]) (rest := []) ⟨hx, hb, hml, hown, htb⟩ (c_add l D a cA N f ob (tr_begin (tr_end tr) (nI e9) (nI ad) 1) nd _ e9 0 (xZ e9) (sx hg) h22_e9 rfl rfl (Nat.zero_le _) (by omega) (by omega) (sx_lt hhg)) (cwV 2 htb (wb_V kM_X4_211 kI_X3_add kS_X3_add kN_X3 kD_X3_add) rfl rfl rfl (by decide +kernel) ⟨Nat.le_of_ble_eq_true rfl, Nat.le_of_ble_eq_true rfl⟩) (zp_VW 7 rfl rfl hP hD hK hSt hS hA hnw) rfl rfl hl.1 rfl (lv_room (Nat.le_of_ble_eq_true rfl)) dX4_write_86 ⟨Nat.le_of_ble_eq_true rfl, Nat.le_of_ble_eq_true rfl⟩) hD hS hA (fun H locs hP hD hS => ?_)
    have hP : va_P D vwCl (cw a cA N f ob (tr_add (tr_begin (tr_end tr) (nI e9) (nI ad) 1) 0 (xZ e9) (sx hg)) nd) H := hP
    have hD : va_D A (cw a cA N f ob (tr_add (tr_begin (tr_end tr) (nI e9) (nI ad) 1) 0 (xZ e9) (sx hg)) nd) := hD
    have hP : va_P D vwCl (cw a cA N f ob (trW tr e9 ad hg) nd) H := hP
    have hD : va_D A (cw a cA N f ob (trW tr e9 ad hg) nd) := hD
    refine lv_pop hx hb dX4_write_89 rfl ?_
    refine lv_aload_n hx hb dX4_write_90 rfl (lv_at hl 3 rfl) ?_
    refine lv_iload hx hb dX4_write_91 (lv_at hl 1 rfl) ?_
    refine lv_aload_n hx hb dX4_write_93 rfl (lv_at hl 3 rfl) ?_
    refine va_get (D := D) (ci := 4) (v := .ref (a 7)) (fs := [.int N, .ref (a 1), .ref (a 3), .ref (a 4), .ref (a 5), .ref (a 7), .int nd.1, .int nd.2.1, .int nd.2.2.1, .long nd.2.2.2]) (C := RX4) (T := TX4) (N := 10) hx hb htb inX4 hown hK hP 0 rfl rfl 5 (by decide) (htb _ kF_X4_51) (fun _ h9 => h9) rfl dX4_write_94 ?_
    refine zb_ci (va_runV (As := []) (rest := [.int (nI e9), .ref (a 0)]) ⟨hx, hb, hml, hown, htb⟩ (c_number l D a cA N f ob (trW tr e9 ad hg) nd e9 (0 + xZ e9) h22_e9 rfl rfl (by omega) (isB_pF hBh _ _ _ _)) (cwV 0 htb (wb_V kM_X4_215 kI_X3_number kS_X3_number kN_X3 kD_X3_number) rfl rfl rfl (by decide +kernel) ⟨Nat.le_of_ble_eq_true rfl, Nat.le_of_ble_eq_true rfl⟩) (zp_V 7 rfl rfl hP hK hSt hS hnw) rfl rfl hl.1 rfl (lv_room (Nat.le_of_ble_eq_true rfl)) dX4_write_97 ⟨Nat.le_of_ble_eq_true rfl, Nat.le_of_ble_eq_true rfl⟩) ?_
    refine zb_ti (y := nI (vW tr e9 ad hg)) (rfl) ?_
    refine zb_ci (va_runV (As := [.int (nI e9), .int (nI (vW tr e9 ad hg))]) (rest := []) ⟨hx, hb, hml, hown, htb⟩ (c_storeFault l D a cA N f ob (trW tr e9 ad hg) nd e9 (vW tr e9 ad hg) hB hT hG h22_e9 (fun h1 => by have h8 := sm_lt (f := (trW tr e9 ad hg).1) (isB_pF hBh _ _ _ _) 0 (min (0 + xZ e9) 4); have h9 : min (0 + xZ e9) 4 = 1 := (by omega); unfold vW; rw [h9] at h8 ⊢; exact h8)) (cwV 2 htb (wb_V kM_X4_217 kI_X4_storeFault kS_X4_storeFault kN_X4 kD_X4_storeFault) rfl rfl rfl (by decide +kernel) ⟨Nat.le_of_ble_eq_true rfl, Nat.le_of_ble_eq_true rfl⟩) (zp_V 0 rfl rfl hP hK hSt hS hnw) rfl rfl hl.1 rfl (lv_room (Nat.le_of_ble_eq_true rfl)) dX4_write_100 ⟨Nat.le_of_ble_eq_true rfl, Nat.le_of_ble_eq_true rfl⟩) ?_
    refine lv_istore hx hb dX4_write_103 hl (by decide) rfl (fun ls hl => ?_)
    have hl : lv_has ls 7 [(6, .int (nI (stF nd.1 f e9 (vW tr e9 ad hg)))), (5, .int (nI e9)), (4, .int 1), (0, .ref (a 0)), (1, .int (nI fi)), (2, .int (nI ad)), (3, .int (nI hg))] := hl
    refine lv_iload hx hb dX4_write_105 (lv_at hl 0 rfl) ?_
    refine lv_if_eq (tgt := 118) hx hb dX4_write_107 (by decide) (fun hc6 => ?_) (fun hc6 => ?_)
    · refine lv_iload hx hb dX4_write_118 (lv_at hl 2 rfl) ?_
      refine lv_if_eq (tgt := 127) hx hb dX4_write_120 (by decide) (fun hno => absurd hno (by decide)) (fun _ => ?_)
      refine lv_aload_n hx hb dX4_write_123 rfl (lv_at hl 3 rfl) ?_
      refine zb_cv (va_runV (As := []) (rest := []) ⟨hx, hb, hml, hown, htb⟩ (c_store l D a cA N f ob (trW tr e9 ad hg) nd _ e9 (0 + xZ e9) h22_e9 rfl rfl (by omega)) (cwV 0 htb (wb_V kM_X4_220 kI_X4_store kS_X4_store kN_X4 kD_X4_store) rfl rfl rfl (by decide +kernel) ⟨Nat.le_of_ble_eq_true rfl, Nat.le_of_ble_eq_true rfl⟩) (zp_VW 0 rfl rfl hP hD hK hSt hS hA hnw) rfl rfl hl.1 rfl (lv_room (Nat.le_of_ble_eq_true rfl)) dX4_write_124 ⟨Nat.le_of_ble_eq_true rfl, Nat.le_of_ble_eq_true rfl⟩) hD hS hA (fun H locs hP hD hS => ?_)
      have hP : va_P D vwCl (cw a cA N (fSto f ((trW tr e9 ad hg).1) e9) ob (tr_end (trW tr e9 ad hg)) (nSto e9 nd)) H := hP
      have hD : va_D A (cw a cA N (fSto f ((trW tr e9 ad hg).1) e9) ob (tr_end (trW tr e9 ad hg)) (nSto e9 nd)) := hD
      refine lv_aload_n hx hb dX4_write_127 rfl (lv_at hl 3 rfl) ?_
      refine lv_bipush (v := 96) hx hb dX4_write_128 (by decide) ?_
      refine lv_iload_n hx hb dX4_write_130 rfl (lv_at hl 5 rfl) ?_
      refine lv_iconst (v := 0) hx hb dX4_write_131 (by decide) ?_
      refine zb_cv (va_runV (As := [.int 96, .int (nI ad), .int 0]) (rest := []) ⟨hx, hb, hml, hown, htb⟩ (c_answer l D a cA N (fSto f ((trW tr e9 ad hg).1) e9) ob (tr_end (trW tr e9 ad hg)) (nSto e9 nd) _ 96 ad 0 ho (by decide) (by omega) (by decide)) (cwV 3 htb (wb_V kM_X4_223 kI_X4_answer kS_X4_answer kN_X4 kD_X4_answer) rfl rfl rfl (by decide +kernel) ⟨Nat.le_of_ble_eq_true rfl, Nat.le_of_ble_eq_true rfl⟩) (zp_VW 0 rfl rfl hP hD hK hSt hS hA hnw) rfl rfl hl.1 rfl (lv_room (Nat.le_of_ble_eq_true rfl)) dX4_write_132 ⟨Nat.le_of_ble_eq_true rfl, Nat.le_of_ble_eq_true rfl⟩) hD hS hA (fun H locs hP hD hS => ?_)
      have hP : va_P D vwCl (cw a cA N (fSto f ((trW tr e9 ad hg).1) e9) (kAns N ob 96 ad 0) (tr_end (trW tr e9 ad hg)) (nSto e9 nd)) H := hP
      have hD : va_D A (cw a cA N (fSto f ((trW tr e9 ad hg).1) e9) (kAns N ob 96 ad 0) (tr_end (trW tr e9 ad hg)) (nSto e9 nd)) := hD
      rw [hQ]
      have hw9 : (cw a cA N (fSto f ((trW tr e9 ad hg).1) e9) (kAns N ob 96 ad 0) (tr_end (trW tr e9 ad hg)) (nSto e9 nd)) = (c4 a cA N (kWrite N f ob tr nd fi ad hg)) := by simp only [kWrite, hea, Option.elim, if_neg hc1, if_pos hc4, if_pos hc5, if_pos hc6]; rfl
      exact W.vret hx hb hr (fun t ht hW => ⟨rfl, by rw [ht, ← hw9]; exact hP, by rw [← hw9]; exact hD, hS.F ht⟩) hS.2.2 dX4_write_135
    refine lv_aload_n hx hb dX4_write_110 rfl (lv_at hl 3 rfl) ?_
    refine lv_iload_n hx hb dX4_write_111 rfl (lv_at hl 5 rfl) ?_
    refine lv_iload hx hb dX4_write_112 (lv_at hl 0 rfl) ?_
    refine zb_cv (va_runV (As := [.int (nI ad), .int (nI (stF nd.1 f e9 (vW tr e9 ad hg)))]) (rest := []) ⟨hx, hb, hml, hown, htb⟩ (c_abort l D a cA N f ob (trW tr e9 ad hg) nd _ ad (stF nd.1 f e9 (vW tr e9 ad hg)) ho (by omega) (stF_lt _ _ _ _)) (cwV 2 htb (wb_V kM_X4_102 kI_X4_abort kS_X4_abort kN_X4 kD_X4_abort) rfl rfl rfl (by decide +kernel) ⟨Nat.le_of_ble_eq_true rfl, Nat.le_of_ble_eq_true rfl⟩) (zp_VW 0 rfl rfl hP hD hK hSt hS hA hnw) rfl rfl hl.1 rfl (lv_room (Nat.le_of_ble_eq_true rfl)) dX4_write_114 ⟨Nat.le_of_ble_eq_true rfl, Nat.le_of_ble_eq_true rfl⟩) hD hS hA (fun H locs hP hD hS => ?_)
    have hP : va_P D vwCl (cw a cA N f (kAns N ob 128 ad (stF nd.1 f e9 (vW tr e9 ad hg))) (tr_end (trW tr e9 ad hg)) nd) H := hP
    have hD : va_D A (cw a cA N f (kAns N ob 128 ad (stF nd.1 f e9 (vW tr e9 ad hg))) (tr_end (trW tr e9 ad hg)) nd) := hD
    rw [hQ]
    have hw9 : (cw a cA N f (kAns N ob 128 ad (stF nd.1 f e9 (vW tr e9 ad hg))) (tr_end (trW tr e9 ad hg)) nd) = (c4 a cA N (kWrite N f ob tr nd fi ad hg)) := by simp only [kWrite, hea, Option.elim, if_neg hc1, if_pos hc4, if_pos hc5, if_neg hc6]; rfl
    exact W.vret hx hb hr (fun t ht hW => ⟨rfl, by rw [ht, ← hw9]; exact hP, by rw [← hw9]; exact hD, hS.F ht⟩) hS.2.2 dX4_write_117
