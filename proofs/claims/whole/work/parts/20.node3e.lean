set_option maxHeartbeats 4000000 in
set_option maxRecDepth 100000 in
theorem c_request (l : Launch) (D : va_G) (a : Nat → Nat) (cA : ClassId) (N : Int32) (f : Nat → Int32) (ob : OB) (tr : TR) (nd : ND) (sz : Nat) (lo hg e0 d0 ad0 : Nat) (hB : isB f) (hT : mapK f 3 6) (hG : mapK f 9 5) (ho : obK ob) (hBh : isB tr.1) (hlo : lo < 2 ^ 32) (hhg : hg < 2 ^ 32) (he0 : e0 < 22) (hen : tr.2.2.2.1 = nI e0) (hdn : tr.2.2.2.2.2.1 = nI d0) (hd0 : d0 ≤ xZ e0) (hada : tr.2.2.2.2.1 = nI ad0) (had0 : ad0 < 2 ^ 24) : Met l yX4_request (wX4_request :: wb) ({ frames := 5, cells := 0, slots := 0, locals := 129 } : Room) (va_Pc [.ref (a 0), .int (nI lo), .int (nI hg)] (zPre D [(cA, .int)] (cw a cA N f ob tr nd) sz)) (zb_Vv D vwCl (c4 a cA N (kReq N f ob tr nd lo hg e0 d0 ad0)) (va_A (cw a cA N f ob tr nd) sz)) 0 0 (va_A (cw a cA N f ob tr nd) sz) := by
  refine Met.ofW (cc := cX4_request) (maxL := 5) (ret := none) (by decide) rfl ?_
  intro p ev s m args below meth c s₁ B hml hv
  obtain ⟨rfl, hsz, hP, hK, hD0, hSt, hnw⟩ := hv
  have hx := B.exec
  have hb := B.bytes
  have hr := B.returns
  have hts := atoms_spec (ws := wX4_request :: wb) B.pre
  have htb : ∀ w ∈ wb, w.before ([.ref (a 0), .int (nI lo), .int (nI hg)]).toArray s = true := fun w h => hts w (List.mem_cons_of_mem _ h)
  have hown : s.vm.findClass RX4 = some m.cls := findClass_of_methodNamed B.named
  have hlocks := B.notSynchronized
  subst hsz
  have hD := hD0.self (sz := s.heap.size)
  clear hD0
  generalize hAe : va_A (cw a cA N f ob tr nd) s.heap.size = A at hD hSt ⊢
  have hA : ∀ q : Nat, s.heap.size ≤ q → A q := fun q h => by rw [← hAe]; exact Or.inr h
  have hS : va_S A s.heap s.heap [] := va_S.rf
  obtain ⟨⟨tt, ff, hZT, hTT, hZF, hTF⟩, hXS⟩ := id hSt
  have hl := lv_entry ([.ref (a 0), .int (nI lo), .int (nI hg)]) (n := 5) (Nat.le_of_ble_eq_true rfl)
  rw [lg_entry_eq]
  generalize (lg_sl ([.ref (a 0), .int (nI lo), .int (nI hg)]) ++ List.replicate (5 - (lg_sl ([.ref (a 0), .int (nI lo), .int (nI hg)])).length) Slot.unset).toArray = ls at hl ⊢
  have hl : lv_has ls 5 [(0, .ref (a 0)), (1, .int (nI lo)), (2, .int (nI hg))] := hl
  refine zb_abs (fun Q hQ => ?_)
  refine lv_iload_n hx hb dX4_request_0 rfl (lv_at hl 1 rfl) ?_
  refine lv_sipush (v := 255) hx hb dX4_request_1 (by decide) ?_
  refine lv_iand hx hb dX4_request_4 ?_
  refine zb_ti (y := nI (lo % 256)) (lo255 lo) ?_
  refine lv_istore_n hx hb dX4_request_5 rfl hl (by decide) rfl (fun ls hl => ?_)
  have hl : lv_has ls 5 [(3, .int (nI (lo % 256))), (0, .ref (a 0)), (1, .int (nI lo)), (2, .int (nI hg))] := hl
  refine lv_iload_n hx hb dX4_request_6 rfl (lv_at hl 2 rfl) ?_
  refine lv_bipush (v := 8) hx hb dX4_request_7 (by decide) ?_
  refine lv_iushr hx hb dX4_request_9 rfl ?_
  refine zb_ti (y := nI (lo / 256)) (lo24 hlo) ?_
  refine lv_istore hx hb dX4_request_10 hl (by decide) rfl (fun ls hl => ?_)
  have hl : lv_has ls 5 [(4, .int (nI (lo / 256))), (3, .int (nI (lo % 256))), (0, .ref (a 0)), (1, .int (nI lo)), (2, .int (nI hg))] := hl
  refine lv_iload_n hx hb dX4_request_12 rfl (lv_at hl 1 rfl) ?_
  refine lv_iconst (v := 5) hx hb dX4_request_13 (by decide) ?_
  refine lv_ishr hx hb dX4_request_14 ?_
  refine zb_ti (y := nI (lo % 256 / 32)) (sh5 (by omega)) ?_
  by_cases hc1 : (lo % 256 / 32) = 0
  · refine lv_tableIn (off := 33) (tgt := 48) hx hb dX4_request_15 (by rw [hc1]; decide) (by rw [hc1]; decide) (by rw [hc1]; rfl) (by decide) ?_
    refine lv_aload_n hx hb dX4_request_48 rfl (lv_at hl 2 rfl) ?_
    refine lv_iload_n hx hb dX4_request_49 rfl (lv_at hl 1 rfl) ?_
    refine lv_iload_n hx hb dX4_request_50 rfl (lv_at hl 3 rfl) ?_
    refine lv_iload_n hx hb dX4_request_51 rfl (lv_at hl 4 rfl) ?_
    refine zb_cl (va_runS (As := [.int (nI lo), .int (nI hg)]) (rest := [.int (nI (lo % 256)), .ref (a 0)]) ⟨hx, hb, hml, hown, htb⟩ (c_joined l D a cA N f ob tr nd lo hg hlo hhg) (va_cwS 2 htb (wb_S kM_X4_71 kZ_X4_joined kN_X4 kD_X4_joined) rfl rfl rfl (by decide +kernel) ⟨Nat.le_of_ble_eq_true rfl, Nat.le_of_ble_eq_true rfl⟩) (zp_S hP hK hSt hS hnw) rfl rfl hl.1 rfl (lv_room (Nat.le_of_ble_eq_true rfl)) dX4_request_52 ⟨Nat.le_of_ble_eq_true rfl, Nat.le_of_ble_eq_true rfl⟩) ?_
    refine lv_bipush (v := 8) hx hb dX4_request_55 (by decide) ?_
    refine lv_lushr hx hb dX4_request_57 rfl ?_
    refine zb_tl (y := lN ((lo + 4294967296 * hg) / 256)) (wb_shr (k := 8) (by omega) (by decide)) ?_
    refine zb_cv (va_runV (As := [.int (nI (lo % 256)), .long (lN ((lo + 4294967296 * hg) / 256))]) (rest := []) ⟨hx, hb, hml, hown, htb⟩ (c_wseg l D a cA N f ob tr nd _ (lo % 256) ((lo + 4294967296 * hg) / 256) e0 d0 ad0 hB hT hG ho hBh (by omega) (by omega) he0 hen hdn hd0 hada had0) (cwV 2 htb (wb_V kM_X4_182 kI_X4_writeSegment kS_X4_writeSegment kN_X4 kD_X4_writeSegment) rfl rfl rfl (by decide +kernel) ⟨Nat.le_of_ble_eq_true rfl, Nat.le_of_ble_eq_true rfl⟩) (zp_VW 0 rfl rfl hP hD hK hSt hS hA hnw) rfl rfl hl.1 rfl (lv_room (Nat.le_of_ble_eq_true rfl)) dX4_request_58 ⟨Nat.le_of_ble_eq_true rfl, Nat.le_of_ble_eq_true rfl⟩) hD hS hA (fun H locs hP hD hS => ?_)
    have hP : va_P D vwCl (cw a cA N ((kWSeg N f ob tr nd (lo % 256) ((lo + 4294967296 * hg) / 256) e0 d0 ad0).1) ((kWSeg N f ob tr nd (lo % 256) ((lo + 4294967296 * hg) / 256) e0 d0 ad0).2.1) ((kWSeg N f ob tr nd (lo % 256) ((lo + 4294967296 * hg) / 256) e0 d0 ad0).2.2.1) ((kWSeg N f ob tr nd (lo % 256) ((lo + 4294967296 * hg) / 256) e0 d0 ad0).2.2.2)) H := hP
    have hD : va_D A (cw a cA N ((kWSeg N f ob tr nd (lo % 256) ((lo + 4294967296 * hg) / 256) e0 d0 ad0).1) ((kWSeg N f ob tr nd (lo % 256) ((lo + 4294967296 * hg) / 256) e0 d0 ad0).2.1) ((kWSeg N f ob tr nd (lo % 256) ((lo + 4294967296 * hg) / 256) e0 d0 ad0).2.2.1) ((kWSeg N f ob tr nd (lo % 256) ((lo + 4294967296 * hg) / 256) e0 d0 ad0).2.2.2)) := hD
    refine lv_goto (tgt := 110) hx hb dX4_request_61 (by decide) ?_
    rw [hQ]
    have hw9 : (cw a cA N ((kWSeg N f ob tr nd (lo % 256) ((lo + 4294967296 * hg) / 256) e0 d0 ad0).1) ((kWSeg N f ob tr nd (lo % 256) ((lo + 4294967296 * hg) / 256) e0 d0 ad0).2.1) ((kWSeg N f ob tr nd (lo % 256) ((lo + 4294967296 * hg) / 256) e0 d0 ad0).2.2.1) ((kWSeg N f ob tr nd (lo % 256) ((lo + 4294967296 * hg) / 256) e0 d0 ad0).2.2.2)) = (c4 a cA N (kReq N f ob tr nd lo hg e0 d0 ad0)) := by simp only [kReq, if_pos hc1]; rfl
    exact W.vret hx hb hr (fun t ht hW => ⟨rfl, by rw [ht, ← hw9]; exact hP, by rw [← hw9]; exact hD, hS.F ht⟩) hS.2.2 dX4_request_110
  by_cases hc2 : (lo % 256 / 32) = 1
  · refine lv_tableIn (off := 49) (tgt := 64) hx hb dX4_request_15 (by rw [hc2]; decide) (by rw [hc2]; decide) (by rw [hc2]; rfl) (by decide) ?_
    refine lv_aload_n hx hb dX4_request_64 rfl (lv_at hl 2 rfl) ?_
    refine lv_iload_n hx hb dX4_request_65 rfl (lv_at hl 1 rfl) ?_
    refine lv_iload hx hb dX4_request_66 (lv_at hl 0 rfl) ?_
    refine lv_iload_n hx hb dX4_request_68 rfl (lv_at hl 4 rfl) ?_
    refine zb_cv (va_runV (As := [.int (nI (lo % 256)), .int (nI (lo / 256)), .int (nI hg)]) (rest := []) ⟨hx, hb, hml, hown, htb⟩ (c_write l D a cA N f ob tr nd _ (lo % 256) (lo / 256) hg hB hT hG ho hBh (by omega) (by omega) hhg) (cwV 3 htb (wb_V kM_X4_185 kI_X4_write kS_X4_write kN_X4 kD_X4_write) rfl rfl rfl (by decide +kernel) ⟨Nat.le_of_ble_eq_true rfl, Nat.le_of_ble_eq_true rfl⟩) (zp_VW 0 rfl rfl hP hD hK hSt hS hA hnw) rfl rfl hl.1 rfl (lv_room (Nat.le_of_ble_eq_true rfl)) dX4_request_69 ⟨Nat.le_of_ble_eq_true rfl, Nat.le_of_ble_eq_true rfl⟩) hD hS hA (fun H locs hP hD hS => ?_)
    have hP : va_P D vwCl (cw a cA N ((kWrite N f ob tr nd (lo % 256) (lo / 256) hg).1) ((kWrite N f ob tr nd (lo % 256) (lo / 256) hg).2.1) ((kWrite N f ob tr nd (lo % 256) (lo / 256) hg).2.2.1) ((kWrite N f ob tr nd (lo % 256) (lo / 256) hg).2.2.2)) H := hP
    have hD : va_D A (cw a cA N ((kWrite N f ob tr nd (lo % 256) (lo / 256) hg).1) ((kWrite N f ob tr nd (lo % 256) (lo / 256) hg).2.1) ((kWrite N f ob tr nd (lo % 256) (lo / 256) hg).2.2.1) ((kWrite N f ob tr nd (lo % 256) (lo / 256) hg).2.2.2)) := hD
    refine lv_goto (tgt := 110) hx hb dX4_request_72 (by decide) ?_
    rw [hQ]
    have hw9 : (cw a cA N ((kWrite N f ob tr nd (lo % 256) (lo / 256) hg).1) ((kWrite N f ob tr nd (lo % 256) (lo / 256) hg).2.1) ((kWrite N f ob tr nd (lo % 256) (lo / 256) hg).2.2.1) ((kWrite N f ob tr nd (lo % 256) (lo / 256) hg).2.2.2)) = (c4 a cA N (kReq N f ob tr nd lo hg e0 d0 ad0)) := by simp only [kReq, if_neg hc1, if_pos hc2]; rfl
    exact W.vret hx hb hr (fun t ht hW => ⟨rfl, by rw [ht, ← hw9]; exact hP, by rw [← hw9]; exact hD, hS.F ht⟩) hS.2.2 dX4_request_110
  by_cases hc3 : (lo % 256 / 32) = 2
  · refine lv_tableIn (off := 60) (tgt := 75) hx hb dX4_request_15 (by rw [hc3]; decide) (by rw [hc3]; decide) (by rw [hc3]; rfl) (by decide) ?_
    refine lv_aload_n hx hb dX4_request_75 rfl (lv_at hl 2 rfl) ?_
    refine lv_iload hx hb dX4_request_76 (lv_at hl 0 rfl) ?_
    refine zb_cv (va_runV (As := [.int (nI (lo / 256))]) (rest := []) ⟨hx, hb, hml, hown, htb⟩ (c_read l D a cA N f ob tr nd _ (lo / 256) hB hT hG ho (by omega)) (cwV 1 htb (wb_V kM_X4_189 kI_X4_read kS_X4_read kN_X4 kD_X4_read) rfl rfl rfl (by decide +kernel) ⟨Nat.le_of_ble_eq_true rfl, Nat.le_of_ble_eq_true rfl⟩) (zp_VW 0 rfl rfl hP hD hK hSt hS hA hnw) rfl rfl hl.1 rfl (lv_room (Nat.le_of_ble_eq_true rfl)) dX4_request_78 ⟨Nat.le_of_ble_eq_true rfl, Nat.le_of_ble_eq_true rfl⟩) hD hS hA (fun H locs hP hD hS => ?_)
    have hP : va_P D vwCl (cw a cA N ((kRead N f ob tr nd (lo / 256)).1) ((kRead N f ob tr nd (lo / 256)).2.1) ((kRead N f ob tr nd (lo / 256)).2.2.1) ((kRead N f ob tr nd (lo / 256)).2.2.2)) H := hP
    have hD : va_D A (cw a cA N ((kRead N f ob tr nd (lo / 256)).1) ((kRead N f ob tr nd (lo / 256)).2.1) ((kRead N f ob tr nd (lo / 256)).2.2.1) ((kRead N f ob tr nd (lo / 256)).2.2.2)) := hD
    refine lv_goto (tgt := 110) hx hb dX4_request_81 (by decide) ?_
    rw [hQ]
    have hw9 : (cw a cA N ((kRead N f ob tr nd (lo / 256)).1) ((kRead N f ob tr nd (lo / 256)).2.1) ((kRead N f ob tr nd (lo / 256)).2.2.1) ((kRead N f ob tr nd (lo / 256)).2.2.2)) = (c4 a cA N (kReq N f ob tr nd lo hg e0 d0 ad0)) := by simp only [kReq, if_neg hc1, if_neg hc2, if_pos hc3]; rfl
    exact W.vret hx hb hr (fun t ht hW => ⟨rfl, by rw [ht, ← hw9]; exact hP, by rw [← hw9]; exact hD, hS.F ht⟩) hS.2.2 dX4_request_110
  by_cases hc4 : (lo % 256 / 32) = 3
  · refine lv_tableIn (off := 69) (tgt := 84) hx hb dX4_request_15 (by rw [hc4]; decide) (by rw [hc4]; decide) (by rw [hc4]; rfl) (by decide) ?_
    refine lv_aload_n hx hb dX4_request_84 rfl (lv_at hl 2 rfl) ?_
    refine lv_iload_n hx hb dX4_request_85 rfl (lv_at hl 1 rfl) ?_
    refine zb_cv (va_runV (As := [.int (nI (lo % 256))]) (rest := []) ⟨hx, hb, hml, hown, htb⟩ (c_rseg l D a cA N f ob tr nd _ (lo % 256) e0 d0 ad0 hB ho (by omega) he0 hen hdn hd0 hada had0) (cwV 1 htb (wb_V kM_X4_193 kI_X4_readSegment kS_X4_readSegment kN_X4 kD_X4_readSegment) rfl rfl rfl (by decide +kernel) ⟨Nat.le_of_ble_eq_true rfl, Nat.le_of_ble_eq_true rfl⟩) (zp_VW 0 rfl rfl hP hD hK hSt hS hA hnw) rfl rfl hl.1 rfl (lv_room (Nat.le_of_ble_eq_true rfl)) dX4_request_86 ⟨Nat.le_of_ble_eq_true rfl, Nat.le_of_ble_eq_true rfl⟩) hD hS hA (fun H locs hP hD hS => ?_)
    have hP : va_P D vwCl (cw a cA N ((kRSeg N f ob tr nd (lo % 256) e0 d0 ad0).1) ((kRSeg N f ob tr nd (lo % 256) e0 d0 ad0).2.1) ((kRSeg N f ob tr nd (lo % 256) e0 d0 ad0).2.2.1) ((kRSeg N f ob tr nd (lo % 256) e0 d0 ad0).2.2.2)) H := hP
    have hD : va_D A (cw a cA N ((kRSeg N f ob tr nd (lo % 256) e0 d0 ad0).1) ((kRSeg N f ob tr nd (lo % 256) e0 d0 ad0).2.1) ((kRSeg N f ob tr nd (lo % 256) e0 d0 ad0).2.2.1) ((kRSeg N f ob tr nd (lo % 256) e0 d0 ad0).2.2.2)) := hD
    refine lv_goto (tgt := 110) hx hb dX4_request_89 (by decide) ?_
    rw [hQ]
    have hw9 : (cw a cA N ((kRSeg N f ob tr nd (lo % 256) e0 d0 ad0).1) ((kRSeg N f ob tr nd (lo % 256) e0 d0 ad0).2.1) ((kRSeg N f ob tr nd (lo % 256) e0 d0 ad0).2.2.1) ((kRSeg N f ob tr nd (lo % 256) e0 d0 ad0).2.2.2)) = (c4 a cA N (kReq N f ob tr nd lo hg e0 d0 ad0)) := by simp only [kReq, if_neg hc1, if_neg hc2, if_neg hc3, if_pos hc4]; rfl
    exact W.vret hx hb hr (fun t ht hW => ⟨rfl, by rw [ht, ← hw9]; exact hP, by rw [← hw9]; exact hD, hS.F ht⟩) hS.2.2 dX4_request_110
  by_cases hc5 : (lo % 256 / 32) = 4
  · refine lv_tableIn (off := 77) (tgt := 92) hx hb dX4_request_15 (by rw [hc5]; decide) (by rw [hc5]; decide) (by rw [hc5]; rfl) (by decide) ?_
    refine lv_aload_n hx hb dX4_request_92 rfl (lv_at hl 2 rfl) ?_
    refine va_get (D := D) (ci := 4) (v := .ref (a 7)) (fs := [.int N, .ref (a 1), .ref (a 3), .ref (a 4), .ref (a 5), .ref (a 7), .int nd.1, .int nd.2.1, .int nd.2.2.1, .long nd.2.2.2]) (C := RX4) (T := TX4) (N := 10) hx hb htb inX4 hown hK hP 0 rfl rfl 5 (by decide) (htb _ kF_X4_51) (fun _ h9 => h9) rfl dX4_request_93 ?_
    refine zb_cv (va_runV (As := []) (rest := []) ⟨hx, hb, hml, hown, htb⟩ (c_trEnd l D a cA N f ob tr nd _ ) (cwV 0 htb (wb_V kM_X4_132 kI_X3_end kS_X3_end kN_X3 kD_X3_end) rfl rfl rfl (by decide +kernel) ⟨Nat.le_of_ble_eq_true rfl, Nat.le_of_ble_eq_true rfl⟩) (zp_VW 7 rfl rfl hP hD hK hSt hS hA hnw) rfl rfl hl.1 rfl (lv_room (Nat.le_of_ble_eq_true rfl)) dX4_request_96 ⟨Nat.le_of_ble_eq_true rfl, Nat.le_of_ble_eq_true rfl⟩) hD hS hA (fun H locs hP hD hS => ?_)
    have hP : va_P D vwCl (cw a cA N f ob (tr_end tr) nd) H := hP
    have hD : va_D A (cw a cA N f ob (tr_end tr) nd) := hD
    refine lv_goto (tgt := 110) hx hb dX4_request_99 (by decide) ?_
    rw [hQ]
    have hw9 : (cw a cA N f ob (tr_end tr) nd) = (c4 a cA N (kReq N f ob tr nd lo hg e0 d0 ad0)) := by simp only [kReq, if_neg hc1, if_neg hc2, if_neg hc3, if_neg hc4, if_pos hc5]; rfl
    exact W.vret hx hb hr (fun t ht hW => ⟨rfl, by rw [ht, ← hw9]; exact hP, by rw [← hw9]; exact hD, hS.F ht⟩) hS.2.2 dX4_request_110
  refine lv_tableOut (tgt := 102) hx hb dX4_request_15 (by rw [nI_toInt (by omega)]; omega) (by decide) ?_
  refine lv_aload_n hx hb dX4_request_102 rfl (lv_at hl 2 rfl) ?_
  refine lv_iload hx hb dX4_request_103 (lv_at hl 0 rfl) ?_
  refine lv_ldc (v := 84148225) hx hb hown (htb _ kK_X4_196) dX4_request_105 ?_
  refine zb_cv (va_runV (As := [.int (nI (lo / 256)), .int 84148225]) (rest := []) ⟨hx, hb, hml, hown, htb⟩ (c_abort l D a cA N f ob tr nd _ (lo / 256) 84148225 ho (by omega) (by decide)) (cwV 2 htb (wb_V kM_X4_102 kI_X4_abort kS_X4_abort kN_X4 kD_X4_abort) rfl rfl rfl (by decide +kernel) ⟨Nat.le_of_ble_eq_true rfl, Nat.le_of_ble_eq_true rfl⟩) (zp_VW 0 rfl rfl hP hD hK hSt hS hA hnw) rfl rfl hl.1 rfl (lv_room (Nat.le_of_ble_eq_true rfl)) dX4_request_107 ⟨Nat.le_of_ble_eq_true rfl, Nat.le_of_ble_eq_true rfl⟩) hD hS hA (fun H locs hP hD hS => ?_)
  have hP : va_P D vwCl (cw a cA N f (kAns N ob 128 (lo / 256) 84148225) (tr_end tr) nd) H := hP
  have hD : va_D A (cw a cA N f (kAns N ob 128 (lo / 256) 84148225) (tr_end tr) nd) := hD
  rw [hQ]
  have hw9 : (cw a cA N f (kAns N ob 128 (lo / 256) 84148225) (tr_end tr) nd) = (c4 a cA N (kReq N f ob tr nd lo hg e0 d0 ad0)) := by simp only [kReq, if_neg hc1, if_neg hc2, if_neg hc3, if_neg hc4, if_neg hc5]; rfl
  exact W.vret hx hb hr (fun t ht hW => ⟨rfl, by rw [ht, ← hw9]; exact hP, by rw [← hw9]; exact hD, hS.F ht⟩) hS.2.2 dX4_request_110
