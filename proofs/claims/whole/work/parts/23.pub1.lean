set_option maxHeartbeats 4000000 in
set_option maxRecDepth 100000 in
theorem c_frame (l : Launch) (D : va_G) (a : Nat → Nat) (cA : ClassId) (N : Int32) (f : Nat → Int32) (ob : OB) (tr : TR) (nd : ND) (sz : Nat) (fid ln : Int32) (lo hg e0 d0 ad0 : Nat) (hB : isB f) (hT : mapK f 3 6) (hG : mapK f 9 5) (ho : obK ob) (hBh : isB tr.1) (hlo : lo < 2 ^ 32) (hhg : hg < 2 ^ 32) (he0 : e0 < 22) (hen : tr.2.2.2.1 = nI e0) (hdn : tr.2.2.2.2.2.1 = nI d0) (hd0 : d0 ≤ xZ e0) (hada : tr.2.2.2.2.1 = nI ad0) (had0 : ad0 < 2 ^ 24) (h8 : (mW 3 6 (lo + 4294967296 * hg) f (cT f)).2 ≤ 8) (hB2 : isB (kMid N f ob tr nd fid ln lo hg e0 d0 ad0).1) (hG2 : mapK (kMid N f ob tr nd fid ln lo hg e0 d0 ad0).1 9 5) (ho2 : obK (kMid N f ob tr nd fid ln lo hg e0 d0 ad0).2.1) (hf0 : ¬ fid < 0) (hf1 : ¬ 2047 < fid) (hl0 : ¬ ln < 0) (hl8 : ln ≤ 8) : Met l yX4_frame (wX4_frame :: wb) ({ frames := 6, cells := 0, slots := 0, locals := 153 } : Room) (va_Pc [.ref (a 0), .int fid, .int ln, .int (nI lo), .int (nI hg)] (zPre D [(cA, .int)] (cw a cA N f ob tr nd) sz)) (zb_Vi ((kEnd N (kMid N f ob tr nd fid ln lo hg e0 d0 ad0)).2.1.2.2 - ob.2.2) D vwCl (c4 a cA N (kEnd N (kMid N f ob tr nd fid ln lo hg e0 d0 ad0))) (va_A (cw a cA N f ob tr nd) sz)) 0 0 (va_A (cw a cA N f ob tr nd) sz) := by
  refine Met.ofW (cc := cX4_frame) (maxL := 6) (ret := (some .int)) (by decide) rfl ?_
  intro p ev s m args below meth c s₁ B hml hv
  obtain ⟨rfl, hsz, hP, hK, hD0, hSt, hnw⟩ := hv
  have hx := B.exec
  have hb := B.bytes
  have hr := B.returns
  have hts := atoms_spec (ws := wX4_frame :: wb) B.pre
  have htb : ∀ w ∈ wb, w.before ([.ref (a 0), .int fid, .int ln, .int (nI lo), .int (nI hg)]).toArray s = true := fun w h => hts w (List.mem_cons_of_mem _ h)
  have hown : s.vm.findClass RX4 = some m.cls := findClass_of_methodNamed B.named
  have hlocks := B.notSynchronized
  subst hsz
  have hD := hD0.self (sz := s.heap.size)
  clear hD0
  generalize hAe : va_A (cw a cA N f ob tr nd) s.heap.size = A at hD hSt ⊢
  have hA : ∀ q : Nat, s.heap.size ≤ q → A q := fun q h => by rw [← hAe]; exact Or.inr h
  have hS : va_S A s.heap s.heap [] := va_S.rf
  obtain ⟨⟨tt, ff, hZT, hTT, hZF, hTF⟩, hXS⟩ := id hSt
  have hl := lv_entry ([.ref (a 0), .int fid, .int ln, .int (nI lo), .int (nI hg)]) (n := 6) (Nat.le_of_ble_eq_true rfl)
  rw [lg_entry_eq]
  generalize (lg_sl ([.ref (a 0), .int fid, .int ln, .int (nI lo), .int (nI hg)]) ++ List.replicate (6 - (lg_sl ([.ref (a 0), .int fid, .int ln, .int (nI lo), .int (nI hg)])).length) Slot.unset).toArray = ls at hl ⊢
  have hl : lv_has ls 6 [(0, .ref (a 0)), (1, .int fid), (2, .int ln), (3, .int (nI lo)), (4, .int (nI hg))] := hl
  refine zb_abs (fun Q hQ => ?_)
  refine lv_iload_n hx hb dX4_frame_0 rfl (lv_at hl 1 rfl) ?_
  refine lv_if_lt (tgt := 21) hx hb dX4_frame_1 (by decide) (fun hno => absurd hno hf0) (fun _ => ?_)
  refine lv_iload_n hx hb dX4_frame_4 rfl (lv_at hl 1 rfl) ?_
  refine lv_sipush (v := 2047) hx hb dX4_frame_5 (by decide) ?_
  refine lv_icmp_gt (tgt := 21) hx hb dX4_frame_8 (by decide) (fun hno => absurd hno hf1) (fun _ => ?_)
  refine lv_iload_n hx hb dX4_frame_11 rfl (lv_at hl 2 rfl) ?_
  refine lv_if_lt (tgt := 21) hx hb dX4_frame_12 (by decide) (fun hno => absurd hno hl0) (fun _ => ?_)
  refine lv_iload_n hx hb dX4_frame_15 rfl (lv_at hl 2 rfl) ?_
  refine lv_bipush (v := 8) hx hb dX4_frame_16 (by decide) ?_
  refine lv_icmp_le (tgt := 29) hx hb dX4_frame_18 (by decide) (fun _ => ?_) (fun hno => absurd hl8 hno)
  refine lv_aload_n hx hb dX4_frame_29 rfl (lv_at hl 0 rfl) ?_
  refine va_get (D := D) (ci := 4) (v := .ref (a 5)) (fs := [.int N, .ref (a 1), .ref (a 3), .ref (a 4), .ref (a 5), .ref (a 7), .int nd.1, .int nd.2.1, .int nd.2.2.1, .long nd.2.2.2]) (C := RX4) (T := TX4) (N := 10) hx hb htb inX4 hown hK hP 0 rfl rfl 4 (by decide) (htb _ kF_X4_44) (fun _ h9 => h9) rfl dX4_frame_30 ?_
  refine va_getN (D := D) (ci := 2) (v := .int ob.2.2) (fs := [.ref (a 6), .int ob.2.1, .int ob.2.2]) (C := RX2) (T := TX2) (N := 3) hx hb htb inX2 hown hK hP 5 rfl rfl 2 (by decide) (va_Nw.use rfl (hnw _ kT_X4_61)) (fun _ h9 => h9) rfl dX4_frame_33 ?_
  refine lv_istore hx hb dX4_frame_36 hl (by decide) rfl (fun ls hl => ?_)
  have hl : lv_has ls 6 [(5, .int ob.2.2), (0, .ref (a 0)), (1, .int fid), (2, .int ln), (3, .int (nI lo)), (4, .int (nI hg))] := hl
  refine lv_iload_n hx hb dX4_frame_38 rfl (lv_at hl 2 rfl) ?_
  refine lv_if_ne (tgt := 67) hx hb dX4_frame_39 (by decide) (fun hc1 => ?_) (fun hc1 => ?_)
  · refine lv_iload_n hx hb dX4_frame_67 rfl (lv_at hl 2 rfl) ?_
    refine lv_sipush (v := 128) hx hb dX4_frame_68 (by decide) ?_
    refine lv_icmp_ne (tgt := 81) hx hb dX4_frame_71 (by decide) (fun hc2 => ?_) (fun hc2 => ?_)
    · refine lv_iload_n hx hb dX4_frame_81 rfl (lv_at hl 2 rfl) ?_
      refine lv_sipush (v := 512) hx hb dX4_frame_82 (by decide) ?_
      refine lv_aload_n hx hb dX4_frame_85 rfl (lv_at hl 1 rfl) ?_
      refine va_get (D := D) (ci := 4) (v := .int N) (fs := [.int N, .ref (a 1), .ref (a 3), .ref (a 4), .ref (a 5), .ref (a 7), .int nd.1, .int nd.2.1, .int nd.2.2.1, .long nd.2.2.2]) (C := RX4) (T := TX4) (N := 10) hx hb htb inX4 hown hK hP 0 rfl rfl 0 (by decide) (htb _ kF_X4_16) (fun _ h9 => h9) rfl dX4_frame_86 ?_
      refine lv_iadd hx hb dX4_frame_89 ?_
      refine lv_icmp_ne (tgt := 107) hx hb dX4_frame_90 (by decide) (fun hc3 => ?_) (fun hc3 => ?_)
      · refine lv_iload_n hx hb dX4_frame_107 rfl (lv_at hl 2 rfl) ?_
        refine lv_sipush (v := 1536) hx hb dX4_frame_108 (by decide) ?_
        refine lv_aload_n hx hb dX4_frame_111 rfl (lv_at hl 1 rfl) ?_
        refine va_get (D := D) (ci := 4) (v := .int N) (fs := [.int N, .ref (a 1), .ref (a 3), .ref (a 4), .ref (a 5), .ref (a 7), .int nd.1, .int nd.2.1, .int nd.2.2.1, .long nd.2.2.2]) (C := RX4) (T := TX4) (N := 10) hx hb htb inX4 hown hK hP 0 rfl rfl 0 (by decide) (htb _ kF_X4_16) (fun _ h9 => h9) rfl dX4_frame_112 ?_
        refine lv_iadd hx hb dX4_frame_115 ?_
        refine lv_icmp_ne (tgt := 140) hx hb dX4_frame_116 (by decide) (fun hc4 => ?_) (fun hc4 => ?_)
        · have hmid : kMid N f ob tr nd fid ln lo hg e0 d0 ad0 = (f, ob, tr, nd) := by unfold kMid; rw [if_neg (fun h => hc1 h.1), if_neg hc2, if_neg hc3, if_neg (fun h => hc4 h.1)]
          rw [hmid] at hB2 hG2 ho2
          refine lv_aload_n hx hb dX4_frame_140 rfl (lv_at hl 1 rfl) ?_
          refine zb_cv (va_runV (As := []) (rest := []) ⟨hx, hb, hml, hown, htb⟩ (c_ev l D a cA N f ob tr nd _ hB2 hG2 ho2) (cwV 0 htb (wb_V kM_X4_85 kI_X4_giveWhenChanged kS_X4_giveWhenChanged kN_X4 kD_X4_giveWhenChanged) rfl rfl rfl (by decide +kernel) ⟨Nat.le_of_ble_eq_true rfl, Nat.le_of_ble_eq_true rfl⟩) (zp_VW 0 rfl rfl hP hD hK hSt hS hA hnw) rfl rfl hl.1 rfl (lv_room (Nat.le_of_ble_eq_true rfl)) dX4_frame_141 ⟨Nat.le_of_ble_eq_true rfl, Nat.le_of_ble_eq_true rfl⟩) hD hS hA (fun H locs hP hD hS => ?_)
          have hP : va_P D vwCl (cw a cA N f (kEv N f ob nd) tr (nEv f nd)) H := hP
          have hD : va_D A (cw a cA N f (kEv N f ob nd) tr (nEv f nd)) := hD
          refine lv_aload_n hx hb dX4_frame_144 rfl (lv_at hl 1 rfl) ?_
          refine va_get (D := D) (ci := 4) (v := .ref (a 5)) (fs := [.int N, .ref (a 1), .ref (a 3), .ref (a 4), .ref (a 5), .ref (a 7), .int ((nEv f nd).1), .int ((nEv f nd).2.1), .int ((nEv f nd).2.2.1), .long ((nEv f nd).2.2.2)]) (C := RX4) (T := TX4) (N := 10) hx hb htb inX4 hown hK hP 0 rfl rfl 4 (by decide) (htb _ kF_X4_44) (fun _ h9 => h9) rfl dX4_frame_145 ?_
          refine va_getN (D := D) (ci := 2) (v := .int ((kEv N f ob nd).2.2)) (fs := [.ref (a 6), .int ((kEv N f ob nd).2.1), .int ((kEv N f ob nd).2.2)]) (C := RX2) (T := TX2) (N := 3) hx hb htb inX2 hown hK hP 5 rfl rfl 2 (by decide) (va_Nw.use rfl (hnw _ kT_X4_61)) (fun _ h9 => h9) rfl dX4_frame_148 ?_
          refine lv_iload hx hb dX4_frame_151 (lv_at hl 0 rfl) ?_
          refine lv_isub hx hb dX4_frame_153 ?_
          rw [hQ]
          have hw9 : (cw a cA N f (kEv N f ob nd) tr (nEv f nd)) = (c4 a cA N (kEnd N (kMid N f ob tr nd fid ln lo hg e0 d0 ad0))) := by rw [hmid]; rfl
          exact W.iret (v := ((kEv N f ob nd).2.2) - ob.2.2) hx hb hr (fun t ht hW => ⟨congrArg (fun z => Outcome.returned (some (Value.int z))) (by rw [hmid]; rfl), by rw [ht, ← hw9]; exact hP, by rw [← hw9]; exact hD, hS.F ht⟩) hS.2.2 dX4_frame_154
        refine lv_iload_n hx hb dX4_frame_119 rfl (lv_at hl 3 rfl) ?_
        refine lv_bipush (v := 8) hx hb dX4_frame_120 (by decide) ?_
        refine lv_icmp_ne (tgt := 140) hx hb dX4_frame_122 (by decide) (fun hc5 => ?_) (fun hc5 => ?_)
        · have hmid : kMid N f ob tr nd fid ln lo hg e0 d0 ad0 = (f, ob, tr, nd) := by unfold kMid; rw [if_neg (fun h => hc1 h.1), if_neg hc2, if_neg hc3, if_neg (fun h => hc5 h.2.1)]
          rw [hmid] at hB2 hG2 ho2
          refine lv_aload_n hx hb dX4_frame_140 rfl (lv_at hl 1 rfl) ?_
          refine zb_cv (va_runV (As := []) (rest := []) ⟨hx, hb, hml, hown, htb⟩ (c_ev l D a cA N f ob tr nd _ hB2 hG2 ho2) (cwV 0 htb (wb_V kM_X4_85 kI_X4_giveWhenChanged kS_X4_giveWhenChanged kN_X4 kD_X4_giveWhenChanged) rfl rfl rfl (by decide +kernel) ⟨Nat.le_of_ble_eq_true rfl, Nat.le_of_ble_eq_true rfl⟩) (zp_VW 0 rfl rfl hP hD hK hSt hS hA hnw) rfl rfl hl.1 rfl (lv_room (Nat.le_of_ble_eq_true rfl)) dX4_frame_141 ⟨Nat.le_of_ble_eq_true rfl, Nat.le_of_ble_eq_true rfl⟩) hD hS hA (fun H locs hP hD hS => ?_)
          have hP : va_P D vwCl (cw a cA N f (kEv N f ob nd) tr (nEv f nd)) H := hP
          have hD : va_D A (cw a cA N f (kEv N f ob nd) tr (nEv f nd)) := hD
          refine lv_aload_n hx hb dX4_frame_144 rfl (lv_at hl 1 rfl) ?_
          refine va_get (D := D) (ci := 4) (v := .ref (a 5)) (fs := [.int N, .ref (a 1), .ref (a 3), .ref (a 4), .ref (a 5), .ref (a 7), .int ((nEv f nd).1), .int ((nEv f nd).2.1), .int ((nEv f nd).2.2.1), .long ((nEv f nd).2.2.2)]) (C := RX4) (T := TX4) (N := 10) hx hb htb inX4 hown hK hP 0 rfl rfl 4 (by decide) (htb _ kF_X4_44) (fun _ h9 => h9) rfl dX4_frame_145 ?_
          refine va_getN (D := D) (ci := 2) (v := .int ((kEv N f ob nd).2.2)) (fs := [.ref (a 6), .int ((kEv N f ob nd).2.1), .int ((kEv N f ob nd).2.2)]) (C := RX2) (T := TX2) (N := 3) hx hb htb inX2 hown hK hP 5 rfl rfl 2 (by decide) (va_Nw.use rfl (hnw _ kT_X4_61)) (fun _ h9 => h9) rfl dX4_frame_148 ?_
          refine lv_iload hx hb dX4_frame_151 (lv_at hl 0 rfl) ?_
          refine lv_isub hx hb dX4_frame_153 ?_
          rw [hQ]
          have hw9 : (cw a cA N f (kEv N f ob nd) tr (nEv f nd)) = (c4 a cA N (kEnd N (kMid N f ob tr nd fid ln lo hg e0 d0 ad0))) := by rw [hmid]; rfl
          exact W.iret (v := ((kEv N f ob nd).2.2) - ob.2.2) hx hb hr (fun t ht hW => ⟨congrArg (fun z => Outcome.returned (some (Value.int z))) (by rw [hmid]; rfl), by rw [ht, ← hw9]; exact hP, by rw [← hw9]; exact hD, hS.F ht⟩) hS.2.2 dX4_frame_154
        refine lv_aload_n hx hb dX4_frame_125 rfl (lv_at hl 1 rfl) ?_
        refine va_get (D := D) (ci := 4) (v := .int nd.1) (fs := [.int N, .ref (a 1), .ref (a 3), .ref (a 4), .ref (a 5), .ref (a 7), .int nd.1, .int nd.2.1, .int nd.2.2.1, .long nd.2.2.2]) (C := RX4) (T := TX4) (N := 10) hx hb htb inX4 hown hK hP 0 rfl rfl 6 (by decide) (htb _ kF_X4_79) (fun _ h9 => h9) rfl dX4_frame_126 ?_
        refine lv_iconst (v := 4) hx hb dX4_frame_129 (by decide) ?_
        refine lv_icmp_eq (tgt := 140) hx hb dX4_frame_130 (by decide) (fun hc6 => ?_) (fun hc6 => ?_)
        · have hmid : kMid N f ob tr nd fid ln lo hg e0 d0 ad0 = (f, ob, tr, nd) := by unfold kMid; rw [if_neg (fun h => hc1 h.1), if_neg hc2, if_neg hc3, if_neg (fun h => h.2.2 hc6)]
          rw [hmid] at hB2 hG2 ho2
          refine lv_aload_n hx hb dX4_frame_140 rfl (lv_at hl 1 rfl) ?_
          refine zb_cv (va_runV (As := []) (rest := []) ⟨hx, hb, hml, hown, htb⟩ (c_ev l D a cA N f ob tr nd _ hB2 hG2 ho2) (cwV 0 htb (wb_V kM_X4_85 kI_X4_giveWhenChanged kS_X4_giveWhenChanged kN_X4 kD_X4_giveWhenChanged) rfl rfl rfl (by decide +kernel) ⟨Nat.le_of_ble_eq_true rfl, Nat.le_of_ble_eq_true rfl⟩) (zp_VW 0 rfl rfl hP hD hK hSt hS hA hnw) rfl rfl hl.1 rfl (lv_room (Nat.le_of_ble_eq_true rfl)) dX4_frame_141 ⟨Nat.le_of_ble_eq_true rfl, Nat.le_of_ble_eq_true rfl⟩) hD hS hA (fun H locs hP hD hS => ?_)
          have hP : va_P D vwCl (cw a cA N f (kEv N f ob nd) tr (nEv f nd)) H := hP
          have hD : va_D A (cw a cA N f (kEv N f ob nd) tr (nEv f nd)) := hD
          refine lv_aload_n hx hb dX4_frame_144 rfl (lv_at hl 1 rfl) ?_
          refine va_get (D := D) (ci := 4) (v := .ref (a 5)) (fs := [.int N, .ref (a 1), .ref (a 3), .ref (a 4), .ref (a 5), .ref (a 7), .int ((nEv f nd).1), .int ((nEv f nd).2.1), .int ((nEv f nd).2.2.1), .long ((nEv f nd).2.2.2)]) (C := RX4) (T := TX4) (N := 10) hx hb htb inX4 hown hK hP 0 rfl rfl 4 (by decide) (htb _ kF_X4_44) (fun _ h9 => h9) rfl dX4_frame_145 ?_
          refine va_getN (D := D) (ci := 2) (v := .int ((kEv N f ob nd).2.2)) (fs := [.ref (a 6), .int ((kEv N f ob nd).2.1), .int ((kEv N f ob nd).2.2)]) (C := RX2) (T := TX2) (N := 3) hx hb htb inX2 hown hK hP 5 rfl rfl 2 (by decide) (va_Nw.use rfl (hnw _ kT_X4_61)) (fun _ h9 => h9) rfl dX4_frame_148 ?_
          refine lv_iload hx hb dX4_frame_151 (lv_at hl 0 rfl) ?_
          refine lv_isub hx hb dX4_frame_153 ?_
          rw [hQ]
          have hw9 : (cw a cA N f (kEv N f ob nd) tr (nEv f nd)) = (c4 a cA N (kEnd N (kMid N f ob tr nd fid ln lo hg e0 d0 ad0))) := by rw [hmid]; rfl
          exact W.iret (v := ((kEv N f ob nd).2.2) - ob.2.2) hx hb hr (fun t ht hW => ⟨congrArg (fun z => Outcome.returned (some (Value.int z))) (by rw [hmid]; rfl), by rw [ht, ← hw9]; exact hP, by rw [← hw9]; exact hD, hS.F ht⟩) hS.2.2 dX4_frame_154
        refine lv_aload_n hx hb dX4_frame_133 rfl (lv_at hl 1 rfl) ?_
        refine lv_iload_n hx hb dX4_frame_134 rfl (lv_at hl 4 rfl) ?_
        refine lv_iload hx hb dX4_frame_135 (lv_at hl 5 rfl) ?_
        refine zb_cv (va_runV (As := [.int (nI lo), .int (nI hg)]) (rest := []) ⟨hx, hb, hml, hown, htb⟩ (c_request l D a cA N f ob tr nd _ lo hg e0 d0 ad0 hB hT hG ho hBh hlo hhg he0 hen hdn hd0 hada had0) (cwV 2 htb (wb_V kM_X4_82 kI_X4_request kS_X4_request kN_X4 kD_X4_request) rfl rfl rfl (by decide +kernel) ⟨Nat.le_of_ble_eq_true rfl, Nat.le_of_ble_eq_true rfl⟩) (zp_VW 0 rfl rfl hP hD hK hSt hS hA hnw) rfl rfl hl.1 rfl (lv_room (Nat.le_of_ble_eq_true rfl)) dX4_frame_137 ⟨Nat.le_of_ble_eq_true rfl, Nat.le_of_ble_eq_true rfl⟩) hD hS hA (fun H locs hP hD hS => ?_)
        have hP : va_P D vwCl (cw a cA N ((kReq N f ob tr nd lo hg e0 d0 ad0).1) ((kReq N f ob tr nd lo hg e0 d0 ad0).2.1) ((kReq N f ob tr nd lo hg e0 d0 ad0).2.2.1) ((kReq N f ob tr nd lo hg e0 d0 ad0).2.2.2)) H := hP
        have hD : va_D A (cw a cA N ((kReq N f ob tr nd lo hg e0 d0 ad0).1) ((kReq N f ob tr nd lo hg e0 d0 ad0).2.1) ((kReq N f ob tr nd lo hg e0 d0 ad0).2.2.1) ((kReq N f ob tr nd lo hg e0 d0 ad0).2.2.2)) := hD
        have hmid : kMid N f ob tr nd fid ln lo hg e0 d0 ad0 = (((kReq N f ob tr nd lo hg e0 d0 ad0).1), ((kReq N f ob tr nd lo hg e0 d0 ad0).2.1), ((kReq N f ob tr nd lo hg e0 d0 ad0).2.2.1), ((kReq N f ob tr nd lo hg e0 d0 ad0).2.2.2)) := by unfold kMid; rw [if_neg (fun h => hc1 h.1), if_neg hc2, if_neg hc3, if_pos ⟨hc4, hc5, hc6⟩]
        rw [hmid] at hB2 hG2 ho2
        refine lv_aload_n hx hb dX4_frame_140 rfl (lv_at hl 1 rfl) ?_
        refine zb_cv (va_runV (As := []) (rest := []) ⟨hx, hb, hml, hown, htb⟩ (c_ev l D a cA N ((kReq N f ob tr nd lo hg e0 d0 ad0).1) ((kReq N f ob tr nd lo hg e0 d0 ad0).2.1) ((kReq N f ob tr nd lo hg e0 d0 ad0).2.2.1) ((kReq N f ob tr nd lo hg e0 d0 ad0).2.2.2) _ hB2 hG2 ho2) (cwV 0 htb (wb_V kM_X4_85 kI_X4_giveWhenChanged kS_X4_giveWhenChanged kN_X4 kD_X4_giveWhenChanged) rfl rfl rfl (by decide +kernel) ⟨Nat.le_of_ble_eq_true rfl, Nat.le_of_ble_eq_true rfl⟩) (zp_VW 0 rfl rfl hP hD hK hSt hS hA hnw) rfl rfl hl.1 rfl (lv_room (Nat.le_of_ble_eq_true rfl)) dX4_frame_141 ⟨Nat.le_of_ble_eq_true rfl, Nat.le_of_ble_eq_true rfl⟩) hD hS hA (fun H locs hP hD hS => ?_)
        have hP : va_P D vwCl (cw a cA N ((kReq N f ob tr nd lo hg e0 d0 ad0).1) (kEv N ((kReq N f ob tr nd lo hg e0 d0 ad0).1) ((kReq N f ob tr nd lo hg e0 d0 ad0).2.1) ((kReq N f ob tr nd lo hg e0 d0 ad0).2.2.2)) ((kReq N f ob tr nd lo hg e0 d0 ad0).2.2.1) (nEv ((kReq N f ob tr nd lo hg e0 d0 ad0).1) ((kReq N f ob tr nd lo hg e0 d0 ad0).2.2.2))) H := hP
        have hD : va_D A (cw a cA N ((kReq N f ob tr nd lo hg e0 d0 ad0).1) (kEv N ((kReq N f ob tr nd lo hg e0 d0 ad0).1) ((kReq N f ob tr nd lo hg e0 d0 ad0).2.1) ((kReq N f ob tr nd lo hg e0 d0 ad0).2.2.2)) ((kReq N f ob tr nd lo hg e0 d0 ad0).2.2.1) (nEv ((kReq N f ob tr nd lo hg e0 d0 ad0).1) ((kReq N f ob tr nd lo hg e0 d0 ad0).2.2.2))) := hD
        refine lv_aload_n hx hb dX4_frame_144 rfl (lv_at hl 1 rfl) ?_
        refine va_get (D := D) (ci := 4) (v := .ref (a 5)) (fs := [.int N, .ref (a 1), .ref (a 3), .ref (a 4), .ref (a 5), .ref (a 7), .int ((nEv ((kReq N f ob tr nd lo hg e0 d0 ad0).1) ((kReq N f ob tr nd lo hg e0 d0 ad0).2.2.2)).1), .int ((nEv ((kReq N f ob tr nd lo hg e0 d0 ad0).1) ((kReq N f ob tr nd lo hg e0 d0 ad0).2.2.2)).2.1), .int ((nEv ((kReq N f ob tr nd lo hg e0 d0 ad0).1) ((kReq N f ob tr nd lo hg e0 d0 ad0).2.2.2)).2.2.1), .long ((nEv ((kReq N f ob tr nd lo hg e0 d0 ad0).1) ((kReq N f ob tr nd lo hg e0 d0 ad0).2.2.2)).2.2.2)]) (C := RX4) (T := TX4) (N := 10) hx hb htb inX4 hown hK hP 0 rfl rfl 4 (by decide) (htb _ kF_X4_44) (fun _ h9 => h9) rfl dX4_frame_145 ?_
        refine va_getN (D := D) (ci := 2) (v := .int ((kEv N ((kReq N f ob tr nd lo hg e0 d0 ad0).1) ((kReq N f ob tr nd lo hg e0 d0 ad0).2.1) ((kReq N f ob tr nd lo hg e0 d0 ad0).2.2.2)).2.2)) (fs := [.ref (a 6), .int ((kEv N ((kReq N f ob tr nd lo hg e0 d0 ad0).1) ((kReq N f ob tr nd lo hg e0 d0 ad0).2.1) ((kReq N f ob tr nd lo hg e0 d0 ad0).2.2.2)).2.1), .int ((kEv N ((kReq N f ob tr nd lo hg e0 d0 ad0).1) ((kReq N f ob tr nd lo hg e0 d0 ad0).2.1) ((kReq N f ob tr nd lo hg e0 d0 ad0).2.2.2)).2.2)]) (C := RX2) (T := TX2) (N := 3) hx hb htb inX2 hown hK hP 5 rfl rfl 2 (by decide) (va_Nw.use rfl (hnw _ kT_X4_61)) (fun _ h9 => h9) rfl dX4_frame_148 ?_
        refine lv_iload hx hb dX4_frame_151 (lv_at hl 0 rfl) ?_
        refine lv_isub hx hb dX4_frame_153 ?_
        rw [hQ]
        have hw9 : (cw a cA N ((kReq N f ob tr nd lo hg e0 d0 ad0).1) (kEv N ((kReq N f ob tr nd lo hg e0 d0 ad0).1) ((kReq N f ob tr nd lo hg e0 d0 ad0).2.1) ((kReq N f ob tr nd lo hg e0 d0 ad0).2.2.2)) ((kReq N f ob tr nd lo hg e0 d0 ad0).2.2.1) (nEv ((kReq N f ob tr nd lo hg e0 d0 ad0).1) ((kReq N f ob tr nd lo hg e0 d0 ad0).2.2.2))) = (c4 a cA N (kEnd N (kMid N f ob tr nd fid ln lo hg e0 d0 ad0))) := by rw [hmid]; rfl
        exact W.iret (v := ((kEv N ((kReq N f ob tr nd lo hg e0 d0 ad0).1) ((kReq N f ob tr nd lo hg e0 d0 ad0).2.1) ((kReq N f ob tr nd lo hg e0 d0 ad0).2.2.2)).2.2) - ob.2.2) hx hb hr (fun t ht hW => ⟨congrArg (fun z => Outcome.returned (some (Value.int z))) (by rw [hmid]; rfl), by rw [ht, ← hw9]; exact hP, by rw [← hw9]; exact hD, hS.F ht⟩) hS.2.2 dX4_frame_154
      refine lv_aload_n hx hb dX4_frame_93 rfl (lv_at hl 1 rfl) ?_
      refine lv_iload_n hx hb dX4_frame_94 rfl (lv_at hl 3 rfl) ?_
      refine lv_iload_n hx hb dX4_frame_95 rfl (lv_at hl 4 rfl) ?_
      refine lv_iload hx hb dX4_frame_96 (lv_at hl 5 rfl) ?_
      refine zb_cl (va_runS (As := [.int (nI lo), .int (nI hg)]) (rest := [.int ln, .ref (a 0)]) ⟨hx, hb, hml, hown, htb⟩ (c_joined l D a cA N f ob tr nd lo hg hlo hhg) (va_cwS 2 htb (wb_S kM_X4_71 kZ_X4_joined kN_X4 kD_X4_joined) rfl rfl rfl (by decide +kernel) ⟨Nat.le_of_ble_eq_true rfl, Nat.le_of_ble_eq_true rfl⟩) (zp_S hP hK hSt hS hnw) rfl rfl hl.1 rfl (lv_room (Nat.le_of_ble_eq_true rfl)) dX4_frame_98 ⟨Nat.le_of_ble_eq_true rfl, Nat.le_of_ble_eq_true rfl⟩) ?_
      refine zb_cv (va_runV (As := [.int ln, .long (lN (lo + 4294967296 * hg))]) (rest := []) ⟨hx, hb, hml, hown, htb⟩ (c_take l D a cA N f ob tr nd _ ln (lo + 4294967296 * hg) hB hT h8 (by omega)) (cwV 2 htb (wb_V kM_X4_75 kI_X4_take kS_X4_take kN_X4 kD_X4_take) rfl rfl rfl (by decide +kernel) ⟨Nat.le_of_ble_eq_true rfl, Nat.le_of_ble_eq_true rfl⟩) (zp_VW 0 rfl rfl hP hD hK hSt hS hA hnw) rfl rfl hl.1 rfl (lv_room (Nat.le_of_ble_eq_true rfl)) dX4_frame_101 ⟨Nat.le_of_ble_eq_true rfl, Nat.le_of_ble_eq_true rfl⟩) hD hS hA (fun H locs hP hD hS => ?_)
      have hP : va_P D vwCl (cw a cA N (fTake f nd ln (lo + 4294967296 * hg)) ob tr nd) H := hP
      have hD : va_D A (cw a cA N (fTake f nd ln (lo + 4294967296 * hg)) ob tr nd) := hD
      refine lv_goto (tgt := 140) hx hb dX4_frame_104 (by decide) ?_
      have hmid : kMid N f ob tr nd fid ln lo hg e0 d0 ad0 = ((fTake f nd ln (lo + 4294967296 * hg)), ob, tr, nd) := by unfold kMid; rw [if_neg (fun h => hc1 h.1), if_neg hc2, if_pos hc3]
      rw [hmid] at hB2 hG2 ho2
      refine lv_aload_n hx hb dX4_frame_140 rfl (lv_at hl 1 rfl) ?_
      refine zb_cv (va_runV (As := []) (rest := []) ⟨hx, hb, hml, hown, htb⟩ (c_ev l D a cA N (fTake f nd ln (lo + 4294967296 * hg)) ob tr nd _ hB2 hG2 ho2) (cwV 0 htb (wb_V kM_X4_85 kI_X4_giveWhenChanged kS_X4_giveWhenChanged kN_X4 kD_X4_giveWhenChanged) rfl rfl rfl (by decide +kernel) ⟨Nat.le_of_ble_eq_true rfl, Nat.le_of_ble_eq_true rfl⟩) (zp_VW 0 rfl rfl hP hD hK hSt hS hA hnw) rfl rfl hl.1 rfl (lv_room (Nat.le_of_ble_eq_true rfl)) dX4_frame_141 ⟨Nat.le_of_ble_eq_true rfl, Nat.le_of_ble_eq_true rfl⟩) hD hS hA (fun H locs hP hD hS => ?_)
      have hP : va_P D vwCl (cw a cA N (fTake f nd ln (lo + 4294967296 * hg)) (kEv N (fTake f nd ln (lo + 4294967296 * hg)) ob nd) tr (nEv (fTake f nd ln (lo + 4294967296 * hg)) nd)) H := hP
      have hD : va_D A (cw a cA N (fTake f nd ln (lo + 4294967296 * hg)) (kEv N (fTake f nd ln (lo + 4294967296 * hg)) ob nd) tr (nEv (fTake f nd ln (lo + 4294967296 * hg)) nd)) := hD
      refine lv_aload_n hx hb dX4_frame_144 rfl (lv_at hl 1 rfl) ?_
      refine va_get (D := D) (ci := 4) (v := .ref (a 5)) (fs := [.int N, .ref (a 1), .ref (a 3), .ref (a 4), .ref (a 5), .ref (a 7), .int ((nEv (fTake f nd ln (lo + 4294967296 * hg)) nd).1), .int ((nEv (fTake f nd ln (lo + 4294967296 * hg)) nd).2.1), .int ((nEv (fTake f nd ln (lo + 4294967296 * hg)) nd).2.2.1), .long ((nEv (fTake f nd ln (lo + 4294967296 * hg)) nd).2.2.2)]) (C := RX4) (T := TX4) (N := 10) hx hb htb inX4 hown hK hP 0 rfl rfl 4 (by decide) (htb _ kF_X4_44) (fun _ h9 => h9) rfl dX4_frame_145 ?_
      refine va_getN (D := D) (ci := 2) (v := .int ((kEv N (fTake f nd ln (lo + 4294967296 * hg)) ob nd).2.2)) (fs := [.ref (a 6), .int ((kEv N (fTake f nd ln (lo + 4294967296 * hg)) ob nd).2.1), .int ((kEv N (fTake f nd ln (lo + 4294967296 * hg)) ob nd).2.2)]) (C := RX2) (T := TX2) (N := 3) hx hb htb inX2 hown hK hP 5 rfl rfl 2 (by decide) (va_Nw.use rfl (hnw _ kT_X4_61)) (fun _ h9 => h9) rfl dX4_frame_148 ?_
      refine lv_iload hx hb dX4_frame_151 (lv_at hl 0 rfl) ?_
      refine lv_isub hx hb dX4_frame_153 ?_
      rw [hQ]
      have hw9 : (cw a cA N (fTake f nd ln (lo + 4294967296 * hg)) (kEv N (fTake f nd ln (lo + 4294967296 * hg)) ob nd) tr (nEv (fTake f nd ln (lo + 4294967296 * hg)) nd)) = (c4 a cA N (kEnd N (kMid N f ob tr nd fid ln lo hg e0 d0 ad0))) := by rw [hmid]; rfl
      exact W.iret (v := ((kEv N (fTake f nd ln (lo + 4294967296 * hg)) ob nd).2.2) - ob.2.2) hx hb hr (fun t ht hW => ⟨congrArg (fun z => Outcome.returned (some (Value.int z))) (by rw [hmid]; rfl), by rw [ht, ← hw9]; exact hP, by rw [← hw9]; exact hD, hS.F ht⟩) hS.2.2 dX4_frame_154
    refine lv_aload_n hx hb dX4_frame_74 rfl (lv_at hl 1 rfl) ?_
    refine zb_cv (va_runV (As := []) (rest := []) ⟨hx, hb, hml, hown, htb⟩ (c_sync l D a cA N f ob tr nd _ hB hG ho) (cwV 0 htb (wb_V kM_X4_68 kI_X4_sync kS_X4_sync kN_X4 kD_X4_sync) rfl rfl rfl (by decide +kernel) ⟨Nat.le_of_ble_eq_true rfl, Nat.le_of_ble_eq_true rfl⟩) (zp_VW 0 rfl rfl hP hD hK hSt hS hA hnw) rfl rfl hl.1 rfl (lv_room (Nat.le_of_ble_eq_true rfl)) dX4_frame_75 ⟨Nat.le_of_ble_eq_true rfl, Nat.le_of_ble_eq_true rfl⟩) hD hS hA (fun H locs hP hD hS => ?_)
    have hP : va_P D vwCl (cw a cA N f (kSync N f ob nd) tr (nSync f nd)) H := hP
    have hD : va_D A (cw a cA N f (kSync N f ob nd) tr (nSync f nd)) := hD
    refine lv_goto (tgt := 140) hx hb dX4_frame_78 (by decide) ?_
    have hmid : kMid N f ob tr nd fid ln lo hg e0 d0 ad0 = (f, (kSync N f ob nd), tr, (nSync f nd)) := by unfold kMid; rw [if_neg (fun h => hc1 h.1), if_pos hc2]
    rw [hmid] at hB2 hG2 ho2
    refine lv_aload_n hx hb dX4_frame_140 rfl (lv_at hl 1 rfl) ?_
    refine zb_cv (va_runV (As := []) (rest := []) ⟨hx, hb, hml, hown, htb⟩ (c_ev l D a cA N f (kSync N f ob nd) tr (nSync f nd) _ hB2 hG2 ho2) (cwV 0 htb (wb_V kM_X4_85 kI_X4_giveWhenChanged kS_X4_giveWhenChanged kN_X4 kD_X4_giveWhenChanged) rfl rfl rfl (by decide +kernel) ⟨Nat.le_of_ble_eq_true rfl, Nat.le_of_ble_eq_true rfl⟩) (zp_VW 0 rfl rfl hP hD hK hSt hS hA hnw) rfl rfl hl.1 rfl (lv_room (Nat.le_of_ble_eq_true rfl)) dX4_frame_141 ⟨Nat.le_of_ble_eq_true rfl, Nat.le_of_ble_eq_true rfl⟩) hD hS hA (fun H locs hP hD hS => ?_)
    have hP : va_P D vwCl (cw a cA N f (kEv N f (kSync N f ob nd) (nSync f nd)) tr (nEv f (nSync f nd))) H := hP
    have hD : va_D A (cw a cA N f (kEv N f (kSync N f ob nd) (nSync f nd)) tr (nEv f (nSync f nd))) := hD
    refine lv_aload_n hx hb dX4_frame_144 rfl (lv_at hl 1 rfl) ?_
    refine va_get (D := D) (ci := 4) (v := .ref (a 5)) (fs := [.int N, .ref (a 1), .ref (a 3), .ref (a 4), .ref (a 5), .ref (a 7), .int ((nEv f (nSync f nd)).1), .int ((nEv f (nSync f nd)).2.1), .int ((nEv f (nSync f nd)).2.2.1), .long ((nEv f (nSync f nd)).2.2.2)]) (C := RX4) (T := TX4) (N := 10) hx hb htb inX4 hown hK hP 0 rfl rfl 4 (by decide) (htb _ kF_X4_44) (fun _ h9 => h9) rfl dX4_frame_145 ?_
    refine va_getN (D := D) (ci := 2) (v := .int ((kEv N f (kSync N f ob nd) (nSync f nd)).2.2)) (fs := [.ref (a 6), .int ((kEv N f (kSync N f ob nd) (nSync f nd)).2.1), .int ((kEv N f (kSync N f ob nd) (nSync f nd)).2.2)]) (C := RX2) (T := TX2) (N := 3) hx hb htb inX2 hown hK hP 5 rfl rfl 2 (by decide) (va_Nw.use rfl (hnw _ kT_X4_61)) (fun _ h9 => h9) rfl dX4_frame_148 ?_
    refine lv_iload hx hb dX4_frame_151 (lv_at hl 0 rfl) ?_
    refine lv_isub hx hb dX4_frame_153 ?_
    rw [hQ]
    have hw9 : (cw a cA N f (kEv N f (kSync N f ob nd) (nSync f nd)) tr (nEv f (nSync f nd))) = (c4 a cA N (kEnd N (kMid N f ob tr nd fid ln lo hg e0 d0 ad0))) := by rw [hmid]; rfl
    exact W.iret (v := ((kEv N f (kSync N f ob nd) (nSync f nd)).2.2) - ob.2.2) hx hb hr (fun t ht hW => ⟨congrArg (fun z => Outcome.returned (some (Value.int z))) (by rw [hmid]; rfl), by rw [ht, ← hw9]; exact hP, by rw [← hw9]; exact hD, hS.F ht⟩) hS.2.2 dX4_frame_154
  refine lv_iload_n hx hb dX4_frame_42 rfl (lv_at hl 3 rfl) ?_
  refine lv_iconst (v := 2) hx hb dX4_frame_43 (by decide) ?_
  refine lv_icmp_ne (tgt := 67) hx hb dX4_frame_44 (by decide) (fun hc7 => ?_) (fun hc7 => ?_)
  · refine lv_iload_n hx hb dX4_frame_67 rfl (lv_at hl 2 rfl) ?_
    refine lv_sipush (v := 128) hx hb dX4_frame_68 (by decide) ?_
    refine lv_icmp_ne (tgt := 81) hx hb dX4_frame_71 (by decide) (fun hc8 => ?_) (fun hc8 => ?_)
    · refine lv_iload_n hx hb dX4_frame_81 rfl (lv_at hl 2 rfl) ?_
      refine lv_sipush (v := 512) hx hb dX4_frame_82 (by decide) ?_
      refine lv_aload_n hx hb dX4_frame_85 rfl (lv_at hl 1 rfl) ?_
      refine va_get (D := D) (ci := 4) (v := .int N) (fs := [.int N, .ref (a 1), .ref (a 3), .ref (a 4), .ref (a 5), .ref (a 7), .int nd.1, .int nd.2.1, .int nd.2.2.1, .long nd.2.2.2]) (C := RX4) (T := TX4) (N := 10) hx hb htb inX4 hown hK hP 0 rfl rfl 0 (by decide) (htb _ kF_X4_16) (fun _ h9 => h9) rfl dX4_frame_86 ?_
      refine lv_iadd hx hb dX4_frame_89 ?_
      refine lv_icmp_ne (tgt := 107) hx hb dX4_frame_90 (by decide) (fun hc9 => ?_) (fun hc9 => ?_)
      · refine lv_iload_n hx hb dX4_frame_107 rfl (lv_at hl 2 rfl) ?_
        refine lv_sipush (v := 1536) hx hb dX4_frame_108 (by decide) ?_
        refine lv_aload_n hx hb dX4_frame_111 rfl (lv_at hl 1 rfl) ?_
        refine va_get (D := D) (ci := 4) (v := .int N) (fs := [.int N, .ref (a 1), .ref (a 3), .ref (a 4), .ref (a 5), .ref (a 7), .int nd.1, .int nd.2.1, .int nd.2.2.1, .long nd.2.2.2]) (C := RX4) (T := TX4) (N := 10) hx hb htb inX4 hown hK hP 0 rfl rfl 0 (by decide) (htb _ kF_X4_16) (fun _ h9 => h9) rfl dX4_frame_112 ?_
        refine lv_iadd hx hb dX4_frame_115 ?_
        refine lv_icmp_ne (tgt := 140) hx hb dX4_frame_116 (by decide) (fun hc10 => ?_) (fun hc10 => ?_)
        · have hmid : kMid N f ob tr nd fid ln lo hg e0 d0 ad0 = (f, ob, tr, nd) := by unfold kMid; rw [if_neg (fun h => hc7 h.2), if_neg hc8, if_neg hc9, if_neg (fun h => hc10 h.1)]
          rw [hmid] at hB2 hG2 ho2
          refine lv_aload_n hx hb dX4_frame_140 rfl (lv_at hl 1 rfl) ?_
          refine zb_cv (va_runV (As := []) (rest := []) ⟨hx, hb, hml, hown, htb⟩ (c_ev l D a cA N f ob tr nd _ hB2 hG2 ho2) (cwV 0 htb (wb_V kM_X4_85 kI_X4_giveWhenChanged kS_X4_giveWhenChanged kN_X4 kD_X4_giveWhenChanged) rfl rfl rfl (by decide +kernel) ⟨Nat.le_of_ble_eq_true rfl, Nat.le_of_ble_eq_true rfl⟩) (zp_VW 0 rfl rfl hP hD hK hSt hS hA hnw) rfl rfl hl.1 rfl (lv_room (Nat.le_of_ble_eq_true rfl)) dX4_frame_141 ⟨Nat.le_of_ble_eq_true rfl, Nat.le_of_ble_eq_true rfl⟩) hD hS hA (fun H locs hP hD hS => ?_)
          have hP : va_P D vwCl (cw a cA N f (kEv N f ob nd) tr (nEv f nd)) H := hP
          have hD : va_D A (cw a cA N f (kEv N f ob nd) tr (nEv f nd)) := hD
          refine lv_aload_n hx hb dX4_frame_144 rfl (lv_at hl 1 rfl) ?_
          refine va_get (D := D) (ci := 4) (v := .ref (a 5)) (fs := [.int N, .ref (a 1), .ref (a 3), .ref (a 4), .ref (a 5), .ref (a 7), .int ((nEv f nd).1), .int ((nEv f nd).2.1), .int ((nEv f nd).2.2.1), .long ((nEv f nd).2.2.2)]) (C := RX4) (T := TX4) (N := 10) hx hb htb inX4 hown hK hP 0 rfl rfl 4 (by decide) (htb _ kF_X4_44) (fun _ h9 => h9) rfl dX4_frame_145 ?_
          refine va_getN (D := D) (ci := 2) (v := .int ((kEv N f ob nd).2.2)) (fs := [.ref (a 6), .int ((kEv N f ob nd).2.1), .int ((kEv N f ob nd).2.2)]) (C := RX2) (T := TX2) (N := 3) hx hb htb inX2 hown hK hP 5 rfl rfl 2 (by decide) (va_Nw.use rfl (hnw _ kT_X4_61)) (fun _ h9 => h9) rfl dX4_frame_148 ?_
          refine lv_iload hx hb dX4_frame_151 (lv_at hl 0 rfl) ?_
          refine lv_isub hx hb dX4_frame_153 ?_
          rw [hQ]
          have hw9 : (cw a cA N f (kEv N f ob nd) tr (nEv f nd)) = (c4 a cA N (kEnd N (kMid N f ob tr nd fid ln lo hg e0 d0 ad0))) := by rw [hmid]; rfl
          exact W.iret (v := ((kEv N f ob nd).2.2) - ob.2.2) hx hb hr (fun t ht hW => ⟨congrArg (fun z => Outcome.returned (some (Value.int z))) (by rw [hmid]; rfl), by rw [ht, ← hw9]; exact hP, by rw [← hw9]; exact hD, hS.F ht⟩) hS.2.2 dX4_frame_154
        refine lv_iload_n hx hb dX4_frame_119 rfl (lv_at hl 3 rfl) ?_
        refine lv_bipush (v := 8) hx hb dX4_frame_120 (by decide) ?_
        refine lv_icmp_ne (tgt := 140) hx hb dX4_frame_122 (by decide) (fun hc11 => ?_) (fun hc11 => ?_)
        · have hmid : kMid N f ob tr nd fid ln lo hg e0 d0 ad0 = (f, ob, tr, nd) := by unfold kMid; rw [if_neg (fun h => hc7 h.2), if_neg hc8, if_neg hc9, if_neg (fun h => hc11 h.2.1)]
          rw [hmid] at hB2 hG2 ho2
          refine lv_aload_n hx hb dX4_frame_140 rfl (lv_at hl 1 rfl) ?_
          refine zb_cv (va_runV (As := []) (rest := []) ⟨hx, hb, hml, hown, htb⟩ (c_ev l D a cA N f ob tr nd _ hB2 hG2 ho2) (cwV 0 htb (wb_V kM_X4_85 kI_X4_giveWhenChanged kS_X4_giveWhenChanged kN_X4 kD_X4_giveWhenChanged) rfl rfl rfl (by decide +kernel) ⟨Nat.le_of_ble_eq_true rfl, Nat.le_of_ble_eq_true rfl⟩) (zp_VW 0 rfl rfl hP hD hK hSt hS hA hnw) rfl rfl hl.1 rfl (lv_room (Nat.le_of_ble_eq_true rfl)) dX4_frame_141 ⟨Nat.le_of_ble_eq_true rfl, Nat.le_of_ble_eq_true rfl⟩) hD hS hA (fun H locs hP hD hS => ?_)
          have hP : va_P D vwCl (cw a cA N f (kEv N f ob nd) tr (nEv f nd)) H := hP
          have hD : va_D A (cw a cA N f (kEv N f ob nd) tr (nEv f nd)) := hD
          refine lv_aload_n hx hb dX4_frame_144 rfl (lv_at hl 1 rfl) ?_
          refine va_get (D := D) (ci := 4) (v := .ref (a 5)) (fs := [.int N, .ref (a 1), .ref (a 3), .ref (a 4), .ref (a 5), .ref (a 7), .int ((nEv f nd).1), .int ((nEv f nd).2.1), .int ((nEv f nd).2.2.1), .long ((nEv f nd).2.2.2)]) (C := RX4) (T := TX4) (N := 10) hx hb htb inX4 hown hK hP 0 rfl rfl 4 (by decide) (htb _ kF_X4_44) (fun _ h9 => h9) rfl dX4_frame_145 ?_
          refine va_getN (D := D) (ci := 2) (v := .int ((kEv N f ob nd).2.2)) (fs := [.ref (a 6), .int ((kEv N f ob nd).2.1), .int ((kEv N f ob nd).2.2)]) (C := RX2) (T := TX2) (N := 3) hx hb htb inX2 hown hK hP 5 rfl rfl 2 (by decide) (va_Nw.use rfl (hnw _ kT_X4_61)) (fun _ h9 => h9) rfl dX4_frame_148 ?_
          refine lv_iload hx hb dX4_frame_151 (lv_at hl 0 rfl) ?_
          refine lv_isub hx hb dX4_frame_153 ?_
          rw [hQ]
          have hw9 : (cw a cA N f (kEv N f ob nd) tr (nEv f nd)) = (c4 a cA N (kEnd N (kMid N f ob tr nd fid ln lo hg e0 d0 ad0))) := by rw [hmid]; rfl
          exact W.iret (v := ((kEv N f ob nd).2.2) - ob.2.2) hx hb hr (fun t ht hW => ⟨congrArg (fun z => Outcome.returned (some (Value.int z))) (by rw [hmid]; rfl), by rw [ht, ← hw9]; exact hP, by rw [← hw9]; exact hD, hS.F ht⟩) hS.2.2 dX4_frame_154
        refine lv_aload_n hx hb dX4_frame_125 rfl (lv_at hl 1 rfl) ?_
        refine va_get (D := D) (ci := 4) (v := .int nd.1) (fs := [.int N, .ref (a 1), .ref (a 3), .ref (a 4), .ref (a 5), .ref (a 7), .int nd.1, .int nd.2.1, .int nd.2.2.1, .long nd.2.2.2]) (C := RX4) (T := TX4) (N := 10) hx hb htb inX4 hown hK hP 0 rfl rfl 6 (by decide) (htb _ kF_X4_79) (fun _ h9 => h9) rfl dX4_frame_126 ?_
        refine lv_iconst (v := 4) hx hb dX4_frame_129 (by decide) ?_
        refine lv_icmp_eq (tgt := 140) hx hb dX4_frame_130 (by decide) (fun hc12 => ?_) (fun hc12 => ?_)
        · have hmid : kMid N f ob tr nd fid ln lo hg e0 d0 ad0 = (f, ob, tr, nd) := by unfold kMid; rw [if_neg (fun h => hc7 h.2), if_neg hc8, if_neg hc9, if_neg (fun h => h.2.2 hc12)]
          rw [hmid] at hB2 hG2 ho2
          refine lv_aload_n hx hb dX4_frame_140 rfl (lv_at hl 1 rfl) ?_
          refine zb_cv (va_runV (As := []) (rest := []) ⟨hx, hb, hml, hown, htb⟩ (c_ev l D a cA N f ob tr nd _ hB2 hG2 ho2) (cwV 0 htb (wb_V kM_X4_85 kI_X4_giveWhenChanged kS_X4_giveWhenChanged kN_X4 kD_X4_giveWhenChanged) rfl rfl rfl (by decide +kernel) ⟨Nat.le_of_ble_eq_true rfl, Nat.le_of_ble_eq_true rfl⟩) (zp_VW 0 rfl rfl hP hD hK hSt hS hA hnw) rfl rfl hl.1 rfl (lv_room (Nat.le_of_ble_eq_true rfl)) dX4_frame_141 ⟨Nat.le_of_ble_eq_true rfl, Nat.le_of_ble_eq_true rfl⟩) hD hS hA (fun H locs hP hD hS => ?_)
          have hP : va_P D vwCl (cw a cA N f (kEv N f ob nd) tr (nEv f nd)) H := hP
          have hD : va_D A (cw a cA N f (kEv N f ob nd) tr (nEv f nd)) := hD
          refine lv_aload_n hx hb dX4_frame_144 rfl (lv_at hl 1 rfl) ?_
          refine va_get (D := D) (ci := 4) (v := .ref (a 5)) (fs := [.int N, .ref (a 1), .ref (a 3), .ref (a 4), .ref (a 5), .ref (a 7), .int ((nEv f nd).1), .int ((nEv f nd).2.1), .int ((nEv f nd).2.2.1), .long ((nEv f nd).2.2.2)]) (C := RX4) (T := TX4) (N := 10) hx hb htb inX4 hown hK hP 0 rfl rfl 4 (by decide) (htb _ kF_X4_44) (fun _ h9 => h9) rfl dX4_frame_145 ?_
          refine va_getN (D := D) (ci := 2) (v := .int ((kEv N f ob nd).2.2)) (fs := [.ref (a 6), .int ((kEv N f ob nd).2.1), .int ((kEv N f ob nd).2.2)]) (C := RX2) (T := TX2) (N := 3) hx hb htb inX2 hown hK hP 5 rfl rfl 2 (by decide) (va_Nw.use rfl (hnw _ kT_X4_61)) (fun _ h9 => h9) rfl dX4_frame_148 ?_
          refine lv_iload hx hb dX4_frame_151 (lv_at hl 0 rfl) ?_
          refine lv_isub hx hb dX4_frame_153 ?_
          rw [hQ]
          have hw9 : (cw a cA N f (kEv N f ob nd) tr (nEv f nd)) = (c4 a cA N (kEnd N (kMid N f ob tr nd fid ln lo hg e0 d0 ad0))) := by rw [hmid]; rfl
          exact W.iret (v := ((kEv N f ob nd).2.2) - ob.2.2) hx hb hr (fun t ht hW => ⟨congrArg (fun z => Outcome.returned (some (Value.int z))) (by rw [hmid]; rfl), by rw [ht, ← hw9]; exact hP, by rw [← hw9]; exact hD, hS.F ht⟩) hS.2.2 dX4_frame_154
        refine lv_aload_n hx hb dX4_frame_133 rfl (lv_at hl 1 rfl) ?_
        refine lv_iload_n hx hb dX4_frame_134 rfl (lv_at hl 4 rfl) ?_
        refine lv_iload hx hb dX4_frame_135 (lv_at hl 5 rfl) ?_
        refine zb_cv (va_runV (As := [.int (nI lo), .int (nI hg)]) (rest := []) ⟨hx, hb, hml, hown, htb⟩ (c_request l D a cA N f ob tr nd _ lo hg e0 d0 ad0 hB hT hG ho hBh hlo hhg he0 hen hdn hd0 hada had0) (cwV 2 htb (wb_V kM_X4_82 kI_X4_request kS_X4_request kN_X4 kD_X4_request) rfl rfl rfl (by decide +kernel) ⟨Nat.le_of_ble_eq_true rfl, Nat.le_of_ble_eq_true rfl⟩) (zp_VW 0 rfl rfl hP hD hK hSt hS hA hnw) rfl rfl hl.1 rfl (lv_room (Nat.le_of_ble_eq_true rfl)) dX4_frame_137 ⟨Nat.le_of_ble_eq_true rfl, Nat.le_of_ble_eq_true rfl⟩) hD hS hA (fun H locs hP hD hS => ?_)
        have hP : va_P D vwCl (cw a cA N ((kReq N f ob tr nd lo hg e0 d0 ad0).1) ((kReq N f ob tr nd lo hg e0 d0 ad0).2.1) ((kReq N f ob tr nd lo hg e0 d0 ad0).2.2.1) ((kReq N f ob tr nd lo hg e0 d0 ad0).2.2.2)) H := hP
        have hD : va_D A (cw a cA N ((kReq N f ob tr nd lo hg e0 d0 ad0).1) ((kReq N f ob tr nd lo hg e0 d0 ad0).2.1) ((kReq N f ob tr nd lo hg e0 d0 ad0).2.2.1) ((kReq N f ob tr nd lo hg e0 d0 ad0).2.2.2)) := hD
        have hmid : kMid N f ob tr nd fid ln lo hg e0 d0 ad0 = (((kReq N f ob tr nd lo hg e0 d0 ad0).1), ((kReq N f ob tr nd lo hg e0 d0 ad0).2.1), ((kReq N f ob tr nd lo hg e0 d0 ad0).2.2.1), ((kReq N f ob tr nd lo hg e0 d0 ad0).2.2.2)) := by unfold kMid; rw [if_neg (fun h => hc7 h.2), if_neg hc8, if_neg hc9, if_pos ⟨hc10, hc11, hc12⟩]
        rw [hmid] at hB2 hG2 ho2
        refine lv_aload_n hx hb dX4_frame_140 rfl (lv_at hl 1 rfl) ?_
        refine zb_cv (va_runV (As := []) (rest := []) ⟨hx, hb, hml, hown, htb⟩ (c_ev l D a cA N ((kReq N f ob tr nd lo hg e0 d0 ad0).1) ((kReq N f ob tr nd lo hg e0 d0 ad0).2.1) ((kReq N f ob tr nd lo hg e0 d0 ad0).2.2.1) ((kReq N f ob tr nd lo hg e0 d0 ad0).2.2.2) _ hB2 hG2 ho2) (cwV 0 htb (wb_V kM_X4_85 kI_X4_giveWhenChanged kS_X4_giveWhenChanged kN_X4 kD_X4_giveWhenChanged) rfl rfl rfl (by decide +kernel) ⟨Nat.le_of_ble_eq_true rfl, Nat.le_of_ble_eq_true rfl⟩) (zp_VW 0 rfl rfl hP hD hK hSt hS hA hnw) rfl rfl hl.1 rfl (lv_room (Nat.le_of_ble_eq_true rfl)) dX4_frame_141 ⟨Nat.le_of_ble_eq_true rfl, Nat.le_of_ble_eq_true rfl⟩) hD hS hA (fun H locs hP hD hS => ?_)
        have hP : va_P D vwCl (cw a cA N ((kReq N f ob tr nd lo hg e0 d0 ad0).1) (kEv N ((kReq N f ob tr nd lo hg e0 d0 ad0).1) ((kReq N f ob tr nd lo hg e0 d0 ad0).2.1) ((kReq N f ob tr nd lo hg e0 d0 ad0).2.2.2)) ((kReq N f ob tr nd lo hg e0 d0 ad0).2.2.1) (nEv ((kReq N f ob tr nd lo hg e0 d0 ad0).1) ((kReq N f ob tr nd lo hg e0 d0 ad0).2.2.2))) H := hP
        have hD : va_D A (cw a cA N ((kReq N f ob tr nd lo hg e0 d0 ad0).1) (kEv N ((kReq N f ob tr nd lo hg e0 d0 ad0).1) ((kReq N f ob tr nd lo hg e0 d0 ad0).2.1) ((kReq N f ob tr nd lo hg e0 d0 ad0).2.2.2)) ((kReq N f ob tr nd lo hg e0 d0 ad0).2.2.1) (nEv ((kReq N f ob tr nd lo hg e0 d0 ad0).1) ((kReq N f ob tr nd lo hg e0 d0 ad0).2.2.2))) := hD
        refine lv_aload_n hx hb dX4_frame_144 rfl (lv_at hl 1 rfl) ?_
        refine va_get (D := D) (ci := 4) (v := .ref (a 5)) (fs := [.int N, .ref (a 1), .ref (a 3), .ref (a 4), .ref (a 5), .ref (a 7), .int ((nEv ((kReq N f ob tr nd lo hg e0 d0 ad0).1) ((kReq N f ob tr nd lo hg e0 d0 ad0).2.2.2)).1), .int ((nEv ((kReq N f ob tr nd lo hg e0 d0 ad0).1) ((kReq N f ob tr nd lo hg e0 d0 ad0).2.2.2)).2.1), .int ((nEv ((kReq N f ob tr nd lo hg e0 d0 ad0).1) ((kReq N f ob tr nd lo hg e0 d0 ad0).2.2.2)).2.2.1), .long ((nEv ((kReq N f ob tr nd lo hg e0 d0 ad0).1) ((kReq N f ob tr nd lo hg e0 d0 ad0).2.2.2)).2.2.2)]) (C := RX4) (T := TX4) (N := 10) hx hb htb inX4 hown hK hP 0 rfl rfl 4 (by decide) (htb _ kF_X4_44) (fun _ h9 => h9) rfl dX4_frame_145 ?_
        refine va_getN (D := D) (ci := 2) (v := .int ((kEv N ((kReq N f ob tr nd lo hg e0 d0 ad0).1) ((kReq N f ob tr nd lo hg e0 d0 ad0).2.1) ((kReq N f ob tr nd lo hg e0 d0 ad0).2.2.2)).2.2)) (fs := [.ref (a 6), .int ((kEv N ((kReq N f ob tr nd lo hg e0 d0 ad0).1) ((kReq N f ob tr nd lo hg e0 d0 ad0).2.1) ((kReq N f ob tr nd lo hg e0 d0 ad0).2.2.2)).2.1), .int ((kEv N ((kReq N f ob tr nd lo hg e0 d0 ad0).1) ((kReq N f ob tr nd lo hg e0 d0 ad0).2.1) ((kReq N f ob tr nd lo hg e0 d0 ad0).2.2.2)).2.2)]) (C := RX2) (T := TX2) (N := 3) hx hb htb inX2 hown hK hP 5 rfl rfl 2 (by decide) (va_Nw.use rfl (hnw _ kT_X4_61)) (fun _ h9 => h9) rfl dX4_frame_148 ?_
        refine lv_iload hx hb dX4_frame_151 (lv_at hl 0 rfl) ?_
        refine lv_isub hx hb dX4_frame_153 ?_
        rw [hQ]
        have hw9 : (cw a cA N ((kReq N f ob tr nd lo hg e0 d0 ad0).1) (kEv N ((kReq N f ob tr nd lo hg e0 d0 ad0).1) ((kReq N f ob tr nd lo hg e0 d0 ad0).2.1) ((kReq N f ob tr nd lo hg e0 d0 ad0).2.2.2)) ((kReq N f ob tr nd lo hg e0 d0 ad0).2.2.1) (nEv ((kReq N f ob tr nd lo hg e0 d0 ad0).1) ((kReq N f ob tr nd lo hg e0 d0 ad0).2.2.2))) = (c4 a cA N (kEnd N (kMid N f ob tr nd fid ln lo hg e0 d0 ad0))) := by rw [hmid]; rfl
        exact W.iret (v := ((kEv N ((kReq N f ob tr nd lo hg e0 d0 ad0).1) ((kReq N f ob tr nd lo hg e0 d0 ad0).2.1) ((kReq N f ob tr nd lo hg e0 d0 ad0).2.2.2)).2.2) - ob.2.2) hx hb hr (fun t ht hW => ⟨congrArg (fun z => Outcome.returned (some (Value.int z))) (by rw [hmid]; rfl), by rw [ht, ← hw9]; exact hP, by rw [← hw9]; exact hD, hS.F ht⟩) hS.2.2 dX4_frame_154
      refine lv_aload_n hx hb dX4_frame_93 rfl (lv_at hl 1 rfl) ?_
      refine lv_iload_n hx hb dX4_frame_94 rfl (lv_at hl 3 rfl) ?_
      refine lv_iload_n hx hb dX4_frame_95 rfl (lv_at hl 4 rfl) ?_
      refine lv_iload hx hb dX4_frame_96 (lv_at hl 5 rfl) ?_
      refine zb_cl (va_runS (As := [.int (nI lo), .int (nI hg)]) (rest := [.int ln, .ref (a 0)]) ⟨hx, hb, hml, hown, htb⟩ (c_joined l D a cA N f ob tr nd lo hg hlo hhg) (va_cwS 2 htb (wb_S kM_X4_71 kZ_X4_joined kN_X4 kD_X4_joined) rfl rfl rfl (by decide +kernel) ⟨Nat.le_of_ble_eq_true rfl, Nat.le_of_ble_eq_true rfl⟩) (zp_S hP hK hSt hS hnw) rfl rfl hl.1 rfl (lv_room (Nat.le_of_ble_eq_true rfl)) dX4_frame_98 ⟨Nat.le_of_ble_eq_true rfl, Nat.le_of_ble_eq_true rfl⟩) ?_
      refine zb_cv (va_runV (As := [.int ln, .long (lN (lo + 4294967296 * hg))]) (rest := []) ⟨hx, hb, hml, hown, htb⟩ (c_take l D a cA N f ob tr nd _ ln (lo + 4294967296 * hg) hB hT h8 (by omega)) (cwV 2 htb (wb_V kM_X4_75 kI_X4_take kS_X4_take kN_X4 kD_X4_take) rfl rfl rfl (by decide +kernel) ⟨Nat.le_of_ble_eq_true rfl, Nat.le_of_ble_eq_true rfl⟩) (zp_VW 0 rfl rfl hP hD hK hSt hS hA hnw) rfl rfl hl.1 rfl (lv_room (Nat.le_of_ble_eq_true rfl)) dX4_frame_101 ⟨Nat.le_of_ble_eq_true rfl, Nat.le_of_ble_eq_true rfl⟩) hD hS hA (fun H locs hP hD hS => ?_)
      have hP : va_P D vwCl (cw a cA N (fTake f nd ln (lo + 4294967296 * hg)) ob tr nd) H := hP
      have hD : va_D A (cw a cA N (fTake f nd ln (lo + 4294967296 * hg)) ob tr nd) := hD
      refine lv_goto (tgt := 140) hx hb dX4_frame_104 (by decide) ?_
      have hmid : kMid N f ob tr nd fid ln lo hg e0 d0 ad0 = ((fTake f nd ln (lo + 4294967296 * hg)), ob, tr, nd) := by unfold kMid; rw [if_neg (fun h => hc7 h.2), if_neg hc8, if_pos hc9]
      rw [hmid] at hB2 hG2 ho2
      refine lv_aload_n hx hb dX4_frame_140 rfl (lv_at hl 1 rfl) ?_
      refine zb_cv (va_runV (As := []) (rest := []) ⟨hx, hb, hml, hown, htb⟩ (c_ev l D a cA N (fTake f nd ln (lo + 4294967296 * hg)) ob tr nd _ hB2 hG2 ho2) (cwV 0 htb (wb_V kM_X4_85 kI_X4_giveWhenChanged kS_X4_giveWhenChanged kN_X4 kD_X4_giveWhenChanged) rfl rfl rfl (by decide +kernel) ⟨Nat.le_of_ble_eq_true rfl, Nat.le_of_ble_eq_true rfl⟩) (zp_VW 0 rfl rfl hP hD hK hSt hS hA hnw) rfl rfl hl.1 rfl (lv_room (Nat.le_of_ble_eq_true rfl)) dX4_frame_141 ⟨Nat.le_of_ble_eq_true rfl, Nat.le_of_ble_eq_true rfl⟩) hD hS hA (fun H locs hP hD hS => ?_)
      have hP : va_P D vwCl (cw a cA N (fTake f nd ln (lo + 4294967296 * hg)) (kEv N (fTake f nd ln (lo + 4294967296 * hg)) ob nd) tr (nEv (fTake f nd ln (lo + 4294967296 * hg)) nd)) H := hP
      have hD : va_D A (cw a cA N (fTake f nd ln (lo + 4294967296 * hg)) (kEv N (fTake f nd ln (lo + 4294967296 * hg)) ob nd) tr (nEv (fTake f nd ln (lo + 4294967296 * hg)) nd)) := hD
      refine lv_aload_n hx hb dX4_frame_144 rfl (lv_at hl 1 rfl) ?_
      refine va_get (D := D) (ci := 4) (v := .ref (a 5)) (fs := [.int N, .ref (a 1), .ref (a 3), .ref (a 4), .ref (a 5), .ref (a 7), .int ((nEv (fTake f nd ln (lo + 4294967296 * hg)) nd).1), .int ((nEv (fTake f nd ln (lo + 4294967296 * hg)) nd).2.1), .int ((nEv (fTake f nd ln (lo + 4294967296 * hg)) nd).2.2.1), .long ((nEv (fTake f nd ln (lo + 4294967296 * hg)) nd).2.2.2)]) (C := RX4) (T := TX4) (N := 10) hx hb htb inX4 hown hK hP 0 rfl rfl 4 (by decide) (htb _ kF_X4_44) (fun _ h9 => h9) rfl dX4_frame_145 ?_
      refine va_getN (D := D) (ci := 2) (v := .int ((kEv N (fTake f nd ln (lo + 4294967296 * hg)) ob nd).2.2)) (fs := [.ref (a 6), .int ((kEv N (fTake f nd ln (lo + 4294967296 * hg)) ob nd).2.1), .int ((kEv N (fTake f nd ln (lo + 4294967296 * hg)) ob nd).2.2)]) (C := RX2) (T := TX2) (N := 3) hx hb htb inX2 hown hK hP 5 rfl rfl 2 (by decide) (va_Nw.use rfl (hnw _ kT_X4_61)) (fun _ h9 => h9) rfl dX4_frame_148 ?_
      refine lv_iload hx hb dX4_frame_151 (lv_at hl 0 rfl) ?_
      refine lv_isub hx hb dX4_frame_153 ?_
      rw [hQ]
      have hw9 : (cw a cA N (fTake f nd ln (lo + 4294967296 * hg)) (kEv N (fTake f nd ln (lo + 4294967296 * hg)) ob nd) tr (nEv (fTake f nd ln (lo + 4294967296 * hg)) nd)) = (c4 a cA N (kEnd N (kMid N f ob tr nd fid ln lo hg e0 d0 ad0))) := by rw [hmid]; rfl
      exact W.iret (v := ((kEv N (fTake f nd ln (lo + 4294967296 * hg)) ob nd).2.2) - ob.2.2) hx hb hr (fun t ht hW => ⟨congrArg (fun z => Outcome.returned (some (Value.int z))) (by rw [hmid]; rfl), by rw [ht, ← hw9]; exact hP, by rw [← hw9]; exact hD, hS.F ht⟩) hS.2.2 dX4_frame_154
    refine lv_aload_n hx hb dX4_frame_74 rfl (lv_at hl 1 rfl) ?_
    refine zb_cv (va_runV (As := []) (rest := []) ⟨hx, hb, hml, hown, htb⟩ (c_sync l D a cA N f ob tr nd _ hB hG ho) (cwV 0 htb (wb_V kM_X4_68 kI_X4_sync kS_X4_sync kN_X4 kD_X4_sync) rfl rfl rfl (by decide +kernel) ⟨Nat.le_of_ble_eq_true rfl, Nat.le_of_ble_eq_true rfl⟩) (zp_VW 0 rfl rfl hP hD hK hSt hS hA hnw) rfl rfl hl.1 rfl (lv_room (Nat.le_of_ble_eq_true rfl)) dX4_frame_75 ⟨Nat.le_of_ble_eq_true rfl, Nat.le_of_ble_eq_true rfl⟩) hD hS hA (fun H locs hP hD hS => ?_)
    have hP : va_P D vwCl (cw a cA N f (kSync N f ob nd) tr (nSync f nd)) H := hP
    have hD : va_D A (cw a cA N f (kSync N f ob nd) tr (nSync f nd)) := hD
    refine lv_goto (tgt := 140) hx hb dX4_frame_78 (by decide) ?_
    have hmid : kMid N f ob tr nd fid ln lo hg e0 d0 ad0 = (f, (kSync N f ob nd), tr, (nSync f nd)) := by unfold kMid; rw [if_neg (fun h => hc7 h.2), if_pos hc8]
    rw [hmid] at hB2 hG2 ho2
    refine lv_aload_n hx hb dX4_frame_140 rfl (lv_at hl 1 rfl) ?_
    refine zb_cv (va_runV (As := []) (rest := []) ⟨hx, hb, hml, hown, htb⟩ (c_ev l D a cA N f (kSync N f ob nd) tr (nSync f nd) _ hB2 hG2 ho2) (cwV 0 htb (wb_V kM_X4_85 kI_X4_giveWhenChanged kS_X4_giveWhenChanged kN_X4 kD_X4_giveWhenChanged) rfl rfl rfl (by decide +kernel) ⟨Nat.le_of_ble_eq_true rfl, Nat.le_of_ble_eq_true rfl⟩) (zp_VW 0 rfl rfl hP hD hK hSt hS hA hnw) rfl rfl hl.1 rfl (lv_room (Nat.le_of_ble_eq_true rfl)) dX4_frame_141 ⟨Nat.le_of_ble_eq_true rfl, Nat.le_of_ble_eq_true rfl⟩) hD hS hA (fun H locs hP hD hS => ?_)
    have hP : va_P D vwCl (cw a cA N f (kEv N f (kSync N f ob nd) (nSync f nd)) tr (nEv f (nSync f nd))) H := hP
    have hD : va_D A (cw a cA N f (kEv N f (kSync N f ob nd) (nSync f nd)) tr (nEv f (nSync f nd))) := hD
    refine lv_aload_n hx hb dX4_frame_144 rfl (lv_at hl 1 rfl) ?_
    refine va_get (D := D) (ci := 4) (v := .ref (a 5)) (fs := [.int N, .ref (a 1), .ref (a 3), .ref (a 4), .ref (a 5), .ref (a 7), .int ((nEv f (nSync f nd)).1), .int ((nEv f (nSync f nd)).2.1), .int ((nEv f (nSync f nd)).2.2.1), .long ((nEv f (nSync f nd)).2.2.2)]) (C := RX4) (T := TX4) (N := 10) hx hb htb inX4 hown hK hP 0 rfl rfl 4 (by decide) (htb _ kF_X4_44) (fun _ h9 => h9) rfl dX4_frame_145 ?_
    refine va_getN (D := D) (ci := 2) (v := .int ((kEv N f (kSync N f ob nd) (nSync f nd)).2.2)) (fs := [.ref (a 6), .int ((kEv N f (kSync N f ob nd) (nSync f nd)).2.1), .int ((kEv N f (kSync N f ob nd) (nSync f nd)).2.2)]) (C := RX2) (T := TX2) (N := 3) hx hb htb inX2 hown hK hP 5 rfl rfl 2 (by decide) (va_Nw.use rfl (hnw _ kT_X4_61)) (fun _ h9 => h9) rfl dX4_frame_148 ?_
    refine lv_iload hx hb dX4_frame_151 (lv_at hl 0 rfl) ?_
    refine lv_isub hx hb dX4_frame_153 ?_
    rw [hQ]
    have hw9 : (cw a cA N f (kEv N f (kSync N f ob nd) (nSync f nd)) tr (nEv f (nSync f nd))) = (c4 a cA N (kEnd N (kMid N f ob tr nd fid ln lo hg e0 d0 ad0))) := by rw [hmid]; rfl
    exact W.iret (v := ((kEv N f (kSync N f ob nd) (nSync f nd)).2.2) - ob.2.2) hx hb hr (fun t ht hW => ⟨congrArg (fun z => Outcome.returned (some (Value.int z))) (by rw [hmid]; rfl), by rw [ht, ← hw9]; exact hP, by rw [← hw9]; exact hD, hS.F ht⟩) hS.2.2 dX4_frame_154
  refine lv_aload_n hx hb dX4_frame_47 rfl (lv_at hl 1 rfl) ?_
  refine lv_iload_n hx hb dX4_frame_48 rfl (lv_at hl 4 rfl) ?_
  refine lv_sipush (v := 255) hx hb dX4_frame_49 (by decide) ?_
  refine lv_iand hx hb dX4_frame_52 ?_
  refine zb_ti (y := nI (lo % 256)) (lo255 lo) ?_
  refine lv_iload_n hx hb dX4_frame_53 rfl (lv_at hl 4 rfl) ?_
  refine lv_bipush (v := 8) hx hb dX4_frame_54 (by decide) ?_
  refine lv_ishr hx hb dX4_frame_56 ?_
  refine lv_sipush (v := 255) hx hb dX4_frame_57 (by decide) ?_
  refine lv_iand hx hb dX4_frame_60 ?_
  refine zb_ti (y := nI (lo / 256 % 256)) (sh8_255 hlo) ?_
  by_cases hon : nI (lo / 256 % 256) = 0 ∨ nI (lo / 256 % 256) = N
  · refine zb_cv (va_runV (As := [.int (nI (lo % 256)), .int (nI (lo / 256 % 256))]) (rest := []) ⟨hx, hb, hml, hown, htb⟩ (c_cmdOn l D a cA N f ob tr nd _ (lo % 256) (lo / 256 % 256) hB hG ho (by omega) hon) (cwV 2 htb (wb_V kM_X4_64 kI_X4_command kS_X4_command kN_X4 kD_X4_command) rfl rfl rfl (by decide +kernel) ⟨Nat.le_of_ble_eq_true rfl, Nat.le_of_ble_eq_true rfl⟩) (zp_VW 0 rfl rfl hP hD hK hSt hS hA hnw) rfl rfl hl.1 rfl (lv_room (Nat.le_of_ble_eq_true rfl)) dX4_frame_61 ⟨Nat.le_of_ble_eq_true rfl, Nat.le_of_ble_eq_true rfl⟩) hD hS hA (fun H locs hP hD hS => ?_)
    have hP : va_P D vwCl (cw a cA N ((kCmd N f ob tr nd (lo % 256)).1) ((kCmd N f ob tr nd (lo % 256)).2.1) ((kCmd N f ob tr nd (lo % 256)).2.2.1) ((kCmd N f ob tr nd (lo % 256)).2.2.2)) H := hP
    have hD : va_D A (cw a cA N ((kCmd N f ob tr nd (lo % 256)).1) ((kCmd N f ob tr nd (lo % 256)).2.1) ((kCmd N f ob tr nd (lo % 256)).2.2.1) ((kCmd N f ob tr nd (lo % 256)).2.2.2)) := hD
    refine lv_goto (tgt := 140) hx hb dX4_frame_64 (by decide) ?_
    have hmid : kMid N f ob tr nd fid ln lo hg e0 d0 ad0 = (((kCmd N f ob tr nd (lo % 256)).1), ((kCmd N f ob tr nd (lo % 256)).2.1), ((kCmd N f ob tr nd (lo % 256)).2.2.1), ((kCmd N f ob tr nd (lo % 256)).2.2.2)) := by unfold kMid; rw [if_pos ⟨hc1, hc7⟩, if_pos hon]
    rw [hmid] at hB2 hG2 ho2
    refine lv_aload_n hx hb dX4_frame_140 rfl (lv_at hl 1 rfl) ?_
    refine zb_cv (va_runV (As := []) (rest := []) ⟨hx, hb, hml, hown, htb⟩ (c_ev l D a cA N ((kCmd N f ob tr nd (lo % 256)).1) ((kCmd N f ob tr nd (lo % 256)).2.1) ((kCmd N f ob tr nd (lo % 256)).2.2.1) ((kCmd N f ob tr nd (lo % 256)).2.2.2) _ hB2 hG2 ho2) (cwV 0 htb (wb_V kM_X4_85 kI_X4_giveWhenChanged kS_X4_giveWhenChanged kN_X4 kD_X4_giveWhenChanged) rfl rfl rfl (by decide +kernel) ⟨Nat.le_of_ble_eq_true rfl, Nat.le_of_ble_eq_true rfl⟩) (zp_VW 0 rfl rfl hP hD hK hSt hS hA hnw) rfl rfl hl.1 rfl (lv_room (Nat.le_of_ble_eq_true rfl)) dX4_frame_141 ⟨Nat.le_of_ble_eq_true rfl, Nat.le_of_ble_eq_true rfl⟩) hD hS hA (fun H locs hP hD hS => ?_)
    have hP : va_P D vwCl (cw a cA N ((kCmd N f ob tr nd (lo % 256)).1) (kEv N ((kCmd N f ob tr nd (lo % 256)).1) ((kCmd N f ob tr nd (lo % 256)).2.1) ((kCmd N f ob tr nd (lo % 256)).2.2.2)) ((kCmd N f ob tr nd (lo % 256)).2.2.1) (nEv ((kCmd N f ob tr nd (lo % 256)).1) ((kCmd N f ob tr nd (lo % 256)).2.2.2))) H := hP
    have hD : va_D A (cw a cA N ((kCmd N f ob tr nd (lo % 256)).1) (kEv N ((kCmd N f ob tr nd (lo % 256)).1) ((kCmd N f ob tr nd (lo % 256)).2.1) ((kCmd N f ob tr nd (lo % 256)).2.2.2)) ((kCmd N f ob tr nd (lo % 256)).2.2.1) (nEv ((kCmd N f ob tr nd (lo % 256)).1) ((kCmd N f ob tr nd (lo % 256)).2.2.2))) := hD
    refine lv_aload_n hx hb dX4_frame_144 rfl (lv_at hl 1 rfl) ?_
    refine va_get (D := D) (ci := 4) (v := .ref (a 5)) (fs := [.int N, .ref (a 1), .ref (a 3), .ref (a 4), .ref (a 5), .ref (a 7), .int ((nEv ((kCmd N f ob tr nd (lo % 256)).1) ((kCmd N f ob tr nd (lo % 256)).2.2.2)).1), .int ((nEv ((kCmd N f ob tr nd (lo % 256)).1) ((kCmd N f ob tr nd (lo % 256)).2.2.2)).2.1), .int ((nEv ((kCmd N f ob tr nd (lo % 256)).1) ((kCmd N f ob tr nd (lo % 256)).2.2.2)).2.2.1), .long ((nEv ((kCmd N f ob tr nd (lo % 256)).1) ((kCmd N f ob tr nd (lo % 256)).2.2.2)).2.2.2)]) (C := RX4) (T := TX4) (N := 10) hx hb htb inX4 hown hK hP 0 rfl rfl 4 (by decide) (htb _ kF_X4_44) (fun _ h9 => h9) rfl dX4_frame_145 ?_
    refine va_getN (D := D) (ci := 2) (v := .int ((kEv N ((kCmd N f ob tr nd (lo % 256)).1) ((kCmd N f ob tr nd (lo % 256)).2.1) ((kCmd N f ob tr nd (lo % 256)).2.2.2)).2.2)) (fs := [.ref (a 6), .int ((kEv N ((kCmd N f ob tr nd (lo % 256)).1) ((kCmd N f ob tr nd (lo % 256)).2.1) ((kCmd N f ob tr nd (lo % 256)).2.2.2)).2.1), .int ((kEv N ((kCmd N f ob tr nd (lo % 256)).1) ((kCmd N f ob tr nd (lo % 256)).2.1) ((kCmd N f ob tr nd (lo % 256)).2.2.2)).2.2)]) (C := RX2) (T := TX2) (N := 3) hx hb htb inX2 hown hK hP 5 rfl rfl 2 (by decide) (va_Nw.use rfl (hnw _ kT_X4_61)) (fun _ h9 => h9) rfl dX4_frame_148 ?_
    refine lv_iload hx hb dX4_frame_151 (lv_at hl 0 rfl) ?_
    refine lv_isub hx hb dX4_frame_153 ?_
    rw [hQ]
    have hw9 : (cw a cA N ((kCmd N f ob tr nd (lo % 256)).1) (kEv N ((kCmd N f ob tr nd (lo % 256)).1) ((kCmd N f ob tr nd (lo % 256)).2.1) ((kCmd N f ob tr nd (lo % 256)).2.2.2)) ((kCmd N f ob tr nd (lo % 256)).2.2.1) (nEv ((kCmd N f ob tr nd (lo % 256)).1) ((kCmd N f ob tr nd (lo % 256)).2.2.2))) = (c4 a cA N (kEnd N (kMid N f ob tr nd fid ln lo hg e0 d0 ad0))) := by rw [hmid]; rfl
    exact W.iret (v := ((kEv N ((kCmd N f ob tr nd (lo % 256)).1) ((kCmd N f ob tr nd (lo % 256)).2.1) ((kCmd N f ob tr nd (lo % 256)).2.2.2)).2.2) - ob.2.2) hx hb hr (fun t ht hW => ⟨congrArg (fun z => Outcome.returned (some (Value.int z))) (by rw [hmid]; rfl), by rw [ht, ← hw9]; exact hP, by rw [← hw9]; exact hD, hS.F ht⟩) hS.2.2 dX4_frame_154
  · refine zb_cv (va_runV (As := [.int (nI (lo % 256)), .int (nI (lo / 256 % 256))]) (rest := []) ⟨hx, hb, hml, hown, htb⟩ (c_cmdOff l D a cA N f ob tr nd _ (lo % 256) (lo / 256 % 256) hon) (cwV 2 htb (wb_V kM_X4_64 kI_X4_command kS_X4_command kN_X4 kD_X4_command) rfl rfl rfl (by decide +kernel) ⟨Nat.le_of_ble_eq_true rfl, Nat.le_of_ble_eq_true rfl⟩) (zp_VW 0 rfl rfl hP hD hK hSt hS hA hnw) rfl rfl hl.1 rfl (lv_room (Nat.le_of_ble_eq_true rfl)) dX4_frame_61 ⟨Nat.le_of_ble_eq_true rfl, Nat.le_of_ble_eq_true rfl⟩) hD hS hA (fun H locs hP hD hS => ?_)
    have hP : va_P D vwCl (cw a cA N f ob tr nd) H := hP
    have hD : va_D A (cw a cA N f ob tr nd) := hD
    refine lv_goto (tgt := 140) hx hb dX4_frame_64 (by decide) ?_
    have hmid : kMid N f ob tr nd fid ln lo hg e0 d0 ad0 = (f, ob, tr, nd) := by unfold kMid; rw [if_pos ⟨hc1, hc7⟩, if_neg hon]
    rw [hmid] at hB2 hG2 ho2
    refine lv_aload_n hx hb dX4_frame_140 rfl (lv_at hl 1 rfl) ?_
    refine zb_cv (va_runV (As := []) (rest := []) ⟨hx, hb, hml, hown, htb⟩ (c_ev l D a cA N f ob tr nd _ hB2 hG2 ho2) (cwV 0 htb (wb_V kM_X4_85 kI_X4_giveWhenChanged kS_X4_giveWhenChanged kN_X4 kD_X4_giveWhenChanged) rfl rfl rfl (by decide +kernel) ⟨Nat.le_of_ble_eq_true rfl, Nat.le_of_ble_eq_true rfl⟩) (zp_VW 0 rfl rfl hP hD hK hSt hS hA hnw) rfl rfl hl.1 rfl (lv_room (Nat.le_of_ble_eq_true rfl)) dX4_frame_141 ⟨Nat.le_of_ble_eq_true rfl, Nat.le_of_ble_eq_true rfl⟩) hD hS hA (fun H locs hP hD hS => ?_)
    have hP : va_P D vwCl (cw a cA N f (kEv N f ob nd) tr (nEv f nd)) H := hP
    have hD : va_D A (cw a cA N f (kEv N f ob nd) tr (nEv f nd)) := hD
    refine lv_aload_n hx hb dX4_frame_144 rfl (lv_at hl 1 rfl) ?_
    refine va_get (D := D) (ci := 4) (v := .ref (a 5)) (fs := [.int N, .ref (a 1), .ref (a 3), .ref (a 4), .ref (a 5), .ref (a 7), .int ((nEv f nd).1), .int ((nEv f nd).2.1), .int ((nEv f nd).2.2.1), .long ((nEv f nd).2.2.2)]) (C := RX4) (T := TX4) (N := 10) hx hb htb inX4 hown hK hP 0 rfl rfl 4 (by decide) (htb _ kF_X4_44) (fun _ h9 => h9) rfl dX4_frame_145 ?_
    refine va_getN (D := D) (ci := 2) (v := .int ((kEv N f ob nd).2.2)) (fs := [.ref (a 6), .int ((kEv N f ob nd).2.1), .int ((kEv N f ob nd).2.2)]) (C := RX2) (T := TX2) (N := 3) hx hb htb inX2 hown hK hP 5 rfl rfl 2 (by decide) (va_Nw.use rfl (hnw _ kT_X4_61)) (fun _ h9 => h9) rfl dX4_frame_148 ?_
    refine lv_iload hx hb dX4_frame_151 (lv_at hl 0 rfl) ?_
    refine lv_isub hx hb dX4_frame_153 ?_
    rw [hQ]
    have hw9 : (cw a cA N f (kEv N f ob nd) tr (nEv f nd)) = (c4 a cA N (kEnd N (kMid N f ob tr nd fid ln lo hg e0 d0 ad0))) := by rw [hmid]; rfl
    exact W.iret (v := ((kEv N f ob nd).2.2) - ob.2.2) hx hb hr (fun t ht hW => ⟨congrArg (fun z => Outcome.returned (some (Value.int z))) (by rw [hmid]; rfl), by rw [ht, ← hw9]; exact hP, by rw [← hw9]; exact hD, hS.F ht⟩) hS.2.2 dX4_frame_154
set_option maxHeartbeats 4000000 in
set_option maxRecDepth 100000 in
theorem x_frame (l : Launch) (D : va_G) (a : Nat → Nat) (cA : ClassId) (N : Int32) (f : Nat → Int32) (ob : OB) (tr : TR) (nd : ND) (fid ln lo hg : Int32) (hbad : fid < 0 ∨ 2047 < fid ∨ ln < 0 ∨ 8 < ln) (hfl : l.flags = pinnedFlags ++ [noTraceFlag]) : tm_Met l yX4_frame (wX4_frame :: wb) ({ frames := 6, cells := 1, slots := 6, locals := 140 } : Room) (va_Pc [.ref (a 0), .int fid, .int ln, .int lo, .int hg] (zPt D [(cA, .int)] (cw a cA N f ob tr nd))) xIAE 1 6 := by
  refine tm_ofW (cc := cX4_frame) (maxL := 6) (ret := (some .int)) (by decide) rfl ?_
  intro p ev s m args below meth c s₁ B hml hv
  obtain ⟨rfl, ⟨hP, hK, hSt, hnw⟩, htw⟩ := hv
  have hx := B.exec
  have hb := B.bytes
  have hr := B.returns
  have hts := atoms_spec (ws := wX4_frame :: wb) B.pre
  have htb : ∀ w ∈ wb, w.before ([.ref (a 0), .int fid, .int ln, .int lo, .int hg]).toArray s = true := fun w h => hts w (List.mem_cons_of_mem _ h)
  have hown : s.vm.findClass RX4 = some m.cls := findClass_of_methodNamed B.named
  have hlocks := B.notSynchronized
  have hS : va_S (fun _ => False) s.heap s.heap [] := va_S.rf
  obtain ⟨⟨tt, ff, hZT, hTT, hZF, hTF⟩, hXS⟩ := id hSt
  have hl := lv_entry ([.ref (a 0), .int fid, .int ln, .int lo, .int hg]) (n := 6) (Nat.le_of_ble_eq_true rfl)
  rw [lg_entry_eq]
  generalize (lg_sl ([.ref (a 0), .int fid, .int ln, .int lo, .int hg]) ++ List.replicate (6 - (lg_sl ([.ref (a 0), .int fid, .int ln, .int lo, .int hg])).length) Slot.unset).toArray = ls at hl ⊢
  have hl : lv_has ls 6 [(0, .ref (a 0)), (1, .int fid), (2, .int ln), (3, .int lo), (4, .int hg)] := hl
  refine zb_abs (fun Q hQ => ?_)
  refine lv_iload_n hx hb dX4_frame_0 rfl (lv_at hl 1 rfl) ?_
  refine lv_if_lt (tgt := 21) hx hb dX4_frame_1 (by decide) (fun hc1 => ?_) (fun hc1 => ?_)
  · rw [hQ]
    exact tm_throwNew hx hb (Launch.traces_off hfl B.admits) hown (by decide) (by decide) (own_frame htb htw hXS) (htb _ kC_X4_58) (htb _ kN_IllegalArgumentException) (hl.1.trans hml.symm) dX4_frame_21 dX4_frame_24 dX4_frame_25 dX4_frame_28 (B.noHandlers (hts _ List.mem_cons_self)) hlocks (by decide) (Nat.le_of_ble_eq_true rfl) (by decide) (by decide)
  refine lv_iload_n hx hb dX4_frame_4 rfl (lv_at hl 1 rfl) ?_
  refine lv_sipush (v := 2047) hx hb dX4_frame_5 (by decide) ?_
  refine lv_icmp_gt (tgt := 21) hx hb dX4_frame_8 (by decide) (fun hc2 => ?_) (fun hc2 => ?_)
  · rw [hQ]
    exact tm_throwNew hx hb (Launch.traces_off hfl B.admits) hown (by decide) (by decide) (own_frame htb htw hXS) (htb _ kC_X4_58) (htb _ kN_IllegalArgumentException) (hl.1.trans hml.symm) dX4_frame_21 dX4_frame_24 dX4_frame_25 dX4_frame_28 (B.noHandlers (hts _ List.mem_cons_self)) hlocks (by decide) (Nat.le_of_ble_eq_true rfl) (by decide) (by decide)
  refine lv_iload_n hx hb dX4_frame_11 rfl (lv_at hl 2 rfl) ?_
  refine lv_if_lt (tgt := 21) hx hb dX4_frame_12 (by decide) (fun hc3 => ?_) (fun hc3 => ?_)
  · rw [hQ]
    exact tm_throwNew hx hb (Launch.traces_off hfl B.admits) hown (by decide) (by decide) (own_frame htb htw hXS) (htb _ kC_X4_58) (htb _ kN_IllegalArgumentException) (hl.1.trans hml.symm) dX4_frame_21 dX4_frame_24 dX4_frame_25 dX4_frame_28 (B.noHandlers (hts _ List.mem_cons_self)) hlocks (by decide) (Nat.le_of_ble_eq_true rfl) (by decide) (by decide)
  refine lv_iload_n hx hb dX4_frame_15 rfl (lv_at hl 2 rfl) ?_
  refine lv_bipush (v := 8) hx hb dX4_frame_16 (by decide) ?_
  refine lv_icmp_le (tgt := 29) hx hb dX4_frame_18 (by decide) (fun hc4 => ?_) (fun hc4 => ?_)
  · exact absurd hbad (by rintro (h | h | h | h); exact hc1 h; exact hc2 h; exact hc3 h; exact Int32.not_lt.mpr hc4 h)
  rw [hQ]
  exact tm_throwNew hx hb (Launch.traces_off hfl B.admits) hown (by decide) (by decide) (own_frame htb htw hXS) (htb _ kC_X4_58) (htb _ kN_IllegalArgumentException) (hl.1.trans hml.symm) dX4_frame_21 dX4_frame_24 dX4_frame_25 dX4_frame_28 (B.noHandlers (hts _ List.mem_cons_self)) hlocks (by decide) (Nat.le_of_ble_eq_true rfl) (by decide) (by decide)
set_option maxHeartbeats 4000000 in
set_option maxRecDepth 100000 in
theorem c_tick (l : Launch) (D : va_G) (a : Nat → Nat) (cA : ClassId) (N : Int32) (f : Nat → Int32) (ob : OB) (tr : TR) (nd : ND) (sz : Nat) (sv ad0 : Nat) (hB : isB f) (ho : obK ob) (hst : nd.1 = nI sv) (hsv : sv < 128) (hada : tr.2.2.2.2.1 = nI ad0) (had0 : ad0 < 2 ^ 24) : Met l yX4_tick (wX4_tick :: wb) ({ frames := 3, cells := 0, slots := 0, locals := 70 } : Room) (va_Pc [.ref (a 0)] (zPre D [(cA, .int)] (cw a cA N f ob tr nd) sz)) (zb_Vi ((kTick N f ob tr nd sv ad0).2.1.2.2 - ob.2.2) D vwCl (c4 a cA N (kTick N f ob tr nd sv ad0)) (va_A (cw a cA N f ob tr nd) sz)) 0 0 (va_A (cw a cA N f ob tr nd) sz) := by
  refine Met.ofW (cc := cX4_tick) (maxL := 2) (ret := (some .int)) (by decide) rfl ?_
  intro p ev s m args below meth c s₁ B hml hv
  obtain ⟨rfl, hsz, hP, hK, hD0, hSt, hnw⟩ := hv
  have hx := B.exec
  have hb := B.bytes
  have hr := B.returns
  have hts := atoms_spec (ws := wX4_tick :: wb) B.pre
  have htb : ∀ w ∈ wb, w.before ([.ref (a 0)]).toArray s = true := fun w h => hts w (List.mem_cons_of_mem _ h)
  have hown : s.vm.findClass RX4 = some m.cls := findClass_of_methodNamed B.named
  have hlocks := B.notSynchronized
  subst hsz
  have hD := hD0.self (sz := s.heap.size)
  clear hD0
  generalize hAe : va_A (cw a cA N f ob tr nd) s.heap.size = A at hD hSt ⊢
  have hA : ∀ q : Nat, s.heap.size ≤ q → A q := fun q h => by rw [← hAe]; exact Or.inr h
  have hS : va_S A s.heap s.heap [] := va_S.rf
  obtain ⟨⟨tt, ff, hZT, hTT, hZF, hTF⟩, hXS⟩ := id hSt
  have hl := lv_entry ([.ref (a 0)]) (n := 2) (Nat.le_of_ble_eq_true rfl)
  rw [lg_entry_eq]
  generalize (lg_sl ([.ref (a 0)]) ++ List.replicate (2 - (lg_sl ([.ref (a 0)])).length) Slot.unset).toArray = ls at hl ⊢
  have hl : lv_has ls 2 [(0, .ref (a 0))] := hl
  refine zb_abs (fun Q hQ => ?_)
  refine lv_aload_n hx hb dX4_tick_0 rfl (lv_at hl 0 rfl) ?_
  refine va_get (D := D) (ci := 4) (v := .ref (a 5)) (fs := [.int N, .ref (a 1), .ref (a 3), .ref (a 4), .ref (a 5), .ref (a 7), .int nd.1, .int nd.2.1, .int nd.2.2.1, .long nd.2.2.2]) (C := RX4) (T := TX4) (N := 10) hx hb htb inX4 hown hK hP 0 rfl rfl 4 (by decide) (htb _ kF_X4_44) (fun _ h9 => h9) rfl dX4_tick_1 ?_
  refine va_getN (D := D) (ci := 2) (v := .int ob.2.2) (fs := [.ref (a 6), .int ob.2.1, .int ob.2.2]) (C := RX2) (T := TX2) (N := 3) hx hb htb inX2 hown hK hP 5 rfl rfl 2 (by decide) (va_Nw.use rfl (hnw _ kT_X4_61)) (fun _ h9 => h9) rfl dX4_tick_4 ?_
  refine lv_istore_n hx hb dX4_tick_7 rfl hl (by decide) rfl (fun ls hl => ?_)
  have hl : lv_has ls 2 [(1, .int ob.2.2), (0, .ref (a 0))] := hl
  refine lv_aload_n hx hb dX4_tick_8 rfl (lv_at hl 1 rfl) ?_
  refine zb_cv (va_runV (As := []) (rest := []) ⟨hx, hb, hml, hown, htb⟩ (c_beat l D a cA N f ob tr nd _ sv hB ho hst hsv) (cwV 0 htb (wb_V kM_X4_88 kI_X4_beat kS_X4_beat kN_X4 kD_X4_beat) rfl rfl rfl (by decide +kernel) ⟨Nat.le_of_ble_eq_true rfl, Nat.le_of_ble_eq_true rfl⟩) (zp_VW 0 rfl rfl hP hD hK hSt hS hA hnw) rfl rfl hl.1 rfl (lv_room (Nat.le_of_ble_eq_true rfl)) dX4_tick_9 ⟨Nat.le_of_ble_eq_true rfl, Nat.le_of_ble_eq_true rfl⟩) hD hS hA (fun H locs hP hD hS => ?_)
  have hP : va_P D vwCl (cw a cA N f (kBeat N f ob nd sv) tr (nBeat f nd)) H := hP
  have hD : va_D A (cw a cA N f (kBeat N f ob nd sv) tr (nBeat f nd)) := hD
  refine lv_aload_n hx hb dX4_tick_12 rfl (lv_at hl 1 rfl) ?_
  refine va_get (D := D) (ci := 4) (v := .ref (a 7)) (fs := [.int N, .ref (a 1), .ref (a 3), .ref (a 4), .ref (a 5), .ref (a 7), .int ((nBeat f nd).1), .int ((nBeat f nd).2.1), .int ((nBeat f nd).2.2.1), .long ((nBeat f nd).2.2.2)]) (C := RX4) (T := TX4) (N := 10) hx hb htb inX4 hown hK hP 0 rfl rfl 5 (by decide) (htb _ kF_X4_51) (fun _ h9 => h9) rfl dX4_tick_13 ?_
  refine va_getN (D := D) (ci := 3) (v := .int tr.2.1) (fs := [.ref (a 8), .int tr.2.1, .int tr.2.2.1, .int tr.2.2.2.1, .int tr.2.2.2.2.1, .int tr.2.2.2.2.2.1, .int tr.2.2.2.2.2.2.1, .int tr.2.2.2.2.2.2.2]) (C := RX3) (T := TX3) (N := 8) hx hb htb inX3 hown hK hP 7 rfl rfl 1 (by decide) (va_Nw.use rfl (hnw _ kT_X4_91)) (fun _ h9 => h9) rfl dX4_tick_16 ?_
  refine lv_if_eq (tgt := 60) hx hb dX4_tick_19 (by decide) (fun hc1 => ?_) (fun hc1 => ?_)
  · refine lv_aload_n hx hb dX4_tick_60 rfl (lv_at hl 1 rfl) ?_
    refine va_get (D := D) (ci := 4) (v := .ref (a 5)) (fs := [.int N, .ref (a 1), .ref (a 3), .ref (a 4), .ref (a 5), .ref (a 7), .int ((nBeat f nd).1), .int ((nBeat f nd).2.1), .int ((nBeat f nd).2.2.1), .long ((nBeat f nd).2.2.2)]) (C := RX4) (T := TX4) (N := 10) hx hb htb inX4 hown hK hP 0 rfl rfl 4 (by decide) (htb _ kF_X4_44) (fun _ h9 => h9) rfl dX4_tick_61 ?_
    refine va_getN (D := D) (ci := 2) (v := .int ((kBeat N f ob nd sv).2.2)) (fs := [.ref (a 6), .int ((kBeat N f ob nd sv).2.1), .int ((kBeat N f ob nd sv).2.2)]) (C := RX2) (T := TX2) (N := 3) hx hb htb inX2 hown hK hP 5 rfl rfl 2 (by decide) (va_Nw.use rfl (hnw _ kT_X4_61)) (fun _ h9 => h9) rfl dX4_tick_64 ?_
    refine lv_iload_n hx hb dX4_tick_67 rfl (lv_at hl 0 rfl) ?_
    refine lv_isub hx hb dX4_tick_68 ?_
    rw [hQ]
    have hw9 : (cw a cA N f (kBeat N f ob nd sv) tr (nBeat f nd)) = (c4 a cA N (kTick N f ob tr nd sv ad0)) := by simp only [kTick, if_pos hc1]; rfl
    exact W.iret (v := ((kBeat N f ob nd sv).2.2) - ob.2.2) hx hb hr (fun t ht hW => ⟨congrArg (fun z => Outcome.returned (some (Value.int z))) (by simp only [kTick, if_pos hc1]), by rw [ht, ← hw9]; exact hP, by rw [← hw9]; exact hD, hS.F ht⟩) hS.2.2 dX4_tick_69
  refine lv_aload_n hx hb dX4_tick_22 rfl (lv_at hl 1 rfl) ?_
  refine va_get (D := D) (ci := 4) (v := .ref (a 7)) (fs := [.int N, .ref (a 1), .ref (a 3), .ref (a 4), .ref (a 5), .ref (a 7), .int ((nBeat f nd).1), .int ((nBeat f nd).2.1), .int ((nBeat f nd).2.2.1), .long ((nBeat f nd).2.2.2)]) (C := RX4) (T := TX4) (N := 10) hx hb htb inX4 hown hK hP 0 rfl rfl 5 (by decide) (htb _ kF_X4_51) (fun _ h9 => h9) rfl dX4_tick_23 ?_
  refine lv_dup hx hb dX4_tick_26 rfl ?_
  refine va_getN (D := D) (ci := 3) (v := .int tr.2.2.2.2.2.2.2) (fs := [.ref (a 8), .int tr.2.1, .int tr.2.2.1, .int tr.2.2.2.1, .int tr.2.2.2.2.1, .int tr.2.2.2.2.2.1, .int tr.2.2.2.2.2.2.1, .int tr.2.2.2.2.2.2.2]) (C := RX3) (T := TX3) (N := 8) hx hb htb inX3 hown hK hP 7 rfl rfl 7 (by decide) (va_Nw.use rfl (hnw _ kT_X4_95)) (fun _ h9 => h9) rfl dX4_tick_27 ?_
  refine lv_iconst (v := 1) hx hb dX4_tick_30 (by decide) ?_
  refine lv_iadd hx hb dX4_tick_31 ?_
  refine va_putN (D := D) (ci := 3) (v := .int (tr.2.2.2.2.2.2.2 + 1)) (fs := [.ref (a 8), .int tr.2.1, .int tr.2.2.1, .int tr.2.2.2.1, .int tr.2.2.2.2.1, .int tr.2.2.2.2.2.1, .int tr.2.2.2.2.2.2.1, .int tr.2.2.2.2.2.2.2]) (ty := .int) (C := RX3) (T := TX3) (N := 8) hx hb htb inX3 tyX3 tyX3_ok nmX3 hown hK hP hD hS 7 rfl rfl 7 (by decide) (va_Nw.use rfl (hnw _ kT_X4_95)) (fun _ h9 => h9) rfl (by decide +kernel) rfl rfl (Nat.le_of_ble_eq_true rfl) dX4_tick_32 (fun H locs hP hD hS => ?_)
  have hP : va_P D vwCl (cw a cA N f (kBeat N f ob nd sv) (tr.1, tr.2.1, tr.2.2.1, tr.2.2.2.1, tr.2.2.2.2.1, tr.2.2.2.2.2.1, tr.2.2.2.2.2.2.1, tr.2.2.2.2.2.2.2 + 1) (nBeat f nd)) H := hP
  have hD : va_D A (cw a cA N f (kBeat N f ob nd sv) (tr.1, tr.2.1, tr.2.2.1, tr.2.2.2.1, tr.2.2.2.2.1, tr.2.2.2.2.2.1, tr.2.2.2.2.2.2.1, tr.2.2.2.2.2.2.2 + 1) (nBeat f nd)) := hD
  refine lv_aload_n hx hb dX4_tick_35 rfl (lv_at hl 1 rfl) ?_
  refine va_get (D := D) (ci := 4) (v := .ref (a 7)) (fs := [.int N, .ref (a 1), .ref (a 3), .ref (a 4), .ref (a 5), .ref (a 7), .int ((nBeat f nd).1), .int ((nBeat f nd).2.1), .int ((nBeat f nd).2.2.1), .long ((nBeat f nd).2.2.2)]) (C := RX4) (T := TX4) (N := 10) hx hb htb inX4 hown hK hP 0 rfl rfl 5 (by decide) (htb _ kF_X4_51) (fun _ h9 => h9) rfl dX4_tick_36 ?_
  refine va_getN (D := D) (ci := 3) (v := .int (tr.2.2.2.2.2.2.2 + 1)) (fs := [.ref (a 8), .int tr.2.1, .int tr.2.2.1, .int tr.2.2.2.1, .int tr.2.2.2.2.1, .int tr.2.2.2.2.2.1, .int tr.2.2.2.2.2.2.1, .int (tr.2.2.2.2.2.2.2 + 1)]) (C := RX3) (T := TX3) (N := 8) hx hb htb inX3 hown hK hP 7 rfl rfl 7 (by decide) (va_Nw.use rfl (hnw _ kT_X4_95)) (fun _ h9 => h9) rfl dX4_tick_39 ?_
  refine lv_bipush (v := 8) hx hb dX4_tick_42 (by decide) ?_
  refine lv_icmp_lt (tgt := 60) hx hb dX4_tick_44 (by decide) (fun hc2 => ?_) (fun hc2 => ?_)
  · refine lv_aload_n hx hb dX4_tick_60 rfl (lv_at hl 1 rfl) ?_
    refine va_get (D := D) (ci := 4) (v := .ref (a 5)) (fs := [.int N, .ref (a 1), .ref (a 3), .ref (a 4), .ref (a 5), .ref (a 7), .int ((nBeat f nd).1), .int ((nBeat f nd).2.1), .int ((nBeat f nd).2.2.1), .long ((nBeat f nd).2.2.2)]) (C := RX4) (T := TX4) (N := 10) hx hb htb inX4 hown hK hP 0 rfl rfl 4 (by decide) (htb _ kF_X4_44) (fun _ h9 => h9) rfl dX4_tick_61 ?_
    refine va_getN (D := D) (ci := 2) (v := .int ((kBeat N f ob nd sv).2.2)) (fs := [.ref (a 6), .int ((kBeat N f ob nd sv).2.1), .int ((kBeat N f ob nd sv).2.2)]) (C := RX2) (T := TX2) (N := 3) hx hb htb inX2 hown hK hP 5 rfl rfl 2 (by decide) (va_Nw.use rfl (hnw _ kT_X4_61)) (fun _ h9 => h9) rfl dX4_tick_64 ?_
    refine lv_iload_n hx hb dX4_tick_67 rfl (lv_at hl 0 rfl) ?_
    refine lv_isub hx hb dX4_tick_68 ?_
    rw [hQ]
    have hw9 : (cw a cA N f (kBeat N f ob nd sv) (tr.1, tr.2.1, tr.2.2.1, tr.2.2.2.1, tr.2.2.2.2.1, tr.2.2.2.2.2.1, tr.2.2.2.2.2.2.1, tr.2.2.2.2.2.2.2 + 1) (nBeat f nd)) = (c4 a cA N (kTick N f ob tr nd sv ad0)) := by simp only [kTick, if_neg hc1, if_pos hc2]; rfl
    exact W.iret (v := ((kBeat N f ob nd sv).2.2) - ob.2.2) hx hb hr (fun t ht hW => ⟨congrArg (fun z => Outcome.returned (some (Value.int z))) (by simp only [kTick, if_neg hc1, if_pos hc2]), by rw [ht, ← hw9]; exact hP, by rw [← hw9]; exact hD, hS.F ht⟩) hS.2.2 dX4_tick_69
  refine lv_aload_n hx hb dX4_tick_47 rfl (lv_at hl 1 rfl) ?_
  refine lv_aload_n hx hb dX4_tick_48 rfl (lv_at hl 1 rfl) ?_
  refine va_get (D := D) (ci := 4) (v := .ref (a 7)) (fs := [.int N, .ref (a 1), .ref (a 3), .ref (a 4), .ref (a 5), .ref (a 7), .int ((nBeat f nd).1), .int ((nBeat f nd).2.1), .int ((nBeat f nd).2.2.1), .long ((nBeat f nd).2.2.2)]) (C := RX4) (T := TX4) (N := 10) hx hb htb inX4 hown hK hP 0 rfl rfl 5 (by decide) (htb _ kF_X4_51) (fun _ h9 => h9) rfl dX4_tick_49 ?_
  refine va_getN (D := D) (ci := 3) (v := .int tr.2.2.2.2.1) (fs := [.ref (a 8), .int tr.2.1, .int tr.2.2.1, .int tr.2.2.2.1, .int tr.2.2.2.2.1, .int tr.2.2.2.2.2.1, .int tr.2.2.2.2.2.2.1, .int (tr.2.2.2.2.2.2.2 + 1)]) (C := RX3) (T := TX3) (N := 8) hx hb htb inX3 hown hK hP 7 rfl rfl 4 (by decide) (va_Nw.use rfl (hnw _ kT_X4_98)) (fun _ h9 => h9) rfl dX4_tick_52 ?_
  refine zb_ti (y := nI ad0) (hada) ?_
  refine lv_ldc (v := 84148224) hx hb hown (htb _ kK_X4_101) dX4_tick_55 ?_
  refine zb_cv (va_runV (As := [.int (nI ad0), .int 84148224]) (rest := []) ⟨hx, hb, hml, hown, htb⟩ (c_abort l D a cA N f (kBeat N f ob nd sv) (tr.1, tr.2.1, tr.2.2.1, tr.2.2.2.1, tr.2.2.2.2.1, tr.2.2.2.2.2.1, tr.2.2.2.2.2.2.1, tr.2.2.2.2.2.2.2 + 1) (nBeat f nd) _ ad0 84148224 (obK_beat ho) had0 (by decide)) (cwV 2 htb (wb_V kM_X4_102 kI_X4_abort kS_X4_abort kN_X4 kD_X4_abort) rfl rfl rfl (by decide +kernel) ⟨Nat.le_of_ble_eq_true rfl, Nat.le_of_ble_eq_true rfl⟩) (zp_VW 0 rfl rfl hP hD hK hSt hS hA hnw) rfl rfl hl.1 rfl (lv_room (Nat.le_of_ble_eq_true rfl)) dX4_tick_57 ⟨Nat.le_of_ble_eq_true rfl, Nat.le_of_ble_eq_true rfl⟩) hD hS hA (fun H locs hP hD hS => ?_)
  have hP : va_P D vwCl (cw a cA N f (kAns N (kBeat N f ob nd sv) 128 ad0 84148224) (tr_end (tr.1, tr.2.1, tr.2.2.1, tr.2.2.2.1, tr.2.2.2.2.1, tr.2.2.2.2.2.1, tr.2.2.2.2.2.2.1, tr.2.2.2.2.2.2.2 + 1)) (nBeat f nd)) H := hP
  have hD : va_D A (cw a cA N f (kAns N (kBeat N f ob nd sv) 128 ad0 84148224) (tr_end (tr.1, tr.2.1, tr.2.2.1, tr.2.2.2.1, tr.2.2.2.2.1, tr.2.2.2.2.2.1, tr.2.2.2.2.2.2.1, tr.2.2.2.2.2.2.2 + 1)) (nBeat f nd)) := hD
  refine lv_aload_n hx hb dX4_tick_60 rfl (lv_at hl 1 rfl) ?_
  refine va_get (D := D) (ci := 4) (v := .ref (a 5)) (fs := [.int N, .ref (a 1), .ref (a 3), .ref (a 4), .ref (a 5), .ref (a 7), .int ((nBeat f nd).1), .int ((nBeat f nd).2.1), .int ((nBeat f nd).2.2.1), .long ((nBeat f nd).2.2.2)]) (C := RX4) (T := TX4) (N := 10) hx hb htb inX4 hown hK hP 0 rfl rfl 4 (by decide) (htb _ kF_X4_44) (fun _ h9 => h9) rfl dX4_tick_61 ?_
  refine va_getN (D := D) (ci := 2) (v := .int ((kAns N (kBeat N f ob nd sv) 128 ad0 84148224).2.2)) (fs := [.ref (a 6), .int ((kAns N (kBeat N f ob nd sv) 128 ad0 84148224).2.1), .int ((kAns N (kBeat N f ob nd sv) 128 ad0 84148224).2.2)]) (C := RX2) (T := TX2) (N := 3) hx hb htb inX2 hown hK hP 5 rfl rfl 2 (by decide) (va_Nw.use rfl (hnw _ kT_X4_61)) (fun _ h9 => h9) rfl dX4_tick_64 ?_
  refine lv_iload_n hx hb dX4_tick_67 rfl (lv_at hl 0 rfl) ?_
  refine lv_isub hx hb dX4_tick_68 ?_
  rw [hQ]
  have hw9 : (cw a cA N f (kAns N (kBeat N f ob nd sv) 128 ad0 84148224) (tr_end (tr.1, tr.2.1, tr.2.2.1, tr.2.2.2.1, tr.2.2.2.2.1, tr.2.2.2.2.2.1, tr.2.2.2.2.2.2.1, tr.2.2.2.2.2.2.2 + 1)) (nBeat f nd)) = (c4 a cA N (kTick N f ob tr nd sv ad0)) := by simp only [kTick, if_neg hc1, if_neg hc2]; rfl
  exact W.iret (v := ((kAns N (kBeat N f ob nd sv) 128 ad0 84148224).2.2) - ob.2.2) hx hb hr (fun t ht hW => ⟨congrArg (fun z => Outcome.returned (some (Value.int z))) (by simp only [kTick, if_neg hc1, if_neg hc2]), by rw [ht, ← hw9]; exact hP, by rw [← hw9]; exact hD, hS.F ht⟩) hS.2.2 dX4_tick_69
set_option maxHeartbeats 4000000 in
set_option maxRecDepth 100000 in
theorem c_set (l : Launch) (D : va_G) (a : Nat → Nat) (cA : ClassId) (N : Int32) (f : Nat → Int32) (ob : OB) (tr : TR) (nd : ND) (sz : Nat) (i sb : Int32) (lo hg e : Nat) (hfd : fd i sb = some e) (h14 : 14 ≤ e) (hz8 : xZ e ≤ 8) (ho : obK ob) (hlo : lo < 2 ^ 32) (hhg : hg < 2 ^ 32) (hB2 : isB (pF f (xP e) (xZ e) (lo + 4294967296 * hg) 0)) (hG2 : mapK (pF f (xP e) (xZ e) (lo + 4294967296 * hg) 0) 9 5) : Met l yX4_set (wX4_set :: wb) ({ frames := 6, cells := 0, slots := 0, locals := 135 } : Room) (va_Pc [.ref (a 0), .int i, .int sb, .int (nI lo), .int (nI hg)] (zPre D [(cA, .int)] (cw a cA N f ob tr nd) sz)) (zb_Vi ((kSet N f ob tr nd e (lo + 4294967296 * hg)).2.1.2.2 - ob.2.2) D vwCl (c4 a cA N (kSet N f ob tr nd e (lo + 4294967296 * hg))) (va_A (cw a cA N f ob tr nd) sz)) 0 0 (va_A (cw a cA N f ob tr nd) sz) := by
  refine Met.ofW (cc := cX4_set) (maxL := 7) (ret := (some .int)) (by decide) rfl ?_
  intro p ev s m args below meth c s₁ B hml hv
  obtain ⟨rfl, hsz, hP, hK, hD0, hSt, hnw⟩ := hv
  have hx := B.exec
  have hb := B.bytes
  have hr := B.returns
  have hts := atoms_spec (ws := wX4_set :: wb) B.pre
  have htb : ∀ w ∈ wb, w.before ([.ref (a 0), .int i, .int sb, .int (nI lo), .int (nI hg)]).toArray s = true := fun w h => hts w (List.mem_cons_of_mem _ h)
  have hown : s.vm.findClass RX4 = some m.cls := findClass_of_methodNamed B.named
  have hlocks := B.notSynchronized
  subst hsz
  have hD := hD0.self (sz := s.heap.size)
  clear hD0
  generalize hAe : va_A (cw a cA N f ob tr nd) s.heap.size = A at hD hSt ⊢
  have hA : ∀ q : Nat, s.heap.size ≤ q → A q := fun q h => by rw [← hAe]; exact Or.inr h
  have hS : va_S A s.heap s.heap [] := va_S.rf
  obtain ⟨⟨tt, ff, hZT, hTT, hZF, hTF⟩, hXS⟩ := id hSt
  have hl := lv_entry ([.ref (a 0), .int i, .int sb, .int (nI lo), .int (nI hg)]) (n := 7) (Nat.le_of_ble_eq_true rfl)
  rw [lg_entry_eq]
  generalize (lg_sl ([.ref (a 0), .int i, .int sb, .int (nI lo), .int (nI hg)]) ++ List.replicate (7 - (lg_sl ([.ref (a 0), .int i, .int sb, .int (nI lo), .int (nI hg)])).length) Slot.unset).toArray = ls at hl ⊢
  have hl : lv_has ls 7 [(0, .ref (a 0)), (1, .int i), (2, .int sb), (3, .int (nI lo)), (4, .int (nI hg))] := hl
  refine zb_abs (fun Q hQ => ?_)
  refine lv_aload_n hx hb dX4_set_0 rfl (lv_at hl 0 rfl) ?_
  refine va_get (D := D) (ci := 4) (v := .ref (a 1)) (fs := [.int N, .ref (a 1), .ref (a 3), .ref (a 4), .ref (a 5), .ref (a 7), .int nd.1, .int nd.2.1, .int nd.2.2.1, .long nd.2.2.2]) (C := RX4) (T := TX4) (N := 10) hx hb htb inX4 hown hK hP 0 rfl rfl 1 (by decide) (htb _ kF_X4_25) (fun _ h9 => h9) rfl dX4_set_1 ?_
  refine lv_iload_n hx hb dX4_set_4 rfl (lv_at hl 1 rfl) ?_
  refine lv_iload_n hx hb dX4_set_5 rfl (lv_at hl 2 rfl) ?_
  refine zb_ci (va_runV (As := [.int i, .int sb]) (rest := []) ⟨hx, hb, hml, hown, htb⟩ (c_find l D a cA N f ob tr nd i sb) (cwV 2 htb (wb_V kM_X4_105 kI_X0_find kS_X0_find kN_X0 kD_X0_find) rfl rfl rfl (by decide +kernel) ⟨Nat.le_of_ble_eq_true rfl, Nat.le_of_ble_eq_true rfl⟩) (zp_V 1 rfl rfl hP hK hSt hS hnw) rfl rfl hl.1 rfl (lv_room (Nat.le_of_ble_eq_true rfl)) dX4_set_6 ⟨Nat.le_of_ble_eq_true rfl, Nat.le_of_ble_eq_true rfl⟩) ?_
  refine zb_ti (y := nI e) (by rw [hfd]; rfl) ?_
  refine lv_istore hx hb dX4_set_9 hl (by decide) rfl (fun ls hl => ?_)
  have hl : lv_has ls 7 [(5, .int (nI e)), (0, .ref (a 0)), (1, .int i), (2, .int sb), (3, .int (nI lo)), (4, .int (nI hg))] := hl
  refine lv_iload hx hb dX4_set_11 (lv_at hl 0 rfl) ?_
  refine lv_bipush (v := 14) hx hb dX4_set_13 (by decide) ?_
  refine lv_icmp_lt (tgt := 28) hx hb dX4_set_15 (by decide) (fun hno => absurd hno (nI_nlt (b := 14) h14 (by have := (fd_lt hfd).1; omega))) (fun _ => ?_)
  refine lv_iload hx hb dX4_set_18 (lv_at hl 0 rfl) ?_
  refine zb_ci (va_runS (As := [.int (nI e)]) (rest := []) ⟨hx, hb, hml, hown, htb⟩ (c_sizeOf l D a cA N f ob tr nd e (fd_lt hfd).1) (va_cwS 1 htb (wb_S kM_X4_108 kZ_X0_sizeOf kN_X0 kD_X0_sizeOf) rfl rfl rfl (by decide +kernel) ⟨Nat.le_of_ble_eq_true rfl, Nat.le_of_ble_eq_true rfl⟩) (zp_S hP hK hSt hS hnw) rfl rfl hl.1 rfl (lv_room (Nat.le_of_ble_eq_true rfl)) dX4_set_20 ⟨Nat.le_of_ble_eq_true rfl, Nat.le_of_ble_eq_true rfl⟩) ?_
  refine lv_bipush (v := 8) hx hb dX4_set_23 (by decide) ?_
  refine lv_icmp_le (tgt := 36) hx hb dX4_set_25 (by decide) (fun _ => ?_) (fun hno => absurd (nI_le (b := 8) hz8 (by decide)) hno)
  refine lv_aload_n hx hb dX4_set_36 rfl (lv_at hl 1 rfl) ?_
  refine va_get (D := D) (ci := 4) (v := .ref (a 5)) (fs := [.int N, .ref (a 1), .ref (a 3), .ref (a 4), .ref (a 5), .ref (a 7), .int nd.1, .int nd.2.1, .int nd.2.2.1, .long nd.2.2.2]) (C := RX4) (T := TX4) (N := 10) hx hb htb inX4 hown hK hP 0 rfl rfl 4 (by decide) (htb _ kF_X4_44) (fun _ h9 => h9) rfl dX4_set_37 ?_
  refine va_getN (D := D) (ci := 2) (v := .int ob.2.2) (fs := [.ref (a 6), .int ob.2.1, .int ob.2.2]) (C := RX2) (T := TX2) (N := 3) hx hb htb inX2 hown hK hP 5 rfl rfl 2 (by decide) (va_Nw.use rfl (hnw _ kT_X4_61)) (fun _ h9 => h9) rfl dX4_set_40 ?_
  refine lv_istore hx hb dX4_set_43 hl (by decide) rfl (fun ls hl => ?_)
  have hl : lv_has ls 7 [(6, .int ob.2.2), (5, .int (nI e)), (0, .ref (a 0)), (1, .int i), (2, .int sb), (3, .int (nI lo)), (4, .int (nI hg))] := hl
  refine lv_aload_n hx hb dX4_set_45 rfl (lv_at hl 2 rfl) ?_
  refine va_get (D := D) (ci := 4) (v := .ref (a 1)) (fs := [.int N, .ref (a 1), .ref (a 3), .ref (a 4), .ref (a 5), .ref (a 7), .int nd.1, .int nd.2.1, .int nd.2.2.1, .long nd.2.2.2]) (C := RX4) (T := TX4) (N := 10) hx hb htb inX4 hown hK hP 0 rfl rfl 1 (by decide) (htb _ kF_X4_25) (fun _ h9 => h9) rfl dX4_set_46 ?_
  refine lv_iload hx hb dX4_set_49 (lv_at hl 1 rfl) ?_
  refine lv_iload_n hx hb dX4_set_51 rfl (lv_at hl 5 rfl) ?_
  refine lv_iload hx hb dX4_set_52 (lv_at hl 6 rfl) ?_
  refine zb_cl (va_runS (As := [.int (nI lo), .int (nI hg)]) (rest := [.int (nI e), .ref (a 1)]) ⟨hx, hb, hml, hown, htb⟩ (c_joined l D a cA N f ob tr nd lo hg hlo hhg) (va_cwS 2 htb (wb_S kM_X4_71 kZ_X4_joined kN_X4 kD_X4_joined) rfl rfl rfl (by decide +kernel) ⟨Nat.le_of_ble_eq_true rfl, Nat.le_of_ble_eq_true rfl⟩) (zp_S hP hK hSt hS hnw) rfl rfl hl.1 rfl (lv_room (Nat.le_of_ble_eq_true rfl)) dX4_set_54 ⟨Nat.le_of_ble_eq_true rfl, Nat.le_of_ble_eq_true rfl⟩) ?_
  refine zb_cv (va_runV (As := [.int (nI e), .long (lN (lo + 4294967296 * hg))]) (rest := []) ⟨hx, hb, hml, hown, htb⟩ (c_put l D a cA N f ob tr nd _ e (lo + 4294967296 * hg) (fd_lt hfd).1 hz8 (by omega)) (cwV 2 htb (wb_V kM_X4_115 kI_X0_put kS_X0_put kN_X0 kD_X0_put) rfl rfl rfl (by decide +kernel) ⟨Nat.le_of_ble_eq_true rfl, Nat.le_of_ble_eq_true rfl⟩) (zp_VW 1 rfl rfl hP hD hK hSt hS hA hnw) rfl rfl hl.1 rfl (lv_room (Nat.le_of_ble_eq_true rfl)) dX4_set_57 ⟨Nat.le_of_ble_eq_true rfl, Nat.le_of_ble_eq_true rfl⟩) hD hS hA (fun H locs hP hD hS => ?_)
  have hP : va_P D vwCl (cw a cA N (pF f (xP e) (xZ e) (lo + 4294967296 * hg) 0) ob tr nd) H := hP
  have hD : va_D A (cw a cA N (pF f (xP e) (xZ e) (lo + 4294967296 * hg) 0) ob tr nd) := hD
  refine lv_aload_n hx hb dX4_set_60 rfl (lv_at hl 2 rfl) ?_
  refine zb_cv (va_runV (As := []) (rest := []) ⟨hx, hb, hml, hown, htb⟩ (c_ev l D a cA N (pF f (xP e) (xZ e) (lo + 4294967296 * hg) 0) ob tr nd _ hB2 hG2 ho) (cwV 0 htb (wb_V kM_X4_85 kI_X4_giveWhenChanged kS_X4_giveWhenChanged kN_X4 kD_X4_giveWhenChanged) rfl rfl rfl (by decide +kernel) ⟨Nat.le_of_ble_eq_true rfl, Nat.le_of_ble_eq_true rfl⟩) (zp_VW 0 rfl rfl hP hD hK hSt hS hA hnw) rfl rfl hl.1 rfl (lv_room (Nat.le_of_ble_eq_true rfl)) dX4_set_61 ⟨Nat.le_of_ble_eq_true rfl, Nat.le_of_ble_eq_true rfl⟩) hD hS hA (fun H locs hP hD hS => ?_)
  have hP : va_P D vwCl (cw a cA N (pF f (xP e) (xZ e) (lo + 4294967296 * hg) 0) (kEv N (pF f (xP e) (xZ e) (lo + 4294967296 * hg) 0) ob nd) tr (nEv (pF f (xP e) (xZ e) (lo + 4294967296 * hg) 0) nd)) H := hP
  have hD : va_D A (cw a cA N (pF f (xP e) (xZ e) (lo + 4294967296 * hg) 0) (kEv N (pF f (xP e) (xZ e) (lo + 4294967296 * hg) 0) ob nd) tr (nEv (pF f (xP e) (xZ e) (lo + 4294967296 * hg) 0) nd)) := hD
  refine lv_aload_n hx hb dX4_set_64 rfl (lv_at hl 2 rfl) ?_
  refine va_get (D := D) (ci := 4) (v := .ref (a 5)) (fs := [.int N, .ref (a 1), .ref (a 3), .ref (a 4), .ref (a 5), .ref (a 7), .int ((nEv (pF f (xP e) (xZ e) (lo + 4294967296 * hg) 0) nd).1), .int ((nEv (pF f (xP e) (xZ e) (lo + 4294967296 * hg) 0) nd).2.1), .int ((nEv (pF f (xP e) (xZ e) (lo + 4294967296 * hg) 0) nd).2.2.1), .long ((nEv (pF f (xP e) (xZ e) (lo + 4294967296 * hg) 0) nd).2.2.2)]) (C := RX4) (T := TX4) (N := 10) hx hb htb inX4 hown hK hP 0 rfl rfl 4 (by decide) (htb _ kF_X4_44) (fun _ h9 => h9) rfl dX4_set_65 ?_
  refine va_getN (D := D) (ci := 2) (v := .int ((kEv N (pF f (xP e) (xZ e) (lo + 4294967296 * hg) 0) ob nd).2.2)) (fs := [.ref (a 6), .int ((kEv N (pF f (xP e) (xZ e) (lo + 4294967296 * hg) 0) ob nd).2.1), .int ((kEv N (pF f (xP e) (xZ e) (lo + 4294967296 * hg) 0) ob nd).2.2)]) (C := RX2) (T := TX2) (N := 3) hx hb htb inX2 hown hK hP 5 rfl rfl 2 (by decide) (va_Nw.use rfl (hnw _ kT_X4_61)) (fun _ h9 => h9) rfl dX4_set_68 ?_
  refine lv_iload hx hb dX4_set_71 (lv_at hl 0 rfl) ?_
  refine lv_isub hx hb dX4_set_73 ?_
  rw [hQ]
  have hw9 : (cw a cA N (pF f (xP e) (xZ e) (lo + 4294967296 * hg) 0) (kEv N (pF f (xP e) (xZ e) (lo + 4294967296 * hg) 0) ob nd) tr (nEv (pF f (xP e) (xZ e) (lo + 4294967296 * hg) 0) nd)) = (c4 a cA N (kSet N f ob tr nd e (lo + 4294967296 * hg))) := rfl
  exact W.iret (v := ((kEv N (pF f (xP e) (xZ e) (lo + 4294967296 * hg) 0) ob nd).2.2) - ob.2.2) hx hb hr (fun t ht hW => ⟨congrArg (fun z => Outcome.returned (some (Value.int z))) (rfl), by rw [ht, ← hw9]; exact hP, by rw [← hw9]; exact hD, hS.F ht⟩) hS.2.2 dX4_set_74
set_option maxHeartbeats 4000000 in
set_option maxRecDepth 100000 in
theorem x_set (l : Launch) (D : va_G) (a : Nat → Nat) (cA : ClassId) (N : Int32) (f : Nat → Int32) (ob : OB) (tr : TR) (nd : ND) (i sb lo hg : Int32) (hbad : fd i sb = none ∨ ∃ e, fd i sb = some e ∧ (e < 14 ∨ 8 < xZ e)) (hfl : l.flags = pinnedFlags ++ [noTraceFlag]) : tm_Met l yX4_set (wX4_set :: wb) ({ frames := 6, cells := 1, slots := 6, locals := 140 } : Room) (va_Pc [.ref (a 0), .int i, .int sb, .int lo, .int hg] (zPt D [(cA, .int)] (cw a cA N f ob tr nd))) xNSE 1 6 := by
  refine tm_ofW (cc := cX4_set) (maxL := 7) (ret := (some .int)) (by decide) rfl ?_
  intro p ev s m args below meth c s₁ B hml hv
  obtain ⟨rfl, ⟨hP, hK, hSt, hnw⟩, htw⟩ := hv
  have hx := B.exec
  have hb := B.bytes
  have hr := B.returns
  have hts := atoms_spec (ws := wX4_set :: wb) B.pre
  have htb : ∀ w ∈ wb, w.before ([.ref (a 0), .int i, .int sb, .int lo, .int hg]).toArray s = true := fun w h => hts w (List.mem_cons_of_mem _ h)
  have hown : s.vm.findClass RX4 = some m.cls := findClass_of_methodNamed B.named
  have hlocks := B.notSynchronized
  have hS : va_S (fun _ => False) s.heap s.heap [] := va_S.rf
  obtain ⟨⟨tt, ff, hZT, hTT, hZF, hTF⟩, hXS⟩ := id hSt
  have hl := lv_entry ([.ref (a 0), .int i, .int sb, .int lo, .int hg]) (n := 7) (Nat.le_of_ble_eq_true rfl)
  rw [lg_entry_eq]
  generalize (lg_sl ([.ref (a 0), .int i, .int sb, .int lo, .int hg]) ++ List.replicate (7 - (lg_sl ([.ref (a 0), .int i, .int sb, .int lo, .int hg])).length) Slot.unset).toArray = ls at hl ⊢
  have hl : lv_has ls 7 [(0, .ref (a 0)), (1, .int i), (2, .int sb), (3, .int lo), (4, .int hg)] := hl
  refine zb_abs (fun Q hQ => ?_)
  refine lv_aload_n hx hb dX4_set_0 rfl (lv_at hl 0 rfl) ?_
  refine va_get (D := D) (ci := 4) (v := .ref (a 1)) (fs := [.int N, .ref (a 1), .ref (a 3), .ref (a 4), .ref (a 5), .ref (a 7), .int nd.1, .int nd.2.1, .int nd.2.2.1, .long nd.2.2.2]) (C := RX4) (T := TX4) (N := 10) hx hb htb inX4 hown hK hP 0 rfl rfl 1 (by decide) (htb _ kF_X4_25) (fun _ h9 => h9) rfl dX4_set_1 ?_
  refine lv_iload_n hx hb dX4_set_4 rfl (lv_at hl 1 rfl) ?_
  refine lv_iload_n hx hb dX4_set_5 rfl (lv_at hl 2 rfl) ?_
  refine zb_ci (va_runV (As := [.int i, .int sb]) (rest := []) ⟨hx, hb, hml, hown, htb⟩ (c_find l D a cA N f ob tr nd i sb) (cwV 2 htb (wb_V kM_X4_105 kI_X0_find kS_X0_find kN_X0 kD_X0_find) rfl rfl rfl (by decide +kernel) ⟨Nat.le_of_ble_eq_true rfl, Nat.le_of_ble_eq_true rfl⟩) (zp_V 1 rfl rfl hP hK hSt hS hnw) rfl rfl hl.1 rfl (lv_room (Nat.le_of_ble_eq_true rfl)) dX4_set_6 ⟨Nat.le_of_ble_eq_true rfl, Nat.le_of_ble_eq_true rfl⟩) ?_
  cases hfd : fd i sb with
  | none =>
    refine zb_ti (y := (-1)) (rfl) ?_
    refine lv_istore hx hb dX4_set_9 hl (by decide) rfl (fun ls hl => ?_)
    have hl : lv_has ls 7 [(5, .int (-1)), (0, .ref (a 0)), (1, .int i), (2, .int sb), (3, .int lo), (4, .int hg)] := hl
    refine lv_iload hx hb dX4_set_11 (lv_at hl 0 rfl) ?_
    refine lv_bipush (v := 14) hx hb dX4_set_13 (by decide) ?_
    refine lv_icmp_lt (tgt := 28) hx hb dX4_set_15 (by decide) (fun _ => ?_) (fun hno => absurd (by decide) hno)
    rw [hQ]
    exact tm_throwNew hx hb (Launch.traces_off hfl B.admits) hown (by decide) (by decide) (own_nse htb htw hXS) (htb _ kC_X4_112) (htb _ kN_NoSuchElementException) (hl.1.trans hml.symm) dX4_set_28 dX4_set_31 dX4_set_32 dX4_set_35 (B.noHandlers (hts _ List.mem_cons_self)) hlocks (by decide) (Nat.le_of_ble_eq_true rfl) (by decide) (by decide)
  | some e =>
    refine zb_ti (y := nI e) (rfl) ?_
    have h22_e : e < 22 := (fun h => (fd_lt h).1) hfd
    refine lv_istore hx hb dX4_set_9 hl (by decide) rfl (fun ls hl => ?_)
    have hl : lv_has ls 7 [(5, .int (nI e)), (0, .ref (a 0)), (1, .int i), (2, .int sb), (3, .int lo), (4, .int hg)] := hl
    refine lv_iload hx hb dX4_set_11 (lv_at hl 0 rfl) ?_
    refine lv_bipush (v := 14) hx hb dX4_set_13 (by decide) ?_
    refine lv_icmp_lt (tgt := 28) hx hb dX4_set_15 (by decide) (fun hc1 => ?_) (fun hc1 => ?_)
    · rw [hQ]
      exact tm_throwNew hx hb (Launch.traces_off hfl B.admits) hown (by decide) (by decide) (own_nse htb htw hXS) (htb _ kC_X4_112) (htb _ kN_NoSuchElementException) (hl.1.trans hml.symm) dX4_set_28 dX4_set_31 dX4_set_32 dX4_set_35 (B.noHandlers (hts _ List.mem_cons_self)) hlocks (by decide) (Nat.le_of_ble_eq_true rfl) (by decide) (by decide)
    refine lv_iload hx hb dX4_set_18 (lv_at hl 0 rfl) ?_
    refine zb_ci (va_runS (As := [.int (nI e)]) (rest := []) ⟨hx, hb, hml, hown, htb⟩ (c_sizeOf l D a cA N f ob tr nd e h22_e) (va_cwS 1 htb (wb_S kM_X4_108 kZ_X0_sizeOf kN_X0 kD_X0_sizeOf) rfl rfl rfl (by decide +kernel) ⟨Nat.le_of_ble_eq_true rfl, Nat.le_of_ble_eq_true rfl⟩) (zp_S hP hK hSt hS hnw) rfl rfl hl.1 rfl (lv_room (Nat.le_of_ble_eq_true rfl)) dX4_set_20 ⟨Nat.le_of_ble_eq_true rfl, Nat.le_of_ble_eq_true rfl⟩) ?_
    refine lv_bipush (v := 8) hx hb dX4_set_23 (by decide) ?_
    refine lv_icmp_le (tgt := 36) hx hb dX4_set_25 (by decide) (fun hc2 => ?_) (fun hc2 => ?_)
    · exact absurd hbad (by rw [hfd]; rintro (h | ⟨e2, h, h2⟩); exact nomatch h; cases h; rcases h2 with h2 | h2; exact hc1 (nI_lt (b := 14) h2 (by decide)); have h3 : xZ e ≤ 8 := (nI_leI (b := 8) (by have := (x_fit e h22_e); omega) (by decide)).mp hc2; omega)
    rw [hQ]
    exact tm_throwNew hx hb (Launch.traces_off hfl B.admits) hown (by decide) (by decide) (own_nse htb htw hXS) (htb _ kC_X4_112) (htb _ kN_NoSuchElementException) (hl.1.trans hml.symm) dX4_set_28 dX4_set_31 dX4_set_32 dX4_set_35 (B.noHandlers (hts _ List.mem_cons_self)) hlocks (by decide) (Nat.le_of_ble_eq_true rfl) (by decide) (by decide)
set_option maxHeartbeats 4000000 in
set_option maxRecDepth 100000 in
theorem c_value (l : Launch) (D : va_G) (a : Nat → Nat) (cA : ClassId) (N : Int32) (f : Nat → Int32) (ob : OB) (tr : TR) (nd : ND) (i sb : Int32) (k e : Nat) (hfd : fd i sb = some e) (hk : k < xZ e) : Met l yX4_value (wX4_value :: wb) ({ frames := 1, cells := 0, slots := 0, locals := 24 } : Room) (va_Pc [.ref (a 0), .int i, .int sb, .int (nI k)] (zPu D [(cA, .int)] (cw a cA N f ob tr nd))) (zb_I (f (xP e + k))) 0 0 (fun _ => False) := by
  refine Met.ofW (cc := cX4_value) (maxL := 5) (ret := (some .int)) (by decide) rfl ?_
  intro p ev s m args below meth c s₁ B hml hv
  obtain ⟨rfl, hP, hK, hSt, hnw⟩ := hv
  have hx := B.exec
  have hb := B.bytes
  have hr := B.returns
  have hts := atoms_spec (ws := wX4_value :: wb) B.pre
  have htb : ∀ w ∈ wb, w.before ([.ref (a 0), .int i, .int sb, .int (nI k)]).toArray s = true := fun w h => hts w (List.mem_cons_of_mem _ h)
  have hown : s.vm.findClass RX4 = some m.cls := findClass_of_methodNamed B.named
  have hlocks := B.notSynchronized
  have hS : va_S (fun _ => False) s.heap s.heap [] := va_S.rf
  obtain ⟨⟨tt, ff, hZT, hTT, hZF, hTF⟩, hXS⟩ := id hSt
  have hl := lv_entry ([.ref (a 0), .int i, .int sb, .int (nI k)]) (n := 5) (Nat.le_of_ble_eq_true rfl)
  rw [lg_entry_eq]
  generalize (lg_sl ([.ref (a 0), .int i, .int sb, .int (nI k)]) ++ List.replicate (5 - (lg_sl ([.ref (a 0), .int i, .int sb, .int (nI k)])).length) Slot.unset).toArray = ls at hl ⊢
  have hl : lv_has ls 5 [(0, .ref (a 0)), (1, .int i), (2, .int sb), (3, .int (nI k))] := hl
  refine zb_abs (fun Q hQ => ?_)
  refine lv_aload_n hx hb dX4_value_0 rfl (lv_at hl 0 rfl) ?_
  refine va_get (D := D) (ci := 4) (v := .ref (a 1)) (fs := [.int N, .ref (a 1), .ref (a 3), .ref (a 4), .ref (a 5), .ref (a 7), .int nd.1, .int nd.2.1, .int nd.2.2.1, .long nd.2.2.2]) (C := RX4) (T := TX4) (N := 10) hx hb htb inX4 hown hK hP 0 rfl rfl 1 (by decide) (htb _ kF_X4_25) (fun _ h9 => h9) rfl dX4_value_1 ?_
  refine lv_iload_n hx hb dX4_value_4 rfl (lv_at hl 1 rfl) ?_
  refine lv_iload_n hx hb dX4_value_5 rfl (lv_at hl 2 rfl) ?_
  refine zb_ci (va_runV (As := [.int i, .int sb]) (rest := []) ⟨hx, hb, hml, hown, htb⟩ (c_find l D a cA N f ob tr nd i sb) (cwV 2 htb (wb_V kM_X4_105 kI_X0_find kS_X0_find kN_X0 kD_X0_find) rfl rfl rfl (by decide +kernel) ⟨Nat.le_of_ble_eq_true rfl, Nat.le_of_ble_eq_true rfl⟩) (zp_V 1 rfl rfl hP hK hSt hS hnw) rfl rfl hl.1 rfl (lv_room (Nat.le_of_ble_eq_true rfl)) dX4_value_6 ⟨Nat.le_of_ble_eq_true rfl, Nat.le_of_ble_eq_true rfl⟩) ?_
  refine zb_ti (y := nI e) (by rw [hfd]; rfl) ?_
  refine lv_istore hx hb dX4_value_9 hl (by decide) rfl (fun ls hl => ?_)
  have hl : lv_has ls 5 [(4, .int (nI e)), (0, .ref (a 0)), (1, .int i), (2, .int sb), (3, .int (nI k))] := hl
  refine lv_iload hx hb dX4_value_11 (lv_at hl 0 rfl) ?_
  refine lv_iconst (v := (-1)) hx hb dX4_value_13 (by decide) ?_
  refine lv_icmp_eq (tgt := 30) hx hb dX4_value_14 (by decide) (fun hno => absurd hno (ni_m1 (fd_lt hfd).1)) (fun _ => ?_)
  refine lv_iload_n hx hb dX4_value_17 rfl (lv_at hl 4 rfl) ?_
  refine lv_if_lt (tgt := 30) hx hb dX4_value_18 (by decide) (fun hno => absurd hno (nI_pos (by have := x_fit e (fd_lt hfd).1; omega))) (fun _ => ?_)
  refine lv_iload_n hx hb dX4_value_21 rfl (lv_at hl 4 rfl) ?_
  refine lv_iload hx hb dX4_value_22 (lv_at hl 0 rfl) ?_
  refine zb_ci (va_runS (As := [.int (nI e)]) (rest := [.int (nI k)]) ⟨hx, hb, hml, hown, htb⟩ (c_sizeOf l D a cA N f ob tr nd e (fd_lt hfd).1) (va_cwS 1 htb (wb_S kM_X4_108 kZ_X0_sizeOf kN_X0 kD_X0_sizeOf) rfl rfl rfl (by decide +kernel) ⟨Nat.le_of_ble_eq_true rfl, Nat.le_of_ble_eq_true rfl⟩) (zp_S hP hK hSt hS hnw) rfl rfl hl.1 rfl (lv_room (Nat.le_of_ble_eq_true rfl)) dX4_value_24 ⟨Nat.le_of_ble_eq_true rfl, Nat.le_of_ble_eq_true rfl⟩) ?_
  refine lv_icmp_lt (tgt := 38) hx hb dX4_value_27 (by decide) (fun _ => ?_) (fun hno => absurd (nI_lt hk (by have := x_fit e (fd_lt hfd).1; omega)) hno)
  refine lv_aload_n hx hb dX4_value_38 rfl (lv_at hl 1 rfl) ?_
  refine va_get (D := D) (ci := 4) (v := .ref (a 1)) (fs := [.int N, .ref (a 1), .ref (a 3), .ref (a 4), .ref (a 5), .ref (a 7), .int nd.1, .int nd.2.1, .int nd.2.2.1, .long nd.2.2.2]) (C := RX4) (T := TX4) (N := 10) hx hb htb inX4 hown hK hP 0 rfl rfl 1 (by decide) (htb _ kF_X4_25) (fun _ h9 => h9) rfl dX4_value_39 ?_
  refine lv_iload hx hb dX4_value_42 (lv_at hl 0 rfl) ?_
  refine lv_iload_n hx hb dX4_value_44 rfl (lv_at hl 4 rfl) ?_
  refine zb_ci (va_runV (As := [.int (nI e), .int (nI k)]) (rest := []) ⟨hx, hb, hml, hown, htb⟩ (c_byteAt l D a cA N f ob tr nd e k (fd_lt hfd).1 hk) (cwV 2 htb (wb_V kM_X4_118 kI_X0_byteAt kS_X0_byteAt kN_X0 kD_X0_byteAt) rfl rfl rfl (by decide +kernel) ⟨Nat.le_of_ble_eq_true rfl, Nat.le_of_ble_eq_true rfl⟩) (zp_V 1 rfl rfl hP hK hSt hS hnw) rfl rfl hl.1 rfl (lv_room (Nat.le_of_ble_eq_true rfl)) dX4_value_45 ⟨Nat.le_of_ble_eq_true rfl, Nat.le_of_ble_eq_true rfl⟩) ?_
  rw [hQ]
  exact W.iret (v := f (xP e + k)) hx hb hr (fun t ht hW => ⟨congrArg (fun z => Outcome.returned (some (Value.int z))) (rfl), ht⟩) (fun q h => nomatch h) dX4_value_48
set_option maxHeartbeats 4000000 in
set_option maxRecDepth 100000 in
theorem x_value (l : Launch) (D : va_G) (a : Nat → Nat) (cA : ClassId) (N : Int32) (f : Nat → Int32) (ob : OB) (tr : TR) (nd : ND) (i sb k : Int32) (hbad : fd i sb = none ∨ ∃ e, fd i sb = some e ∧ (k < 0 ∨ nI (xZ e) ≤ k)) (hfl : l.flags = pinnedFlags ++ [noTraceFlag]) : tm_Met l yX4_value (wX4_value :: wb) ({ frames := 6, cells := 1, slots := 6, locals := 140 } : Room) (va_Pc [.ref (a 0), .int i, .int sb, .int k] (zPt D [(cA, .int)] (cw a cA N f ob tr nd))) xNSE 1 6 := by
  refine tm_ofW (cc := cX4_value) (maxL := 5) (ret := (some .int)) (by decide) rfl ?_
  intro p ev s m args below meth c s₁ B hml hv
  obtain ⟨rfl, ⟨hP, hK, hSt, hnw⟩, htw⟩ := hv
  have hx := B.exec
  have hb := B.bytes
  have hr := B.returns
  have hts := atoms_spec (ws := wX4_value :: wb) B.pre
  have htb : ∀ w ∈ wb, w.before ([.ref (a 0), .int i, .int sb, .int k]).toArray s = true := fun w h => hts w (List.mem_cons_of_mem _ h)
  have hown : s.vm.findClass RX4 = some m.cls := findClass_of_methodNamed B.named
  have hlocks := B.notSynchronized
  have hS : va_S (fun _ => False) s.heap s.heap [] := va_S.rf
  obtain ⟨⟨tt, ff, hZT, hTT, hZF, hTF⟩, hXS⟩ := id hSt
  have hl := lv_entry ([.ref (a 0), .int i, .int sb, .int k]) (n := 5) (Nat.le_of_ble_eq_true rfl)
  rw [lg_entry_eq]
  generalize (lg_sl ([.ref (a 0), .int i, .int sb, .int k]) ++ List.replicate (5 - (lg_sl ([.ref (a 0), .int i, .int sb, .int k])).length) Slot.unset).toArray = ls at hl ⊢
  have hl : lv_has ls 5 [(0, .ref (a 0)), (1, .int i), (2, .int sb), (3, .int k)] := hl
  refine zb_abs (fun Q hQ => ?_)
  refine lv_aload_n hx hb dX4_value_0 rfl (lv_at hl 0 rfl) ?_
  refine va_get (D := D) (ci := 4) (v := .ref (a 1)) (fs := [.int N, .ref (a 1), .ref (a 3), .ref (a 4), .ref (a 5), .ref (a 7), .int nd.1, .int nd.2.1, .int nd.2.2.1, .long nd.2.2.2]) (C := RX4) (T := TX4) (N := 10) hx hb htb inX4 hown hK hP 0 rfl rfl 1 (by decide) (htb _ kF_X4_25) (fun _ h9 => h9) rfl dX4_value_1 ?_
  refine lv_iload_n hx hb dX4_value_4 rfl (lv_at hl 1 rfl) ?_
  refine lv_iload_n hx hb dX4_value_5 rfl (lv_at hl 2 rfl) ?_
  refine zb_ci (va_runV (As := [.int i, .int sb]) (rest := []) ⟨hx, hb, hml, hown, htb⟩ (c_find l D a cA N f ob tr nd i sb) (cwV 2 htb (wb_V kM_X4_105 kI_X0_find kS_X0_find kN_X0 kD_X0_find) rfl rfl rfl (by decide +kernel) ⟨Nat.le_of_ble_eq_true rfl, Nat.le_of_ble_eq_true rfl⟩) (zp_V 1 rfl rfl hP hK hSt hS hnw) rfl rfl hl.1 rfl (lv_room (Nat.le_of_ble_eq_true rfl)) dX4_value_6 ⟨Nat.le_of_ble_eq_true rfl, Nat.le_of_ble_eq_true rfl⟩) ?_
  cases hfd : fd i sb with
  | none =>
    refine zb_ti (y := (-1)) (rfl) ?_
    refine lv_istore hx hb dX4_value_9 hl (by decide) rfl (fun ls hl => ?_)
    have hl : lv_has ls 5 [(4, .int (-1)), (0, .ref (a 0)), (1, .int i), (2, .int sb), (3, .int k)] := hl
    refine lv_iload hx hb dX4_value_11 (lv_at hl 0 rfl) ?_
    refine lv_iconst (v := (-1)) hx hb dX4_value_13 (by decide) ?_
    refine lv_icmp_eq (tgt := 30) hx hb dX4_value_14 (by decide) (fun _ => ?_) (fun hno => absurd (by decide) hno)
    rw [hQ]
    exact tm_throwNew hx hb (Launch.traces_off hfl B.admits) hown (by decide) (by decide) (own_nse htb htw hXS) (htb _ kC_X4_112) (htb _ kN_NoSuchElementException) (hl.1.trans hml.symm) dX4_value_30 dX4_value_33 dX4_value_34 dX4_value_37 (B.noHandlers (hts _ List.mem_cons_self)) hlocks (by decide) (Nat.le_of_ble_eq_true rfl) (by decide) (by decide)
  | some e =>
    refine zb_ti (y := nI e) (rfl) ?_
    have h22_e : e < 22 := (fun h => (fd_lt h).1) hfd
    refine lv_istore hx hb dX4_value_9 hl (by decide) rfl (fun ls hl => ?_)
    have hl : lv_has ls 5 [(4, .int (nI e)), (0, .ref (a 0)), (1, .int i), (2, .int sb), (3, .int k)] := hl
    refine lv_iload hx hb dX4_value_11 (lv_at hl 0 rfl) ?_
    refine lv_iconst (v := (-1)) hx hb dX4_value_13 (by decide) ?_
    refine lv_icmp_eq (tgt := 30) hx hb dX4_value_14 (by decide) (fun hno => absurd hno (ni_m1 h22_e)) (fun _ => ?_)
    refine lv_iload_n hx hb dX4_value_17 rfl (lv_at hl 4 rfl) ?_
    refine lv_if_lt (tgt := 30) hx hb dX4_value_18 (by decide) (fun hc1 => ?_) (fun hc1 => ?_)
    · rw [hQ]
      exact tm_throwNew hx hb (Launch.traces_off hfl B.admits) hown (by decide) (by decide) (own_nse htb htw hXS) (htb _ kC_X4_112) (htb _ kN_NoSuchElementException) (hl.1.trans hml.symm) dX4_value_30 dX4_value_33 dX4_value_34 dX4_value_37 (B.noHandlers (hts _ List.mem_cons_self)) hlocks (by decide) (Nat.le_of_ble_eq_true rfl) (by decide) (by decide)
    refine lv_iload_n hx hb dX4_value_21 rfl (lv_at hl 4 rfl) ?_
    refine lv_iload hx hb dX4_value_22 (lv_at hl 0 rfl) ?_
    refine zb_ci (va_runS (As := [.int (nI e)]) (rest := [.int k]) ⟨hx, hb, hml, hown, htb⟩ (c_sizeOf l D a cA N f ob tr nd e h22_e) (va_cwS 1 htb (wb_S kM_X4_108 kZ_X0_sizeOf kN_X0 kD_X0_sizeOf) rfl rfl rfl (by decide +kernel) ⟨Nat.le_of_ble_eq_true rfl, Nat.le_of_ble_eq_true rfl⟩) (zp_S hP hK hSt hS hnw) rfl rfl hl.1 rfl (lv_room (Nat.le_of_ble_eq_true rfl)) dX4_value_24 ⟨Nat.le_of_ble_eq_true rfl, Nat.le_of_ble_eq_true rfl⟩) ?_
    refine lv_icmp_lt (tgt := 38) hx hb dX4_value_27 (by decide) (fun hc2 => ?_) (fun hc2 => ?_)
    · exact absurd hbad (by rw [hfd]; rintro (h | ⟨e2, h, h2⟩); exact nomatch h; cases h; rcases h2 with h2 | h2; exact hc1 h2; exact Int32.not_lt.mpr h2 hc2)
    rw [hQ]
    exact tm_throwNew hx hb (Launch.traces_off hfl B.admits) hown (by decide) (by decide) (own_nse htb htw hXS) (htb _ kC_X4_112) (htb _ kN_NoSuchElementException) (hl.1.trans hml.symm) dX4_value_30 dX4_value_33 dX4_value_34 dX4_value_37 (B.noHandlers (hts _ List.mem_cons_self)) hlocks (by decide) (Nat.le_of_ble_eq_true rfl) (by decide) (by decide)
set_option maxHeartbeats 4000000 in
set_option maxRecDepth 100000 in
theorem c_size (l : Launch) (D : va_G) (a : Nat → Nat) (cA : ClassId) (N : Int32) (f : Nat → Int32) (ob : OB) (tr : TR) (nd : ND) (i sb : Int32)  : Met l yX4_size (wX4_size :: wb) ({ frames := 1, cells := 0, slots := 0, locals := 24 } : Room) (va_Pc [.ref (a 0), .int i, .int sb] (zPu D [(cA, .int)] (cw a cA N f ob tr nd))) (zb_I ((fd i sb).elim 0 (fun e => nI (xZ e)))) 0 0 (fun _ => False) := by
  refine Met.ofW (cc := cX4_size) (maxL := 4) (ret := (some .int)) (by decide) rfl ?_
  intro p ev s m args below meth c s₁ B hml hv
  obtain ⟨rfl, hP, hK, hSt, hnw⟩ := hv
  have hx := B.exec
  have hb := B.bytes
  have hr := B.returns
  have hts := atoms_spec (ws := wX4_size :: wb) B.pre
  have htb : ∀ w ∈ wb, w.before ([.ref (a 0), .int i, .int sb]).toArray s = true := fun w h => hts w (List.mem_cons_of_mem _ h)
  have hown : s.vm.findClass RX4 = some m.cls := findClass_of_methodNamed B.named
  have hlocks := B.notSynchronized
  have hS : va_S (fun _ => False) s.heap s.heap [] := va_S.rf
  obtain ⟨⟨tt, ff, hZT, hTT, hZF, hTF⟩, hXS⟩ := id hSt
  have hl := lv_entry ([.ref (a 0), .int i, .int sb]) (n := 4) (Nat.le_of_ble_eq_true rfl)
  rw [lg_entry_eq]
  generalize (lg_sl ([.ref (a 0), .int i, .int sb]) ++ List.replicate (4 - (lg_sl ([.ref (a 0), .int i, .int sb])).length) Slot.unset).toArray = ls at hl ⊢
  have hl : lv_has ls 4 [(0, .ref (a 0)), (1, .int i), (2, .int sb)] := hl
  refine zb_abs (fun Q hQ => ?_)
  refine lv_aload_n hx hb dX4_size_0 rfl (lv_at hl 0 rfl) ?_
  refine va_get (D := D) (ci := 4) (v := .ref (a 1)) (fs := [.int N, .ref (a 1), .ref (a 3), .ref (a 4), .ref (a 5), .ref (a 7), .int nd.1, .int nd.2.1, .int nd.2.2.1, .long nd.2.2.2]) (C := RX4) (T := TX4) (N := 10) hx hb htb inX4 hown hK hP 0 rfl rfl 1 (by decide) (htb _ kF_X4_25) (fun _ h9 => h9) rfl dX4_size_1 ?_
  refine lv_iload_n hx hb dX4_size_4 rfl (lv_at hl 1 rfl) ?_
  refine lv_iload_n hx hb dX4_size_5 rfl (lv_at hl 2 rfl) ?_
  refine zb_ci (va_runV (As := [.int i, .int sb]) (rest := []) ⟨hx, hb, hml, hown, htb⟩ (c_find l D a cA N f ob tr nd i sb) (cwV 2 htb (wb_V kM_X4_105 kI_X0_find kS_X0_find kN_X0 kD_X0_find) rfl rfl rfl (by decide +kernel) ⟨Nat.le_of_ble_eq_true rfl, Nat.le_of_ble_eq_true rfl⟩) (zp_V 1 rfl rfl hP hK hSt hS hnw) rfl rfl hl.1 rfl (lv_room (Nat.le_of_ble_eq_true rfl)) dX4_size_6 ⟨Nat.le_of_ble_eq_true rfl, Nat.le_of_ble_eq_true rfl⟩) ?_
  cases hfd : fd i sb with
  | none =>
    refine zb_ti (y := (-1)) (rfl) ?_
    refine lv_istore_n hx hb dX4_size_9 rfl hl (by decide) rfl (fun ls hl => ?_)
    have hl : lv_has ls 4 [(3, .int (-1)), (0, .ref (a 0)), (1, .int i), (2, .int sb)] := hl
    refine lv_iload_n hx hb dX4_size_10 rfl (lv_at hl 0 rfl) ?_
    refine lv_iconst (v := (-1)) hx hb dX4_size_11 (by decide) ?_
    refine lv_icmp_ne (tgt := 19) hx hb dX4_size_12 (by decide) (fun hno => absurd (by decide) hno) (fun _ => ?_)
    refine lv_iconst (v := 0) hx hb dX4_size_15 (by decide) ?_
    refine lv_goto (tgt := 23) hx hb dX4_size_16 (by decide) ?_
    rw [hQ]
    exact W.iret (v := 0) hx hb hr (fun t ht hW => ⟨congrArg (fun z => Outcome.returned (some (Value.int z))) (by rw [hfd]; rfl), ht⟩) (fun q h => nomatch h) dX4_size_23
  | some e =>
    refine zb_ti (y := nI e) (rfl) ?_
    have h22_e : e < 22 := (fun h => (fd_lt h).1) hfd
    refine lv_istore_n hx hb dX4_size_9 rfl hl (by decide) rfl (fun ls hl => ?_)
    have hl : lv_has ls 4 [(3, .int (nI e)), (0, .ref (a 0)), (1, .int i), (2, .int sb)] := hl
    refine lv_iload_n hx hb dX4_size_10 rfl (lv_at hl 0 rfl) ?_
    refine lv_iconst (v := (-1)) hx hb dX4_size_11 (by decide) ?_
    refine lv_icmp_ne (tgt := 19) hx hb dX4_size_12 (by decide) (fun _ => ?_) (fun hno => absurd hno (ni_m1 h22_e))
    refine lv_iload_n hx hb dX4_size_19 rfl (lv_at hl 0 rfl) ?_
    refine zb_ci (va_runS (As := [.int (nI e)]) (rest := []) ⟨hx, hb, hml, hown, htb⟩ (c_sizeOf l D a cA N f ob tr nd e h22_e) (va_cwS 1 htb (wb_S kM_X4_108 kZ_X0_sizeOf kN_X0 kD_X0_sizeOf) rfl rfl rfl (by decide +kernel) ⟨Nat.le_of_ble_eq_true rfl, Nat.le_of_ble_eq_true rfl⟩) (zp_S hP hK hSt hS hnw) rfl rfl hl.1 rfl (lv_room (Nat.le_of_ble_eq_true rfl)) dX4_size_20 ⟨Nat.le_of_ble_eq_true rfl, Nat.le_of_ble_eq_true rfl⟩) ?_
    rw [hQ]
    exact W.iret (v := nI (xZ e)) hx hb hr (fun t ht hW => ⟨congrArg (fun z => Outcome.returned (some (Value.int z))) (by rw [hfd]; rfl), ht⟩) (fun q h => nomatch h) dX4_size_23
set_option maxHeartbeats 4000000 in
set_option maxRecDepth 100000 in
theorem c_state (l : Launch) (D : va_G) (a : Nat → Nat) (cA : ClassId) (N : Int32) (f : Nat → Int32) (ob : OB) (tr : TR) (nd : ND)   : Met l yX4_state (wX4_state :: wb) ({ frames := 0, cells := 0, slots := 0, locals := 0 } : Room) (va_Pc [.ref (a 0)] (zPu D [(cA, .int)] (cw a cA N f ob tr nd))) (zb_I nd.1) 0 0 (fun _ => False) := by
  refine Met.ofW (cc := cX4_state) (maxL := 1) (ret := (some .int)) (by decide) rfl ?_
  intro p ev s m args below meth c s₁ B hml hv
  obtain ⟨rfl, hP, hK, hSt, hnw⟩ := hv
  have hx := B.exec
  have hb := B.bytes
  have hr := B.returns
  have hts := atoms_spec (ws := wX4_state :: wb) B.pre
  have htb : ∀ w ∈ wb, w.before ([.ref (a 0)]).toArray s = true := fun w h => hts w (List.mem_cons_of_mem _ h)
  have hown : s.vm.findClass RX4 = some m.cls := findClass_of_methodNamed B.named
  have hlocks := B.notSynchronized
  have hS : va_S (fun _ => False) s.heap s.heap [] := va_S.rf
  obtain ⟨⟨tt, ff, hZT, hTT, hZF, hTF⟩, hXS⟩ := id hSt
  have hl := lv_entry ([.ref (a 0)]) (n := 1) (Nat.le_of_ble_eq_true rfl)
  rw [lg_entry_eq]
  generalize (lg_sl ([.ref (a 0)]) ++ List.replicate (1 - (lg_sl ([.ref (a 0)])).length) Slot.unset).toArray = ls at hl ⊢
  have hl : lv_has ls 1 [(0, .ref (a 0))] := hl
  refine zb_abs (fun Q hQ => ?_)
  refine lv_aload_n hx hb dX4_state_0 rfl (lv_at hl 0 rfl) ?_
  refine va_get (D := D) (ci := 4) (v := .int nd.1) (fs := [.int N, .ref (a 1), .ref (a 3), .ref (a 4), .ref (a 5), .ref (a 7), .int nd.1, .int nd.2.1, .int nd.2.2.1, .long nd.2.2.2]) (C := RX4) (T := TX4) (N := 10) hx hb htb inX4 hown hK hP 0 rfl rfl 6 (by decide) (htb _ kF_X4_79) (fun _ h9 => h9) rfl dX4_state_1 ?_
  rw [hQ]
  exact W.iret (v := nd.1) hx hb hr (fun t ht hW => ⟨congrArg (fun z => Outcome.returned (some (Value.int z))) (rfl), ht⟩) (fun q h => nomatch h) dX4_state_4
set_option maxHeartbeats 4000000 in
set_option maxRecDepth 100000 in
theorem c_busy (l : Launch) (D : va_G) (a : Nat → Nat) (cA : ClassId) (N : Int32) (f : Nat → Int32) (ob : OB) (tr : TR) (nd : ND)  (hgo : tr.2.1 = 0 ∨ tr.2.1 = 1) : Met l yX4_busy (wX4_busy :: wb) ({ frames := 0, cells := 0, slots := 0, locals := 0 } : Room) (va_Pc [.ref (a 0)] (zPu D [(cA, .int)] (cw a cA N f ob tr nd))) (zb_I tr.2.1) 0 0 (fun _ => False) := by
  refine Met.ofW (cc := cX4_busy) (maxL := 1) (ret := (some .boolean)) (by decide) rfl ?_
  intro p ev s m args below meth c s₁ B hml hv
  obtain ⟨rfl, hP, hK, hSt, hnw⟩ := hv
  have hx := B.exec
  have hb := B.bytes
  have hr := B.returns
  have hts := atoms_spec (ws := wX4_busy :: wb) B.pre
  have htb : ∀ w ∈ wb, w.before ([.ref (a 0)]).toArray s = true := fun w h => hts w (List.mem_cons_of_mem _ h)
  have hown : s.vm.findClass RX4 = some m.cls := findClass_of_methodNamed B.named
  have hlocks := B.notSynchronized
  have hS : va_S (fun _ => False) s.heap s.heap [] := va_S.rf
  obtain ⟨⟨tt, ff, hZT, hTT, hZF, hTF⟩, hXS⟩ := id hSt
  have hl := lv_entry ([.ref (a 0)]) (n := 1) (Nat.le_of_ble_eq_true rfl)
  rw [lg_entry_eq]
  generalize (lg_sl ([.ref (a 0)]) ++ List.replicate (1 - (lg_sl ([.ref (a 0)])).length) Slot.unset).toArray = ls at hl ⊢
  have hl : lv_has ls 1 [(0, .ref (a 0))] := hl
  refine zb_abs (fun Q hQ => ?_)
  refine lv_aload_n hx hb dX4_busy_0 rfl (lv_at hl 0 rfl) ?_
  refine va_get (D := D) (ci := 4) (v := .ref (a 7)) (fs := [.int N, .ref (a 1), .ref (a 3), .ref (a 4), .ref (a 5), .ref (a 7), .int nd.1, .int nd.2.1, .int nd.2.2.1, .long nd.2.2.2]) (C := RX4) (T := TX4) (N := 10) hx hb htb inX4 hown hK hP 0 rfl rfl 5 (by decide) (htb _ kF_X4_51) (fun _ h9 => h9) rfl dX4_busy_1 ?_
  refine va_getN (D := D) (ci := 3) (v := .int tr.2.1) (fs := [.ref (a 8), .int tr.2.1, .int tr.2.2.1, .int tr.2.2.2.1, .int tr.2.2.2.2.1, .int tr.2.2.2.2.2.1, .int tr.2.2.2.2.2.2.1, .int tr.2.2.2.2.2.2.2]) (C := RX3) (T := TX3) (N := 8) hx hb htb inX3 hown hK hP 7 rfl rfl 1 (by decide) (va_Nw.use rfl (hnw _ kT_X4_91)) (fun _ h9 => h9) rfl dX4_busy_4 ?_
  rw [hQ]
  exact W.zret (v := tr.2.1) hx hb hr (by rcases hgo with h | h <;> rw [h] <;> rfl) (fun t ht hW => ⟨congrArg (fun z => Outcome.returned (some (Value.int z))) (rfl), ht⟩) (fun q h => nomatch h) dX4_busy_7
set_option maxHeartbeats 4000000 in
set_option maxRecDepth 100000 in
theorem c_outs (l : Launch) (D : va_G) (a : Nat → Nat) (cA : ClassId) (N : Int32) (f : Nat → Int32) (ob : OB) (tr : TR) (nd : ND)   : Met l yX4_outs (wX4_outs :: wb) ({ frames := 0, cells := 0, slots := 0, locals := 0 } : Room) (va_Pc [.ref (a 0)] (zPu D [(cA, .int)] (cw a cA N f ob tr nd))) (zb_I ob.2.1) 0 0 (fun _ => False) := by
  refine Met.ofW (cc := cX4_outs) (maxL := 1) (ret := (some .int)) (by decide) rfl ?_
  intro p ev s m args below meth c s₁ B hml hv
  obtain ⟨rfl, hP, hK, hSt, hnw⟩ := hv
  have hx := B.exec
  have hb := B.bytes
  have hr := B.returns
  have hts := atoms_spec (ws := wX4_outs :: wb) B.pre
  have htb : ∀ w ∈ wb, w.before ([.ref (a 0)]).toArray s = true := fun w h => hts w (List.mem_cons_of_mem _ h)
  have hown : s.vm.findClass RX4 = some m.cls := findClass_of_methodNamed B.named
  have hlocks := B.notSynchronized
  have hS : va_S (fun _ => False) s.heap s.heap [] := va_S.rf
  obtain ⟨⟨tt, ff, hZT, hTT, hZF, hTF⟩, hXS⟩ := id hSt
  have hl := lv_entry ([.ref (a 0)]) (n := 1) (Nat.le_of_ble_eq_true rfl)
  rw [lg_entry_eq]
  generalize (lg_sl ([.ref (a 0)]) ++ List.replicate (1 - (lg_sl ([.ref (a 0)])).length) Slot.unset).toArray = ls at hl ⊢
  have hl : lv_has ls 1 [(0, .ref (a 0))] := hl
  refine zb_abs (fun Q hQ => ?_)
  refine lv_aload_n hx hb dX4_outs_0 rfl (lv_at hl 0 rfl) ?_
  refine va_get (D := D) (ci := 4) (v := .ref (a 5)) (fs := [.int N, .ref (a 1), .ref (a 3), .ref (a 4), .ref (a 5), .ref (a 7), .int nd.1, .int nd.2.1, .int nd.2.2.1, .long nd.2.2.2]) (C := RX4) (T := TX4) (N := 10) hx hb htb inX4 hown hK hP 0 rfl rfl 4 (by decide) (htb _ kF_X4_44) (fun _ h9 => h9) rfl dX4_outs_1 ?_
  refine va_getN (D := D) (ci := 2) (v := .int ob.2.1) (fs := [.ref (a 6), .int ob.2.1, .int ob.2.2]) (C := RX2) (T := TX2) (N := 3) hx hb htb inX2 hown hK hP 5 rfl rfl 1 (by decide) (va_Nw.use rfl (hnw _ kT_X4_121)) (fun _ h9 => h9) rfl dX4_outs_4 ?_
  rw [hQ]
  exact W.iret (v := ob.2.1) hx hb hr (fun t ht hW => ⟨congrArg (fun z => Outcome.returned (some (Value.int z))) (rfl), ht⟩) (fun q h => nomatch h) dX4_outs_7
set_option maxHeartbeats 4000000 in
set_option maxRecDepth 100000 in
theorem c_flush (l : Launch) (D : va_G) (a : Nat → Nat) (cA : ClassId) (N : Int32) (f : Nat → Int32) (ob : OB) (tr : TR) (nd : ND) (sz : Nat)   : Met l yX4_flush (wX4_flush :: wb) ({ frames := 0, cells := 0, slots := 0, locals := 0 } : Room) (va_Pc [.ref (a 0)] (zPre D [(cA, .int)] (cw a cA N f ob tr nd) sz)) (zb_Vi ob.2.1 D vwCl (cw a cA N f (ob.1, 0, ob.2.2) tr nd) (va_A (cw a cA N f ob tr nd) sz)) 0 0 (va_A (cw a cA N f ob tr nd) sz) := by
  refine Met.ofW (cc := cX4_flush) (maxL := 2) (ret := (some .int)) (by decide) rfl ?_
  intro p ev s m args below meth c s₁ B hml hv
  obtain ⟨rfl, hsz, hP, hK, hD0, hSt, hnw⟩ := hv
  have hx := B.exec
  have hb := B.bytes
  have hr := B.returns
  have hts := atoms_spec (ws := wX4_flush :: wb) B.pre
  have htb : ∀ w ∈ wb, w.before ([.ref (a 0)]).toArray s = true := fun w h => hts w (List.mem_cons_of_mem _ h)
  have hown : s.vm.findClass RX4 = some m.cls := findClass_of_methodNamed B.named
  have hlocks := B.notSynchronized
  subst hsz
  have hD := hD0.self (sz := s.heap.size)
  clear hD0
  generalize hAe : va_A (cw a cA N f ob tr nd) s.heap.size = A at hD hSt ⊢
  have hA : ∀ q : Nat, s.heap.size ≤ q → A q := fun q h => by rw [← hAe]; exact Or.inr h
  have hS : va_S A s.heap s.heap [] := va_S.rf
  obtain ⟨⟨tt, ff, hZT, hTT, hZF, hTF⟩, hXS⟩ := id hSt
  have hl := lv_entry ([.ref (a 0)]) (n := 2) (Nat.le_of_ble_eq_true rfl)
  rw [lg_entry_eq]
  generalize (lg_sl ([.ref (a 0)]) ++ List.replicate (2 - (lg_sl ([.ref (a 0)])).length) Slot.unset).toArray = ls at hl ⊢
  have hl : lv_has ls 2 [(0, .ref (a 0))] := hl
  refine zb_abs (fun Q hQ => ?_)
  refine lv_aload_n hx hb dX4_flush_0 rfl (lv_at hl 0 rfl) ?_
  refine va_get (D := D) (ci := 4) (v := .ref (a 5)) (fs := [.int N, .ref (a 1), .ref (a 3), .ref (a 4), .ref (a 5), .ref (a 7), .int nd.1, .int nd.2.1, .int nd.2.2.1, .long nd.2.2.2]) (C := RX4) (T := TX4) (N := 10) hx hb htb inX4 hown hK hP 0 rfl rfl 4 (by decide) (htb _ kF_X4_44) (fun _ h9 => h9) rfl dX4_flush_1 ?_
  refine va_getN (D := D) (ci := 2) (v := .int ob.2.1) (fs := [.ref (a 6), .int ob.2.1, .int ob.2.2]) (C := RX2) (T := TX2) (N := 3) hx hb htb inX2 hown hK hP 5 rfl rfl 1 (by decide) (va_Nw.use rfl (hnw _ kT_X4_121)) (fun _ h9 => h9) rfl dX4_flush_4 ?_
  refine lv_istore_n hx hb dX4_flush_7 rfl hl (by decide) rfl (fun ls hl => ?_)
  have hl : lv_has ls 2 [(1, .int ob.2.1), (0, .ref (a 0))] := hl
  refine lv_aload_n hx hb dX4_flush_8 rfl (lv_at hl 1 rfl) ?_
  refine va_get (D := D) (ci := 4) (v := .ref (a 5)) (fs := [.int N, .ref (a 1), .ref (a 3), .ref (a 4), .ref (a 5), .ref (a 7), .int nd.1, .int nd.2.1, .int nd.2.2.1, .long nd.2.2.2]) (C := RX4) (T := TX4) (N := 10) hx hb htb inX4 hown hK hP 0 rfl rfl 4 (by decide) (htb _ kF_X4_44) (fun _ h9 => h9) rfl dX4_flush_9 ?_
  refine lv_iconst (v := 0) hx hb dX4_flush_12 (by decide) ?_
  refine va_putN (D := D) (ci := 2) (v := .int 0) (fs := [.ref (a 6), .int ob.2.1, .int ob.2.2]) (ty := .int) (C := RX2) (T := TX2) (N := 3) hx hb htb inX2 tyX2 tyX2_ok nmX2 hown hK hP hD hS 5 rfl rfl 1 (by decide) (va_Nw.use rfl (hnw _ kT_X4_121)) (fun _ h9 => h9) rfl (by decide +kernel) rfl rfl (Nat.le_of_ble_eq_true rfl) dX4_flush_13 (fun H locs hP hD hS => ?_)
  have hP : va_P D vwCl (cw a cA N f (ob.1, 0, ob.2.2) tr nd) H := hP
  have hD : va_D A (cw a cA N f (ob.1, 0, ob.2.2) tr nd) := hD
  refine lv_iload_n hx hb dX4_flush_16 rfl (lv_at hl 0 rfl) ?_
  rw [hQ]
  have hw9 : (cw a cA N f (ob.1, 0, ob.2.2) tr nd) = (cw a cA N f (ob.1, 0, ob.2.2) tr nd) := rfl
  exact W.iret (v := ob.2.1) hx hb hr (fun t ht hW => ⟨congrArg (fun z => Outcome.returned (some (Value.int z))) (rfl), by rw [ht, ← hw9]; exact hP, by rw [← hw9]; exact hD, hS.F ht⟩) hS.2.2 dX4_flush_17
set_option maxHeartbeats 4000000 in
set_option maxRecDepth 100000 in
theorem c_out (l : Launch) (D : va_G) (a : Nat → Nat) (cA : ClassId) (N : Int32) (f : Nat → Int32) (ob : OB) (tr : TR) (nd : ND) (kp k i : Nat) (hkp : ob.2.1 = nI kp) (hkp32 : kp ≤ 32) (hk : k < kp) (hi : i < 4) : Met l yX4_out (wX4_out :: wb) ({ frames := 1, cells := 0, slots := 0, locals := 22 } : Room) (va_Pc [.ref (a 0), .int (nI k), .int (nI i)] (zPu D [(cA, .int)] (cw a cA N f ob tr nd))) (zb_I (ob.1 (k * 4 + i))) 0 0 (fun _ => False) := by
  refine Met.ofW (cc := cX4_out) (maxL := 3) (ret := (some .int)) (by decide) rfl ?_
  intro p ev s m args below meth c s₁ B hml hv
  obtain ⟨rfl, hP, hK, hSt, hnw⟩ := hv
  have hx := B.exec
  have hb := B.bytes
  have hr := B.returns
  have hts := atoms_spec (ws := wX4_out :: wb) B.pre
  have htb : ∀ w ∈ wb, w.before ([.ref (a 0), .int (nI k), .int (nI i)]).toArray s = true := fun w h => hts w (List.mem_cons_of_mem _ h)
  have hown : s.vm.findClass RX4 = some m.cls := findClass_of_methodNamed B.named
  have hlocks := B.notSynchronized
  have hS : va_S (fun _ => False) s.heap s.heap [] := va_S.rf
  obtain ⟨⟨tt, ff, hZT, hTT, hZF, hTF⟩, hXS⟩ := id hSt
  have hl := lv_entry ([.ref (a 0), .int (nI k), .int (nI i)]) (n := 3) (Nat.le_of_ble_eq_true rfl)
  rw [lg_entry_eq]
  generalize (lg_sl ([.ref (a 0), .int (nI k), .int (nI i)]) ++ List.replicate (3 - (lg_sl ([.ref (a 0), .int (nI k), .int (nI i)])).length) Slot.unset).toArray = ls at hl ⊢
  have hl : lv_has ls 3 [(0, .ref (a 0)), (1, .int (nI k)), (2, .int (nI i))] := hl
  refine zb_abs (fun Q hQ => ?_)
  refine lv_iload_n hx hb dX4_out_0 rfl (lv_at hl 1 rfl) ?_
  refine lv_if_lt (tgt := 24) hx hb dX4_out_1 (by decide) (fun hno => absurd hno (nI_pos (by omega))) (fun _ => ?_)
  refine lv_iload_n hx hb dX4_out_4 rfl (lv_at hl 1 rfl) ?_
  refine lv_aload_n hx hb dX4_out_5 rfl (lv_at hl 0 rfl) ?_
  refine va_get (D := D) (ci := 4) (v := .ref (a 5)) (fs := [.int N, .ref (a 1), .ref (a 3), .ref (a 4), .ref (a 5), .ref (a 7), .int nd.1, .int nd.2.1, .int nd.2.2.1, .long nd.2.2.2]) (C := RX4) (T := TX4) (N := 10) hx hb htb inX4 hown hK hP 0 rfl rfl 4 (by decide) (htb _ kF_X4_44) (fun _ h9 => h9) rfl dX4_out_6 ?_
  refine va_getN (D := D) (ci := 2) (v := .int ob.2.1) (fs := [.ref (a 6), .int ob.2.1, .int ob.2.2]) (C := RX2) (T := TX2) (N := 3) hx hb htb inX2 hown hK hP 5 rfl rfl 1 (by decide) (va_Nw.use rfl (hnw _ kT_X4_121)) (fun _ h9 => h9) rfl dX4_out_9 ?_
  refine lv_icmp_ge (tgt := 24) hx hb dX4_out_12 (by decide) (fun hno => absurd hno (by rw [hkp]; exact nI_ge hk (by omega))) (fun _ => ?_)
  refine lv_iload_n hx hb dX4_out_15 rfl (lv_at hl 2 rfl) ?_
  refine lv_if_lt (tgt := 24) hx hb dX4_out_16 (by decide) (fun hno => absurd hno (nI_pos (by omega))) (fun _ => ?_)
  refine lv_iload_n hx hb dX4_out_19 rfl (lv_at hl 2 rfl) ?_
  refine lv_iconst (v := 4) hx hb dX4_out_20 (by decide) ?_
  refine lv_icmp_lt (tgt := 32) hx hb dX4_out_21 (by decide) (fun _ => ?_) (fun hno => absurd (nI_lt (b := 4) hi (by decide)) hno)
  refine lv_aload_n hx hb dX4_out_32 rfl (lv_at hl 0 rfl) ?_
  refine va_get (D := D) (ci := 4) (v := .ref (a 5)) (fs := [.int N, .ref (a 1), .ref (a 3), .ref (a 4), .ref (a 5), .ref (a 7), .int nd.1, .int nd.2.1, .int nd.2.2.1, .long nd.2.2.2]) (C := RX4) (T := TX4) (N := 10) hx hb htb inX4 hown hK hP 0 rfl rfl 4 (by decide) (htb _ kF_X4_44) (fun _ h9 => h9) rfl dX4_out_33 ?_
  refine lv_iload_n hx hb dX4_out_36 rfl (lv_at hl 1 rfl) ?_
  refine lv_iload_n hx hb dX4_out_37 rfl (lv_at hl 2 rfl) ?_
  refine zb_ci (va_runV (As := [.int (nI k), .int (nI i)]) (rest := []) ⟨hx, hb, hml, hown, htb⟩ (c_opart l D a cA N f ob tr nd k i (by omega) hi) (cwV 2 htb (wb_V kM_X4_127 kI_X2_part kS_X2_part kN_X2 kD_X2_part) rfl rfl rfl (by decide +kernel) ⟨Nat.le_of_ble_eq_true rfl, Nat.le_of_ble_eq_true rfl⟩) (zp_V 5 rfl rfl hP hK hSt hS hnw) rfl rfl hl.1 rfl (lv_room (Nat.le_of_ble_eq_true rfl)) dX4_out_38 ⟨Nat.le_of_ble_eq_true rfl, Nat.le_of_ble_eq_true rfl⟩) ?_
  rw [hQ]
  exact W.iret (v := ob.1 (k * 4 + i)) hx hb hr (fun t ht hW => ⟨congrArg (fun z => Outcome.returned (some (Value.int z))) (rfl), ht⟩) (fun q h => nomatch h) dX4_out_41
set_option maxHeartbeats 4000000 in
set_option maxRecDepth 100000 in
theorem x_out (l : Launch) (D : va_G) (a : Nat → Nat) (cA : ClassId) (N : Int32) (f : Nat → Int32) (ob : OB) (tr : TR) (nd : ND) (k i : Int32) (hbad : k < 0 ∨ ob.2.1 ≤ k ∨ i < 0 ∨ 4 ≤ i) (hfl : l.flags = pinnedFlags ++ [noTraceFlag]) : tm_Met l yX4_out (wX4_out :: wb) ({ frames := 6, cells := 1, slots := 6, locals := 140 } : Room) (va_Pc [.ref (a 0), .int k, .int i] (zPt D [(cA, .int)] (cw a cA N f ob tr nd))) xIOB 1 6 := by
  refine tm_ofW (cc := cX4_out) (maxL := 3) (ret := (some .int)) (by decide) rfl ?_
  intro p ev s m args below meth c s₁ B hml hv
  obtain ⟨rfl, ⟨hP, hK, hSt, hnw⟩, htw⟩ := hv
  have hx := B.exec
  have hb := B.bytes
  have hr := B.returns
  have hts := atoms_spec (ws := wX4_out :: wb) B.pre
  have htb : ∀ w ∈ wb, w.before ([.ref (a 0), .int k, .int i]).toArray s = true := fun w h => hts w (List.mem_cons_of_mem _ h)
  have hown : s.vm.findClass RX4 = some m.cls := findClass_of_methodNamed B.named
  have hlocks := B.notSynchronized
  have hS : va_S (fun _ => False) s.heap s.heap [] := va_S.rf
  obtain ⟨⟨tt, ff, hZT, hTT, hZF, hTF⟩, hXS⟩ := id hSt
  have hl := lv_entry ([.ref (a 0), .int k, .int i]) (n := 3) (Nat.le_of_ble_eq_true rfl)
  rw [lg_entry_eq]
  generalize (lg_sl ([.ref (a 0), .int k, .int i]) ++ List.replicate (3 - (lg_sl ([.ref (a 0), .int k, .int i])).length) Slot.unset).toArray = ls at hl ⊢
  have hl : lv_has ls 3 [(0, .ref (a 0)), (1, .int k), (2, .int i)] := hl
  refine zb_abs (fun Q hQ => ?_)
  refine lv_iload_n hx hb dX4_out_0 rfl (lv_at hl 1 rfl) ?_
  refine lv_if_lt (tgt := 24) hx hb dX4_out_1 (by decide) (fun hc1 => ?_) (fun hc1 => ?_)
  · rw [hQ]
    exact tm_throwNew hx hb (Launch.traces_off hfl B.admits) hown (by decide) (by decide) (own_iob htb htw hXS) (htb _ kC_X4_124) (htb _ kN_IndexOutOfBoundsException) (hl.1.trans hml.symm) dX4_out_24 dX4_out_27 dX4_out_28 dX4_out_31 (B.noHandlers (hts _ List.mem_cons_self)) hlocks (by decide) (Nat.le_of_ble_eq_true rfl) (by decide) (by decide)
  refine lv_iload_n hx hb dX4_out_4 rfl (lv_at hl 1 rfl) ?_
  refine lv_aload_n hx hb dX4_out_5 rfl (lv_at hl 0 rfl) ?_
  refine va_get (D := D) (ci := 4) (v := .ref (a 5)) (fs := [.int N, .ref (a 1), .ref (a 3), .ref (a 4), .ref (a 5), .ref (a 7), .int nd.1, .int nd.2.1, .int nd.2.2.1, .long nd.2.2.2]) (C := RX4) (T := TX4) (N := 10) hx hb htb inX4 hown hK hP 0 rfl rfl 4 (by decide) (htb _ kF_X4_44) (fun _ h9 => h9) rfl dX4_out_6 ?_
  refine va_getN (D := D) (ci := 2) (v := .int ob.2.1) (fs := [.ref (a 6), .int ob.2.1, .int ob.2.2]) (C := RX2) (T := TX2) (N := 3) hx hb htb inX2 hown hK hP 5 rfl rfl 1 (by decide) (va_Nw.use rfl (hnw _ kT_X4_121)) (fun _ h9 => h9) rfl dX4_out_9 ?_
  refine lv_icmp_ge (tgt := 24) hx hb dX4_out_12 (by decide) (fun hc2 => ?_) (fun hc2 => ?_)
  · rw [hQ]
    exact tm_throwNew hx hb (Launch.traces_off hfl B.admits) hown (by decide) (by decide) (own_iob htb htw hXS) (htb _ kC_X4_124) (htb _ kN_IndexOutOfBoundsException) (hl.1.trans hml.symm) dX4_out_24 dX4_out_27 dX4_out_28 dX4_out_31 (B.noHandlers (hts _ List.mem_cons_self)) hlocks (by decide) (Nat.le_of_ble_eq_true rfl) (by decide) (by decide)
  refine lv_iload_n hx hb dX4_out_15 rfl (lv_at hl 2 rfl) ?_
  refine lv_if_lt (tgt := 24) hx hb dX4_out_16 (by decide) (fun hc3 => ?_) (fun hc3 => ?_)
  · rw [hQ]
    exact tm_throwNew hx hb (Launch.traces_off hfl B.admits) hown (by decide) (by decide) (own_iob htb htw hXS) (htb _ kC_X4_124) (htb _ kN_IndexOutOfBoundsException) (hl.1.trans hml.symm) dX4_out_24 dX4_out_27 dX4_out_28 dX4_out_31 (B.noHandlers (hts _ List.mem_cons_self)) hlocks (by decide) (Nat.le_of_ble_eq_true rfl) (by decide) (by decide)
  refine lv_iload_n hx hb dX4_out_19 rfl (lv_at hl 2 rfl) ?_
  refine lv_iconst (v := 4) hx hb dX4_out_20 (by decide) ?_
  refine lv_icmp_lt (tgt := 32) hx hb dX4_out_21 (by decide) (fun hc4 => ?_) (fun hc4 => ?_)
  · exact absurd hbad (by rintro (h | h | h | h); exact hc1 h; exact hc2 h; exact hc3 h; exact Int32.not_lt.mpr h hc4)
  rw [hQ]
  exact tm_throwNew hx hb (Launch.traces_off hfl B.admits) hown (by decide) (by decide) (own_iob htb htw hXS) (htb _ kC_X4_124) (htb _ kN_IndexOutOfBoundsException) (hl.1.trans hml.symm) dX4_out_24 dX4_out_27 dX4_out_28 dX4_out_31 (B.noHandlers (hts _ List.mem_cons_self)) hlocks (by decide) (Nat.le_of_ble_eq_true rfl) (by decide) (by decide)
