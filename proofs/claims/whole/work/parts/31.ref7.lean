theorem x14 : ∀ e, e < 22 → (e < 14 ↔ xI e < 8192) := by decide
theorem bN_1 {lo hg : Nat} (hlo : lo < 2 ^ 32) : bN (lo + 4294967296 * hg) 1 = lo / 256 % 256 := by
  show (lo + 4294967296 * hg) / 256 % 256 = _
  omega
theorem rF_some {i s : Int32} {e : Nat} (h : fd i s = some e) : rF i s = nI e := by unfold rF; rw [h]; rfl
theorem rF_none {i s : Int32} (h : fd i s = none) : rF i s = (if hi i = true then -1 else -2) := by unfold rF; rw [h]; rfl
set_option maxHeartbeats 4000000 in
set_option maxRecDepth 100000 in
theorem r_ask (l : Launch) (D : va_G) (b : Nat → Nat) (cA cJ : ClassId) (N : Int32) (f : Nat → Int32) (z : Int32) (ob : OB) (t : RT) (nd : ND) (q : Int64) (sg th : Int32) (lo hg : Nat) (sz : Nat) (tr : TR) (e d ad : Nat) (hB : isB f) (hBh : isB t.1) (ho : obK ob) (hlo : lo < 2 ^ 32) (hhg : hg < 2 ^ 32) (hN : trN tr e d ad) (hrel : rel tr t e d ad) : Met l yX5_ask (wX5_ask :: wb) ({ frames := 5, cells := 0, slots := 0, locals := 124 } : Room) (va_Pc [.ref (b 0), .long (lN (lo + 4294967296 * hg))] (zPre D [(cA, .int), (cJ, .long)] (rw0 b cA cJ N f (ro z ob) t nd q sg th) sz)) (zb_E none D vwCl (r4 b cA cJ N z th (kReq N f ob tr nd lo hg e d ad)) (fun y => rel2 (kReq N f ob tr nd lo hg e d ad).2.2.1 y.1) (va_A (rw0 b cA cJ N f (ro z ob) t nd q sg th) sz)) 0 0 (va_A (rw0 b cA cJ N f (ro z ob) t nd q sg th) sz) := by
  refine Met.ofW (cc := cX5_ask) (maxL := 5) (ret := none) (by decide) rfl ?_
  intro p ev s m args below meth c s₁ B hml hv
  obtain ⟨rfl, hsz, hP, hK, hD0, hSt, hnw⟩ := hv
  have hx := B.exec
  have hb := B.bytes
  have hr := B.returns
  have hts := atoms_spec (ws := wX5_ask :: wb) B.pre
  have htb : ∀ w ∈ wb, w.before ([.ref (b 0), .long (lN (lo + 4294967296 * hg))]).toArray s = true := fun w h => hts w (List.mem_cons_of_mem _ h)
  have hown : s.vm.findClass RX5 = some m.cls := findClass_of_methodNamed B.named
  have hlocks := B.notSynchronized
  subst hsz
  have hD := hD0.self (sz := s.heap.size)
  clear hD0
  generalize hAe : va_A (rw0 b cA cJ N f (ro z ob) t nd q sg th) s.heap.size = A at hD hSt ⊢
  have hA : ∀ q : Nat, s.heap.size ≤ q → A q := fun q h => by rw [← hAe]; exact Or.inr h
  have hS : va_S A s.heap s.heap [] := va_S.rf
  obtain ⟨⟨tt, ff, hZT, hTT, hZF, hTF⟩, hXS⟩ := id hSt
  have hl := lv_entry ([.ref (b 0), .long (lN (lo + 4294967296 * hg))]) (n := 5) (Nat.le_of_ble_eq_true rfl)
  rw [lg_entry_eq]
  generalize (lg_sl ([.ref (b 0), .long (lN (lo + 4294967296 * hg))]) ++ List.replicate (5 - (lg_sl ([.ref (b 0), .long (lN (lo + 4294967296 * hg))])).length) Slot.unset).toArray = ls at hl ⊢
  have hl : lv_has ls 5 [(0, .ref (b 0)), (1, .long (lN (lo + 4294967296 * hg)))] := hl
  refine zb_abs (fun Q hQ => ?_)
  have hxa := x_ad (lo := lo) (hg := hg) hlo
  have hR : rel2 tr t := ⟨e, d, ad, hN, hrel⟩
  refine lv_aload_n hx hb dX5_ask_0 rfl (lv_at hl 0 rfl) ?_
  refine lv_lload_n hx hb dX5_ask_1 rfl (lv_at hl 1 rfl) ?_
  refine va_put (D := D) (ci := 5) (v := .long (lN (lo + 4294967296 * hg))) (fs := [.int th, .int N, .ref (b 1), .ref (b 2), .ref (b 3), .ref (b 4), .ref (b 5), .ref (b 6), .int 22, .int 95, .int nd.1, .int nd.2.2.1, .int nd.2.1, .long nd.2.2.2, .int t.2.1, .int t.2.2.1, .int t.2.2.2.1, .int t.2.2.2.2.1, .int t.2.2.2.2.2, .ref (b 7), .long q, .int sg, .ref (b 8), .ref (b 9), .ref (b 10), .int ((ro z ob).2.2.2.1), .int ((ro z ob).2.2.2.2)]) (ty := .long) (C := RX5) (T := TX5) (N := 27) hx hb htb inX5 tyX5 tyX5_ok nmX5 hown hK hP hD hS 0 rfl rfl 20 (by decide) (htb _ kF_X5_123) (fun _ h9 => h9) rfl (by decide +kernel) rfl rfl (Nat.le_of_ble_eq_true rfl) dX5_ask_2 (fun H locs hP hD hS => ?_)
  have hP : va_P D vwCl (rw0 b cA cJ N f (ro z ob) t nd (lN (lo + 4294967296 * hg)) sg th) H := hP
  have hD : va_D A (rw0 b cA cJ N f (ro z ob) t nd (lN (lo + 4294967296 * hg)) sg th) := hD
  refine lv_lload_n hx hb dX5_ask_5 rfl (lv_at hl 1 rfl) ?_
  refine lv_iconst (v := 0) hx hb dX5_ask_6 (by decide) ?_
  refine zb_ci (va_runS (As := [.long (lN (lo + 4294967296 * hg)), .int 0]) (rest := []) ⟨hx, hb, hml, hown, htb⟩ (r_byteOf l D b cA cJ N f (ro z ob) t nd (lN (lo + 4294967296 * hg)) sg th (lo + 4294967296 * hg) 0 (by omega)) (va_cwS 2 htb (wb_S kM_X5_119 kZ_X5_byteOf kN_X5 kD_X5_byteOf) rfl rfl rfl (by decide +kernel) ⟨Nat.le_of_ble_eq_true rfl, Nat.le_of_ble_eq_true rfl⟩) (zp_S hP hK hSt hS hnw) rfl rfl hl.1 rfl (lv_room (Nat.le_of_ble_eq_true rfl)) dX5_ask_7 ⟨Nat.le_of_ble_eq_true rfl, Nat.le_of_ble_eq_true rfl⟩) ?_
  refine zb_ti (y := nI (lo % 256)) (by rw [hxa.2.2.2.1]) ?_
  refine lv_istore_n hx hb dX5_ask_10 rfl hl (by decide) rfl (fun ls hl => ?_)
  have hl : lv_has ls 5 [(3, .int (nI (lo % 256))), (0, .ref (b 0)), (1, .long (lN (lo + 4294967296 * hg)))] := hl
  refine lv_iload_n hx hb dX5_ask_11 rfl (lv_at hl 0 rfl) ?_
  refine lv_iconst (v := 5) hx hb dX5_ask_12 (by decide) ?_
  refine lv_ishr hx hb dX5_ask_13 ?_
  refine zb_ti (y := nI (lo % 256 / 32)) (sh5 (by omega)) ?_
  refine lv_istore hx hb dX5_ask_14 hl (by decide) rfl (fun ls hl => ?_)
  have hl : lv_has ls 5 [(4, .int (nI (lo % 256 / 32))), (3, .int (nI (lo % 256))), (0, .ref (b 0)), (1, .long (lN (lo + 4294967296 * hg)))] := hl
  rcases (show lo % 256 / 32 = 0 ∨ lo % 256 / 32 = 1 ∨ lo % 256 / 32 = 2 ∨ lo % 256 / 32 = 3 ∨ lo % 256 / 32 = 4 ∨ 5 ≤ lo % 256 / 32 by omega) with hc | hc | hc | hc | hc | hc
  · have e1 : (nI (lo % 256 / 32) : Int32) = 0 := by rw [hc]; rfl
    have hl : lv_has ls 5 [(4, .int 0), (3, .int (nI (lo % 256))), (0, .ref (b 0)), (1, .long (lN (lo + 4294967296 * hg)))] := Eq.mp (congrArg (fun zz9 : Int32 => lv_has ls 5 [(4, .int zz9), (3, .int (nI (lo % 256))), (0, .ref (b 0)), (1, .long (lN (lo + 4294967296 * hg)))]) e1) hl
    refine lv_aload_n hx hb dX5_ask_16 rfl (lv_at hl 2 rfl) ?_
    refine lv_iload hx hb dX5_ask_17 (lv_at hl 0 rfl) ?_
    refine lv_if_eq (tgt := 28) hx hb dX5_ask_19 (by decide) (fun _ => ?_) (fun hno => absurd (by decide) hno)
    refine lv_iconst (v := 1) hx hb dX5_ask_28 (by decide) ?_
    refine lv_goto (tgt := 33) hx hb dX5_ask_29 (by decide) ?_
    refine va_put (D := D) (ci := 5) (v := .int 1) (fs := [.int th, .int N, .ref (b 1), .ref (b 2), .ref (b 3), .ref (b 4), .ref (b 5), .ref (b 6), .int 22, .int 95, .int nd.1, .int nd.2.2.1, .int nd.2.1, .long nd.2.2.2, .int t.2.1, .int t.2.2.1, .int t.2.2.2.1, .int t.2.2.2.2.1, .int t.2.2.2.2.2, .ref (b 7), .long (lN (lo + 4294967296 * hg)), .int sg, .ref (b 8), .ref (b 9), .ref (b 10), .int ((ro z ob).2.2.2.1), .int ((ro z ob).2.2.2.2)]) (ty := .boolean) (C := RX5) (T := TX5) (N := 27) hx hb htb inX5 tyX5 tyX5_ok nmX5 hown hK hP hD hS 0 rfl rfl 21 (by decide) (htb _ kF_X5_148) (fun _ h9 => h9) rfl (by decide +kernel) rfl rfl (Nat.le_of_ble_eq_true rfl) dX5_ask_33 (fun H locs hP hD hS => ?_)
    have hP : va_P D vwCl (rw0 b cA cJ N f (ro z ob) t nd (lN (lo + 4294967296 * hg)) 1 th) H := hP
    have hD : va_D A (rw0 b cA cJ N f (ro z ob) t nd (lN (lo + 4294967296 * hg)) 1 th) := hD
    refine lv_iload hx hb dX5_ask_36 (lv_at hl 0 rfl) ?_
    refine lv_tableIn (off := 34) (tgt := 72) hx hb dX5_ask_38 (by decide) (by decide) rfl (by decide) ?_
    refine lv_aload_n hx hb dX5_ask_72 rfl (lv_at hl 2 rfl) ?_
    refine lv_iload_n hx hb dX5_ask_73 rfl (lv_at hl 1 rfl) ?_
    refine zb_ce (va_runV (As := [.int (nI (lo % 256))]) (rest := []) ⟨hx, hb, hml, hown, htb⟩ (r_wseg l D b cA cJ N f z ob t nd lo hg th _ tr (lo % 256) e d ad hB hBh ho hlo hhg (by omega) hN hrel) (cwV 1 htb (wb_V kM_X5_175 kI_X5_writeSegment kS_X5_writeSegment kN_X5 kD_X5_writeSegment) rfl rfl rfl (by decide +kernel) ⟨Nat.le_of_ble_eq_true rfl, Nat.le_of_ble_eq_true rfl⟩) (zp_VW 0 rfl rfl hP hD hK hSt hS hA hnw) rfl rfl hl.1 rfl (lv_room (Nat.le_of_ble_eq_true rfl)) dX5_ask_74 ⟨Nat.le_of_ble_eq_true rfl, Nat.le_of_ble_eq_true rfl⟩) hD hS hA (fun y2 hy3 H locs hP hD hS => ?_)
    have hP : va_P D vwCl (rw0 b cA cJ N ((kWSeg N f ob tr nd (lo % 256) ((lo + 4294967296 * hg) / 256) e d ad).1) (ro z ((kWSeg N f ob tr nd (lo % 256) ((lo + 4294967296 * hg) / 256) e d ad).2.1)) y2.1 ((kWSeg N f ob tr nd (lo % 256) ((lo + 4294967296 * hg) / 256) e d ad).2.2.2) y2.2.1 y2.2.2 th) H := hP
    have hD : va_D A (rw0 b cA cJ N ((kWSeg N f ob tr nd (lo % 256) ((lo + 4294967296 * hg) / 256) e d ad).1) (ro z ((kWSeg N f ob tr nd (lo % 256) ((lo + 4294967296 * hg) / 256) e d ad).2.1)) y2.1 ((kWSeg N f ob tr nd (lo % 256) ((lo + 4294967296 * hg) / 256) e d ad).2.2.2) y2.2.1 y2.2.2 th) := hD
    refine lv_goto (tgt := 118) hx hb dX5_ask_77 (by decide) ?_
    have hK9 : kReq N f ob tr nd lo hg e d ad = kWSeg N f ob tr nd (lo % 256) ((lo + 4294967296 * hg) / 256) e d ad := by simp only [kReq, if_pos hc]
    rw [hQ]
    have hw9 : (rw0 b cA cJ N ((kWSeg N f ob tr nd (lo % 256) ((lo + 4294967296 * hg) / 256) e d ad).1) (ro z ((kWSeg N f ob tr nd (lo % 256) ((lo + 4294967296 * hg) / 256) e d ad).2.1)) y2.1 ((kWSeg N f ob tr nd (lo % 256) ((lo + 4294967296 * hg) / 256) e d ad).2.2.2) y2.2.1 y2.2.2 th) = r4 b cA cJ N z th (kReq N f ob tr nd lo hg e d ad) (y2.1, y2.2.1, y2.2.2) := by rw [hK9]; rfl
    have hr9 : rel2 (kReq N f ob tr nd lo hg e d ad).2.2.1 y2.1 := by rw [hK9]; exact hy3
    exact W.vret hx hb hr (fun t9 ht hW => ⟨rfl, (y2.1, y2.2.1, y2.2.2), hr9, by rw [ht, ← hw9]; exact hP, by rw [← hw9]; exact hD, hS.F ht⟩) hS.2.2 dX5_ask_118
  · have e4 : (nI (lo % 256 / 32) : Int32) = 1 := by rw [hc]; rfl
    have hl : lv_has ls 5 [(4, .int 1), (3, .int (nI (lo % 256))), (0, .ref (b 0)), (1, .long (lN (lo + 4294967296 * hg)))] := Eq.mp (congrArg (fun zz9 : Int32 => lv_has ls 5 [(4, .int zz9), (3, .int (nI (lo % 256))), (0, .ref (b 0)), (1, .long (lN (lo + 4294967296 * hg)))]) e4) hl
    refine lv_aload_n hx hb dX5_ask_16 rfl (lv_at hl 2 rfl) ?_
    refine lv_iload hx hb dX5_ask_17 (lv_at hl 0 rfl) ?_
    refine lv_if_eq (tgt := 28) hx hb dX5_ask_19 (by decide) (fun hno => absurd hno (by decide)) (fun _ => ?_)
    refine lv_iload hx hb dX5_ask_22 (lv_at hl 0 rfl) ?_
    refine lv_iconst (v := 3) hx hb dX5_ask_24 (by decide) ?_
    refine lv_icmp_ne (tgt := 32) hx hb dX5_ask_25 (by decide) (fun _ => ?_) (fun hno => absurd hno (by decide))
    refine lv_iconst (v := 0) hx hb dX5_ask_32 (by decide) ?_
    refine va_put (D := D) (ci := 5) (v := .int 0) (fs := [.int th, .int N, .ref (b 1), .ref (b 2), .ref (b 3), .ref (b 4), .ref (b 5), .ref (b 6), .int 22, .int 95, .int nd.1, .int nd.2.2.1, .int nd.2.1, .long nd.2.2.2, .int t.2.1, .int t.2.2.1, .int t.2.2.2.1, .int t.2.2.2.2.1, .int t.2.2.2.2.2, .ref (b 7), .long (lN (lo + 4294967296 * hg)), .int sg, .ref (b 8), .ref (b 9), .ref (b 10), .int ((ro z ob).2.2.2.1), .int ((ro z ob).2.2.2.2)]) (ty := .boolean) (C := RX5) (T := TX5) (N := 27) hx hb htb inX5 tyX5 tyX5_ok nmX5 hown hK hP hD hS 0 rfl rfl 21 (by decide) (htb _ kF_X5_148) (fun _ h9 => h9) rfl (by decide +kernel) rfl rfl (Nat.le_of_ble_eq_true rfl) dX5_ask_33 (fun H locs hP hD hS => ?_)
    have hP : va_P D vwCl (rw0 b cA cJ N f (ro z ob) t nd (lN (lo + 4294967296 * hg)) 0 th) H := hP
    have hD : va_D A (rw0 b cA cJ N f (ro z ob) t nd (lN (lo + 4294967296 * hg)) 0 th) := hD
    refine lv_iload hx hb dX5_ask_36 (lv_at hl 0 rfl) ?_
    refine lv_tableIn (off := 42) (tgt := 80) hx hb dX5_ask_38 (by decide) (by decide) rfl (by decide) ?_
    refine lv_aload_n hx hb dX5_ask_80 rfl (lv_at hl 2 rfl) ?_
    refine lv_iload_n hx hb dX5_ask_81 rfl (lv_at hl 1 rfl) ?_
    refine zb_ce (va_runV (As := [.int (nI (lo % 256))]) (rest := []) ⟨hx, hb, hml, hown, htb⟩ (r_write l D b cA cJ N f z ob t nd lo hg th _ tr (lo % 256) hB ho hlo hhg hR hBh (by omega)) (cwV 1 htb (wb_V kM_X5_178 kI_X5_write kS_X5_write kN_X5 kD_X5_write) rfl rfl rfl (by decide +kernel) ⟨Nat.le_of_ble_eq_true rfl, Nat.le_of_ble_eq_true rfl⟩) (zp_VW 0 rfl rfl hP hD hK hSt hS hA hnw) rfl rfl hl.1 rfl (lv_room (Nat.le_of_ble_eq_true rfl)) dX5_ask_82 ⟨Nat.le_of_ble_eq_true rfl, Nat.le_of_ble_eq_true rfl⟩) hD hS hA (fun y5 hy6 H locs hP hD hS => ?_)
    have hP : va_P D vwCl (rw0 b cA cJ N ((kWrite N f ob tr nd (lo % 256) (lo / 256) hg).1) (ro z ((kWrite N f ob tr nd (lo % 256) (lo / 256) hg).2.1)) y5.1 ((kWrite N f ob tr nd (lo % 256) (lo / 256) hg).2.2.2) y5.2.1 y5.2.2 th) H := hP
    have hD : va_D A (rw0 b cA cJ N ((kWrite N f ob tr nd (lo % 256) (lo / 256) hg).1) (ro z ((kWrite N f ob tr nd (lo % 256) (lo / 256) hg).2.1)) y5.1 ((kWrite N f ob tr nd (lo % 256) (lo / 256) hg).2.2.2) y5.2.1 y5.2.2 th) := hD
    refine lv_goto (tgt := 118) hx hb dX5_ask_85 (by decide) ?_
    have hK9 : kReq N f ob tr nd lo hg e d ad = kWrite N f ob tr nd (lo % 256) (lo / 256) hg := by simp only [kReq, if_neg (show ¬ lo % 256 / 32 = 0 by omega), if_pos hc]
    rw [hQ]
    have hw9 : (rw0 b cA cJ N ((kWrite N f ob tr nd (lo % 256) (lo / 256) hg).1) (ro z ((kWrite N f ob tr nd (lo % 256) (lo / 256) hg).2.1)) y5.1 ((kWrite N f ob tr nd (lo % 256) (lo / 256) hg).2.2.2) y5.2.1 y5.2.2 th) = r4 b cA cJ N z th (kReq N f ob tr nd lo hg e d ad) (y5.1, y5.2.1, y5.2.2) := by rw [hK9]; rfl
    have hr9 : rel2 (kReq N f ob tr nd lo hg e d ad).2.2.1 y5.1 := by rw [hK9]; exact hy6
    exact W.vret hx hb hr (fun t9 ht hW => ⟨rfl, (y5.1, y5.2.1, y5.2.2), hr9, by rw [ht, ← hw9]; exact hP, by rw [← hw9]; exact hD, hS.F ht⟩) hS.2.2 dX5_ask_118
  · have e7 : (nI (lo % 256 / 32) : Int32) = 2 := by rw [hc]; rfl
    have hl : lv_has ls 5 [(4, .int 2), (3, .int (nI (lo % 256))), (0, .ref (b 0)), (1, .long (lN (lo + 4294967296 * hg)))] := Eq.mp (congrArg (fun zz9 : Int32 => lv_has ls 5 [(4, .int zz9), (3, .int (nI (lo % 256))), (0, .ref (b 0)), (1, .long (lN (lo + 4294967296 * hg)))]) e7) hl
    refine lv_aload_n hx hb dX5_ask_16 rfl (lv_at hl 2 rfl) ?_
    refine lv_iload hx hb dX5_ask_17 (lv_at hl 0 rfl) ?_
    refine lv_if_eq (tgt := 28) hx hb dX5_ask_19 (by decide) (fun hno => absurd hno (by decide)) (fun _ => ?_)
    refine lv_iload hx hb dX5_ask_22 (lv_at hl 0 rfl) ?_
    refine lv_iconst (v := 3) hx hb dX5_ask_24 (by decide) ?_
    refine lv_icmp_ne (tgt := 32) hx hb dX5_ask_25 (by decide) (fun _ => ?_) (fun hno => absurd hno (by decide))
    refine lv_iconst (v := 0) hx hb dX5_ask_32 (by decide) ?_
    refine va_put (D := D) (ci := 5) (v := .int 0) (fs := [.int th, .int N, .ref (b 1), .ref (b 2), .ref (b 3), .ref (b 4), .ref (b 5), .ref (b 6), .int 22, .int 95, .int nd.1, .int nd.2.2.1, .int nd.2.1, .long nd.2.2.2, .int t.2.1, .int t.2.2.1, .int t.2.2.2.1, .int t.2.2.2.2.1, .int t.2.2.2.2.2, .ref (b 7), .long (lN (lo + 4294967296 * hg)), .int sg, .ref (b 8), .ref (b 9), .ref (b 10), .int ((ro z ob).2.2.2.1), .int ((ro z ob).2.2.2.2)]) (ty := .boolean) (C := RX5) (T := TX5) (N := 27) hx hb htb inX5 tyX5 tyX5_ok nmX5 hown hK hP hD hS 0 rfl rfl 21 (by decide) (htb _ kF_X5_148) (fun _ h9 => h9) rfl (by decide +kernel) rfl rfl (Nat.le_of_ble_eq_true rfl) dX5_ask_33 (fun H locs hP hD hS => ?_)
    have hP : va_P D vwCl (rw0 b cA cJ N f (ro z ob) t nd (lN (lo + 4294967296 * hg)) 0 th) H := hP
    have hD : va_D A (rw0 b cA cJ N f (ro z ob) t nd (lN (lo + 4294967296 * hg)) 0 th) := hD
    refine lv_iload hx hb dX5_ask_36 (lv_at hl 0 rfl) ?_
    refine lv_tableIn (off := 50) (tgt := 88) hx hb dX5_ask_38 (by decide) (by decide) rfl (by decide) ?_
    refine lv_aload_n hx hb dX5_ask_88 rfl (lv_at hl 2 rfl) ?_
    refine zb_ce (va_runV (As := []) (rest := []) ⟨hx, hb, hml, hown, htb⟩ (r_read l D b cA cJ N f z ob t nd lo hg th _ tr hB ho hlo hhg hR) (cwV 0 htb (wb_V kM_X5_181 kI_X5_read kS_X5_read kN_X5 kD_X5_read) rfl rfl rfl (by decide +kernel) ⟨Nat.le_of_ble_eq_true rfl, Nat.le_of_ble_eq_true rfl⟩) (zp_VW 0 rfl rfl hP hD hK hSt hS hA hnw) rfl rfl hl.1 rfl (lv_room (Nat.le_of_ble_eq_true rfl)) dX5_ask_89 ⟨Nat.le_of_ble_eq_true rfl, Nat.le_of_ble_eq_true rfl⟩) hD hS hA (fun y8 hy9 H locs hP hD hS => ?_)
    have hP : va_P D vwCl (rw0 b cA cJ N ((kRead N f ob tr nd (lo / 256)).1) (ro z ((kRead N f ob tr nd (lo / 256)).2.1)) y8.1 ((kRead N f ob tr nd (lo / 256)).2.2.2) y8.2.1 y8.2.2 th) H := hP
    have hD : va_D A (rw0 b cA cJ N ((kRead N f ob tr nd (lo / 256)).1) (ro z ((kRead N f ob tr nd (lo / 256)).2.1)) y8.1 ((kRead N f ob tr nd (lo / 256)).2.2.2) y8.2.1 y8.2.2 th) := hD
    refine lv_goto (tgt := 118) hx hb dX5_ask_92 (by decide) ?_
    have hK9 : kReq N f ob tr nd lo hg e d ad = kRead N f ob tr nd (lo / 256) := by simp only [kReq, if_neg (show ¬ lo % 256 / 32 = 0 by omega), if_neg (show ¬ lo % 256 / 32 = 1 by omega), if_pos hc]
    rw [hQ]
    have hw9 : (rw0 b cA cJ N ((kRead N f ob tr nd (lo / 256)).1) (ro z ((kRead N f ob tr nd (lo / 256)).2.1)) y8.1 ((kRead N f ob tr nd (lo / 256)).2.2.2) y8.2.1 y8.2.2 th) = r4 b cA cJ N z th (kReq N f ob tr nd lo hg e d ad) (y8.1, y8.2.1, y8.2.2) := by rw [hK9]; rfl
    have hr9 : rel2 (kReq N f ob tr nd lo hg e d ad).2.2.1 y8.1 := by rw [hK9]; exact hy9
    exact W.vret hx hb hr (fun t9 ht hW => ⟨rfl, (y8.1, y8.2.1, y8.2.2), hr9, by rw [ht, ← hw9]; exact hP, by rw [← hw9]; exact hD, hS.F ht⟩) hS.2.2 dX5_ask_118
  · have e10 : (nI (lo % 256 / 32) : Int32) = 3 := by rw [hc]; rfl
    have hl : lv_has ls 5 [(4, .int 3), (3, .int (nI (lo % 256))), (0, .ref (b 0)), (1, .long (lN (lo + 4294967296 * hg)))] := Eq.mp (congrArg (fun zz9 : Int32 => lv_has ls 5 [(4, .int zz9), (3, .int (nI (lo % 256))), (0, .ref (b 0)), (1, .long (lN (lo + 4294967296 * hg)))]) e10) hl
    refine lv_aload_n hx hb dX5_ask_16 rfl (lv_at hl 2 rfl) ?_
    refine lv_iload hx hb dX5_ask_17 (lv_at hl 0 rfl) ?_
    refine lv_if_eq (tgt := 28) hx hb dX5_ask_19 (by decide) (fun hno => absurd hno (by decide)) (fun _ => ?_)
    refine lv_iload hx hb dX5_ask_22 (lv_at hl 0 rfl) ?_
    refine lv_iconst (v := 3) hx hb dX5_ask_24 (by decide) ?_
    refine lv_icmp_ne (tgt := 32) hx hb dX5_ask_25 (by decide) (fun hno => absurd (by decide) hno) (fun _ => ?_)
    refine lv_iconst (v := 1) hx hb dX5_ask_28 (by decide) ?_
    refine lv_goto (tgt := 33) hx hb dX5_ask_29 (by decide) ?_
    refine va_put (D := D) (ci := 5) (v := .int 1) (fs := [.int th, .int N, .ref (b 1), .ref (b 2), .ref (b 3), .ref (b 4), .ref (b 5), .ref (b 6), .int 22, .int 95, .int nd.1, .int nd.2.2.1, .int nd.2.1, .long nd.2.2.2, .int t.2.1, .int t.2.2.1, .int t.2.2.2.1, .int t.2.2.2.2.1, .int t.2.2.2.2.2, .ref (b 7), .long (lN (lo + 4294967296 * hg)), .int sg, .ref (b 8), .ref (b 9), .ref (b 10), .int ((ro z ob).2.2.2.1), .int ((ro z ob).2.2.2.2)]) (ty := .boolean) (C := RX5) (T := TX5) (N := 27) hx hb htb inX5 tyX5 tyX5_ok nmX5 hown hK hP hD hS 0 rfl rfl 21 (by decide) (htb _ kF_X5_148) (fun _ h9 => h9) rfl (by decide +kernel) rfl rfl (Nat.le_of_ble_eq_true rfl) dX5_ask_33 (fun H locs hP hD hS => ?_)
    have hP : va_P D vwCl (rw0 b cA cJ N f (ro z ob) t nd (lN (lo + 4294967296 * hg)) 1 th) H := hP
    have hD : va_D A (rw0 b cA cJ N f (ro z ob) t nd (lN (lo + 4294967296 * hg)) 1 th) := hD
    refine lv_iload hx hb dX5_ask_36 (lv_at hl 0 rfl) ?_
    refine lv_tableIn (off := 57) (tgt := 95) hx hb dX5_ask_38 (by decide) (by decide) rfl (by decide) ?_
    refine lv_aload_n hx hb dX5_ask_95 rfl (lv_at hl 2 rfl) ?_
    refine lv_iload_n hx hb dX5_ask_96 rfl (lv_at hl 1 rfl) ?_
    refine zb_ce (va_runV (As := [.int (nI (lo % 256))]) (rest := []) ⟨hx, hb, hml, hown, htb⟩ (r_rseg l D b cA cJ N f z ob t nd lo hg th _ tr (lo % 256) e d ad hB hBh ho hlo hhg (by omega) hN hrel) (cwV 1 htb (wb_V kM_X5_184 kI_X5_readSegment kS_X5_readSegment kN_X5 kD_X5_readSegment) rfl rfl rfl (by decide +kernel) ⟨Nat.le_of_ble_eq_true rfl, Nat.le_of_ble_eq_true rfl⟩) (zp_VW 0 rfl rfl hP hD hK hSt hS hA hnw) rfl rfl hl.1 rfl (lv_room (Nat.le_of_ble_eq_true rfl)) dX5_ask_97 ⟨Nat.le_of_ble_eq_true rfl, Nat.le_of_ble_eq_true rfl⟩) hD hS hA (fun y11 hy12 H locs hP hD hS => ?_)
    have hP : va_P D vwCl (rw0 b cA cJ N ((kRSeg N f ob tr nd (lo % 256) e d ad).1) (ro z ((kRSeg N f ob tr nd (lo % 256) e d ad).2.1)) y11.1 ((kRSeg N f ob tr nd (lo % 256) e d ad).2.2.2) y11.2.1 y11.2.2 th) H := hP
    have hD : va_D A (rw0 b cA cJ N ((kRSeg N f ob tr nd (lo % 256) e d ad).1) (ro z ((kRSeg N f ob tr nd (lo % 256) e d ad).2.1)) y11.1 ((kRSeg N f ob tr nd (lo % 256) e d ad).2.2.2) y11.2.1 y11.2.2 th) := hD
    refine lv_goto (tgt := 118) hx hb dX5_ask_100 (by decide) ?_
    have hK9 : kReq N f ob tr nd lo hg e d ad = kRSeg N f ob tr nd (lo % 256) e d ad := by simp only [kReq, if_neg (show ¬ lo % 256 / 32 = 0 by omega), if_neg (show ¬ lo % 256 / 32 = 1 by omega), if_neg (show ¬ lo % 256 / 32 = 2 by omega), if_pos hc]
    rw [hQ]
    have hw9 : (rw0 b cA cJ N ((kRSeg N f ob tr nd (lo % 256) e d ad).1) (ro z ((kRSeg N f ob tr nd (lo % 256) e d ad).2.1)) y11.1 ((kRSeg N f ob tr nd (lo % 256) e d ad).2.2.2) y11.2.1 y11.2.2 th) = r4 b cA cJ N z th (kReq N f ob tr nd lo hg e d ad) (y11.1, y11.2.1, y11.2.2) := by rw [hK9]; rfl
    have hr9 : rel2 (kReq N f ob tr nd lo hg e d ad).2.2.1 y11.1 := by rw [hK9]; exact hy12
    exact W.vret hx hb hr (fun t9 ht hW => ⟨rfl, (y11.1, y11.2.1, y11.2.2), hr9, by rw [ht, ← hw9]; exact hP, by rw [← hw9]; exact hD, hS.F ht⟩) hS.2.2 dX5_ask_118
  · have e13 : (nI (lo % 256 / 32) : Int32) = 4 := by rw [hc]; rfl
    have hl : lv_has ls 5 [(4, .int 4), (3, .int (nI (lo % 256))), (0, .ref (b 0)), (1, .long (lN (lo + 4294967296 * hg)))] := Eq.mp (congrArg (fun zz9 : Int32 => lv_has ls 5 [(4, .int zz9), (3, .int (nI (lo % 256))), (0, .ref (b 0)), (1, .long (lN (lo + 4294967296 * hg)))]) e13) hl
    refine lv_aload_n hx hb dX5_ask_16 rfl (lv_at hl 2 rfl) ?_
    refine lv_iload hx hb dX5_ask_17 (lv_at hl 0 rfl) ?_
    refine lv_if_eq (tgt := 28) hx hb dX5_ask_19 (by decide) (fun hno => absurd hno (by decide)) (fun _ => ?_)
    refine lv_iload hx hb dX5_ask_22 (lv_at hl 0 rfl) ?_
    refine lv_iconst (v := 3) hx hb dX5_ask_24 (by decide) ?_
    refine lv_icmp_ne (tgt := 32) hx hb dX5_ask_25 (by decide) (fun _ => ?_) (fun hno => absurd hno (by decide))
    refine lv_iconst (v := 0) hx hb dX5_ask_32 (by decide) ?_
    refine va_put (D := D) (ci := 5) (v := .int 0) (fs := [.int th, .int N, .ref (b 1), .ref (b 2), .ref (b 3), .ref (b 4), .ref (b 5), .ref (b 6), .int 22, .int 95, .int nd.1, .int nd.2.2.1, .int nd.2.1, .long nd.2.2.2, .int t.2.1, .int t.2.2.1, .int t.2.2.2.1, .int t.2.2.2.2.1, .int t.2.2.2.2.2, .ref (b 7), .long (lN (lo + 4294967296 * hg)), .int sg, .ref (b 8), .ref (b 9), .ref (b 10), .int ((ro z ob).2.2.2.1), .int ((ro z ob).2.2.2.2)]) (ty := .boolean) (C := RX5) (T := TX5) (N := 27) hx hb htb inX5 tyX5 tyX5_ok nmX5 hown hK hP hD hS 0 rfl rfl 21 (by decide) (htb _ kF_X5_148) (fun _ h9 => h9) rfl (by decide +kernel) rfl rfl (Nat.le_of_ble_eq_true rfl) dX5_ask_33 (fun H locs hP hD hS => ?_)
    have hP : va_P D vwCl (rw0 b cA cJ N f (ro z ob) t nd (lN (lo + 4294967296 * hg)) 0 th) H := hP
    have hD : va_D A (rw0 b cA cJ N f (ro z ob) t nd (lN (lo + 4294967296 * hg)) 0 th) := hD
    refine lv_iload hx hb dX5_ask_36 (lv_at hl 0 rfl) ?_
    refine lv_tableIn (off := 65) (tgt := 103) hx hb dX5_ask_38 (by decide) (by decide) rfl (by decide) ?_
    refine lv_aload_n hx hb dX5_ask_103 rfl (lv_at hl 2 rfl) ?_
    refine lv_iconst (v := 0) hx hb dX5_ask_104 (by decide) ?_
    refine va_put (D := D) (ci := 5) (v := .int 0) (fs := [.int th, .int N, .ref (b 1), .ref (b 2), .ref (b 3), .ref (b 4), .ref (b 5), .ref (b 6), .int 22, .int 95, .int nd.1, .int nd.2.2.1, .int nd.2.1, .long nd.2.2.2, .int t.2.1, .int t.2.2.1, .int t.2.2.2.1, .int t.2.2.2.2.1, .int t.2.2.2.2.2, .ref (b 7), .long (lN (lo + 4294967296 * hg)), .int 0, .ref (b 8), .ref (b 9), .ref (b 10), .int ((ro z ob).2.2.2.1), .int ((ro z ob).2.2.2.2)]) (ty := .int) (C := RX5) (T := TX5) (N := 27) hx hb htb inX5 tyX5 tyX5_ok nmX5 hown hK hP hD hS 0 rfl rfl 14 (by decide) (htb _ kF_X5_85) (fun _ h9 => h9) rfl (by decide +kernel) rfl rfl (Nat.le_of_ble_eq_true rfl) dX5_ask_105 (fun H locs hP hD hS => ?_)
    have hP : va_P D vwCl (rw0 b cA cJ N f (ro z ob) (t.1, 0, t.2.2.1, t.2.2.2.1, t.2.2.2.2.1, t.2.2.2.2.2) nd (lN (lo + 4294967296 * hg)) 0 th) H := hP
    have hD : va_D A (rw0 b cA cJ N f (ro z ob) (t.1, 0, t.2.2.1, t.2.2.2.1, t.2.2.2.2.1, t.2.2.2.2.2) nd (lN (lo + 4294967296 * hg)) 0 th) := hD
    refine lv_goto (tgt := 118) hx hb dX5_ask_108 (by decide) ?_
    have hK9 : kReq N f ob tr nd lo hg e d ad = (f, ob, tr_end tr, nd) := by simp only [kReq, if_neg (show ¬ lo % 256 / 32 = 0 by omega), if_neg (show ¬ lo % 256 / 32 = 1 by omega), if_neg (show ¬ lo % 256 / 32 = 2 by omega), if_neg (show ¬ lo % 256 / 32 = 3 by omega), if_pos hc]
    rw [hQ]
    have hw9 : (rw0 b cA cJ N f (ro z ob) (t.1, 0, t.2.2.1, t.2.2.2.1, t.2.2.2.2.1, t.2.2.2.2.2) nd (lN (lo + 4294967296 * hg)) 0 th) = r4 b cA cJ N z th (kReq N f ob tr nd lo hg e d ad) ((t.1, 0, t.2.2.1, t.2.2.2.1, t.2.2.2.2.1, t.2.2.2.2.2), (lN (lo + 4294967296 * hg)), 0) := by rw [hK9]; rfl
    have hr9 : rel2 (kReq N f ob tr nd lo hg e d ad).2.2.1 (t.1, 0, t.2.2.1, t.2.2.2.1, t.2.2.2.2.1, t.2.2.2.2.2) := by rw [hK9]; exact rel2_off hR _
    exact W.vret hx hb hr (fun t9 ht hW => ⟨rfl, ((t.1, 0, t.2.2.1, t.2.2.2.1, t.2.2.2.2.1, t.2.2.2.2.2), (lN (lo + 4294967296 * hg)), 0), hr9, by rw [ht, ← hw9]; exact hP, by rw [← hw9]; exact hD, hS.F ht⟩) hS.2.2 dX5_ask_118
  · refine lv_aload_n hx hb dX5_ask_16 rfl (lv_at hl 2 rfl) ?_
    refine lv_iload hx hb dX5_ask_17 (lv_at hl 0 rfl) ?_
    refine lv_if_eq (tgt := 28) hx hb dX5_ask_19 (by decide) (fun hno => absurd hno (fun h => by have := (nI_eq (b := 0) (by omega) (by decide)).mp h; omega)) (fun _ => ?_)
    refine lv_iload hx hb dX5_ask_22 (lv_at hl 0 rfl) ?_
    refine lv_iconst (v := 3) hx hb dX5_ask_24 (by decide) ?_
    refine lv_icmp_ne (tgt := 32) hx hb dX5_ask_25 (by decide) (fun _ => ?_) (fun hno => absurd hno (fun h => by have := (nI_eq (b := 3) (by omega) (by decide)).mp h; omega))
    refine lv_iconst (v := 0) hx hb dX5_ask_32 (by decide) ?_
    refine va_put (D := D) (ci := 5) (v := .int 0) (fs := [.int th, .int N, .ref (b 1), .ref (b 2), .ref (b 3), .ref (b 4), .ref (b 5), .ref (b 6), .int 22, .int 95, .int nd.1, .int nd.2.2.1, .int nd.2.1, .long nd.2.2.2, .int t.2.1, .int t.2.2.1, .int t.2.2.2.1, .int t.2.2.2.2.1, .int t.2.2.2.2.2, .ref (b 7), .long (lN (lo + 4294967296 * hg)), .int sg, .ref (b 8), .ref (b 9), .ref (b 10), .int ((ro z ob).2.2.2.1), .int ((ro z ob).2.2.2.2)]) (ty := .boolean) (C := RX5) (T := TX5) (N := 27) hx hb htb inX5 tyX5 tyX5_ok nmX5 hown hK hP hD hS 0 rfl rfl 21 (by decide) (htb _ kF_X5_148) (fun _ h9 => h9) rfl (by decide +kernel) rfl rfl (Nat.le_of_ble_eq_true rfl) dX5_ask_33 (fun H locs hP hD hS => ?_)
    have hP : va_P D vwCl (rw0 b cA cJ N f (ro z ob) t nd (lN (lo + 4294967296 * hg)) 0 th) H := hP
    have hD : va_D A (rw0 b cA cJ N f (ro z ob) t nd (lN (lo + 4294967296 * hg)) 0 th) := hD
    refine lv_iload hx hb dX5_ask_36 (lv_at hl 0 rfl) ?_
    refine lv_tableOut (tgt := 111) hx hb dX5_ask_38 (by rw [nI_toInt (by omega)]; omega) (by decide) ?_
    refine lv_aload_n hx hb dX5_ask_111 rfl (lv_at hl 2 rfl) ?_
    refine lv_ldc (v := 84148225) hx hb hown (htb _ kK_X5_172) dX5_ask_112 ?_
    refine lv_iconst (v := 0) hx hb dX5_ask_114 (by decide) ?_
    refine zb_cv (va_runV (As := [.int 84148225, .int 0]) (rest := []) ⟨hx, hb, hml, hown, htb⟩ (r_abort0 l D b cA cJ N f z ob t nd (lo + 4294967296 * hg) 0 th _ (lo / 256) 84148225 ho hxa.2.2.1 (by decide)) (cwV 2 htb (wb_V kM_X5_152 kI_X5_abort kS_X5_abort kN_X5 kD_X5_abort) rfl rfl rfl (by decide +kernel) ⟨Nat.le_of_ble_eq_true rfl, Nat.le_of_ble_eq_true rfl⟩) (zp_VW 0 rfl rfl hP hD hK hSt hS hA hnw) rfl rfl hl.1 rfl (lv_room (Nat.le_of_ble_eq_true rfl)) dX5_ask_115 ⟨Nat.le_of_ble_eq_true rfl, Nat.le_of_ble_eq_true rfl⟩) hD hS hA (fun H locs hP hD hS => ?_)
    have hP : va_P D vwCl (rw0 b cA cJ N f (ro z (kAns N ob 128 (lo / 256) 84148225)) (t.1, 0, t.2.2.1, t.2.2.2.1, t.2.2.2.2.1, t.2.2.2.2.2) nd (lN (lo + 4294967296 * hg)) 0 th) H := hP
    have hD : va_D A (rw0 b cA cJ N f (ro z (kAns N ob 128 (lo / 256) 84148225)) (t.1, 0, t.2.2.1, t.2.2.2.1, t.2.2.2.2.1, t.2.2.2.2.2) nd (lN (lo + 4294967296 * hg)) 0 th) := hD
    have hK9 : kReq N f ob tr nd lo hg e d ad = (f, (kAns N ob 128 (lo / 256) 84148225), tr_end tr, nd) := by simp only [kReq, if_neg (show ¬ lo % 256 / 32 = 0 by omega), if_neg (show ¬ lo % 256 / 32 = 1 by omega), if_neg (show ¬ lo % 256 / 32 = 2 by omega), if_neg (show ¬ lo % 256 / 32 = 3 by omega), if_neg (show ¬ lo % 256 / 32 = 4 by omega)]; rfl
    rw [hQ]
    have hw9 : (rw0 b cA cJ N f (ro z (kAns N ob 128 (lo / 256) 84148225)) (t.1, 0, t.2.2.1, t.2.2.2.1, t.2.2.2.2.1, t.2.2.2.2.2) nd (lN (lo + 4294967296 * hg)) 0 th) = r4 b cA cJ N z th (kReq N f ob tr nd lo hg e d ad) ((t.1, 0, t.2.2.1, t.2.2.2.1, t.2.2.2.2.1, t.2.2.2.2.2), (lN (lo + 4294967296 * hg)), 0) := by rw [hK9]; rfl
    have hr9 : rel2 (kReq N f ob tr nd lo hg e d ad).2.2.1 (t.1, 0, t.2.2.1, t.2.2.2.1, t.2.2.2.2.1, t.2.2.2.2.2) := by rw [hK9]; exact rel2_off hR _
    exact W.vret hx hb hr (fun t9 ht hW => ⟨rfl, ((t.1, 0, t.2.2.1, t.2.2.2.1, t.2.2.2.2.1, t.2.2.2.2.2), (lN (lo + 4294967296 * hg)), 0), hr9, by rw [ht, ← hw9]; exact hP, by rw [← hw9]; exact hD, hS.F ht⟩) hS.2.2 dX5_ask_118
set_option maxHeartbeats 4000000 in
set_option maxRecDepth 100000 in
theorem r_frame (l : Launch) (D : va_G) (b : Nat → Nat) (cA cJ : ClassId) (N : Int32) (f : Nat → Int32) (z : Int32) (ob : OB) (t : RT) (nd : ND) (q : Int64) (sg th : Int32) (sz : Nat) (tr : TR) (fid ln : Int32) (lo hg e d ad n : Nat) (hB : isB f) (hG : mapK f 9 5) (hT : mapK f 3 6) (hBh : isB t.1) (ho : obK ob) (hlo : lo < 2 ^ 32) (hhg : hg < 2 ^ 32) (hN : trN tr e d ad) (hrel : rel tr t e d ad) (hNn : N = nI n) (hn1 : 1 ≤ n) (hn15' : n ≤ 15) (hB2 : isB (kMid N f ob tr nd fid ln lo hg e d ad).1) (hG2 : mapK (kMid N f ob tr nd fid ln lo hg e d ad).1 9 5) (ho2 : obK (kMid N f ob tr nd fid ln lo hg e d ad).2.1) (hf0 : ¬ fid < 0) (hf1 : ¬ 2047 < fid) (hl0 : ¬ ln < 0) (hl8 : ln ≤ 8) : Met l yX5_frame (wX5_frame :: wb) ({ frames := 6, cells := 0, slots := 0, locals := 148 } : Room) (va_Pc [.ref (b 0), .int fid, .int ln, .int (nI lo), .int (nI hg)] (zPre D [(cA, .int), (cJ, .long)] (rw0 b cA cJ N f (ro z ob) t nd q sg th) sz)) (zb_E (some (.int ((kEnd N (kMid N f ob tr nd fid ln lo hg e d ad)).2.1.2.2 - ob.2.2))) D vwCl (r4 b cA cJ N ob.2.2 0 (kEnd N (kMid N f ob tr nd fid ln lo hg e d ad))) (fun y => rel2 (kEnd N (kMid N f ob tr nd fid ln lo hg e d ad)).2.2.1 y.1) (va_A (rw0 b cA cJ N f (ro z ob) t nd q sg th) sz)) 0 0 (va_A (rw0 b cA cJ N f (ro z ob) t nd q sg th) sz) := by
  refine Met.ofW (cc := cX5_frame) (maxL := 7) (ret := (some .int)) (by decide) rfl ?_
  intro p ev s m args below meth c s₁ B hml hv
  obtain ⟨rfl, hsz, hP, hK, hD0, hSt, hnw⟩ := hv
  have hx := B.exec
  have hb := B.bytes
  have hr := B.returns
  have hts := atoms_spec (ws := wX5_frame :: wb) B.pre
  have htb : ∀ w ∈ wb, w.before ([.ref (b 0), .int fid, .int ln, .int (nI lo), .int (nI hg)]).toArray s = true := fun w h => hts w (List.mem_cons_of_mem _ h)
  have hown : s.vm.findClass RX5 = some m.cls := findClass_of_methodNamed B.named
  have hlocks := B.notSynchronized
  subst hsz
  have hD := hD0.self (sz := s.heap.size)
  clear hD0
  generalize hAe : va_A (rw0 b cA cJ N f (ro z ob) t nd q sg th) s.heap.size = A at hD hSt ⊢
  have hA : ∀ q : Nat, s.heap.size ≤ q → A q := fun q h => by rw [← hAe]; exact Or.inr h
  have hS : va_S A s.heap s.heap [] := va_S.rf
  obtain ⟨⟨tt, ff, hZT, hTT, hZF, hTF⟩, hXS⟩ := id hSt
  have hl := lv_entry ([.ref (b 0), .int fid, .int ln, .int (nI lo), .int (nI hg)]) (n := 7) (Nat.le_of_ble_eq_true rfl)
  rw [lg_entry_eq]
  generalize (lg_sl ([.ref (b 0), .int fid, .int ln, .int (nI lo), .int (nI hg)]) ++ List.replicate (7 - (lg_sl ([.ref (b 0), .int fid, .int ln, .int (nI lo), .int (nI hg)])).length) Slot.unset).toArray = ls at hl ⊢
  have hl : lv_has ls 7 [(0, .ref (b 0)), (1, .int fid), (2, .int ln), (3, .int (nI lo)), (4, .int (nI hg))] := hl
  refine zb_abs (fun Q hQ => ?_)
  have hxa := x_ad (lo := lo) (hg := hg) hlo
  have hR : rel2 tr t := ⟨e, d, ad, hN, hrel⟩
  have h512 : 512 + N = nI (512 + n) := by rw [hNn]; exact nI_add 512 n
  have h1536 : 1536 + N = nI (1536 + n) := by rw [hNn]; exact nI_add 1536 n
  by_cases hz : fid = 0
  · subst hz
    have hn5 : ¬ (0 : Int32) = 512 + N := by rw [h512]; exact fun h => by have := (nI_eq (a := 0) (by decide) (by omega)).mp h; omega
    have hn15 : ¬ (0 : Int32) = 1536 + N := by rw [h1536]; exact fun h => by have := (nI_eq (a := 0) (by decide) (by omega)).mp h; omega
    refine lv_aload_n hx hb dX5_frame_0 rfl (lv_at hl 0 rfl) ?_
    refine lv_iload_n hx hb dX5_frame_1 rfl (lv_at hl 1 rfl) ?_
    refine lv_if_lt (tgt := 22) hx hb dX5_frame_2 (by decide) (fun hno => absurd hno (hf0)) (fun _ => ?_)
    refine lv_iload_n hx hb dX5_frame_5 rfl (lv_at hl 1 rfl) ?_
    refine lv_sipush (v := 2047) hx hb dX5_frame_6 (by decide) ?_
    refine lv_icmp_gt (tgt := 22) hx hb dX5_frame_9 (by decide) (fun hno => absurd hno (hf1)) (fun _ => ?_)
    refine lv_iload_n hx hb dX5_frame_12 rfl (lv_at hl 2 rfl) ?_
    refine lv_if_lt (tgt := 22) hx hb dX5_frame_13 (by decide) (fun hno => absurd hno (hl0)) (fun _ => ?_)
    refine lv_iload_n hx hb dX5_frame_16 rfl (lv_at hl 2 rfl) ?_
    refine lv_bipush (v := 8) hx hb dX5_frame_17 (by decide) ?_
    refine lv_icmp_le (tgt := 26) hx hb dX5_frame_19 (by decide) (fun _ => ?_) (fun hno => absurd (hl8) hno)
    refine lv_iconst (v := 0) hx hb dX5_frame_26 (by decide) ?_
    refine va_put (D := D) (ci := 5) (v := .int 0) (fs := [.int th, .int N, .ref (b 1), .ref (b 2), .ref (b 3), .ref (b 4), .ref (b 5), .ref (b 6), .int 22, .int 95, .int nd.1, .int nd.2.2.1, .int nd.2.1, .long nd.2.2.2, .int t.2.1, .int t.2.2.1, .int t.2.2.2.1, .int t.2.2.2.2.1, .int t.2.2.2.2.2, .ref (b 7), .long q, .int sg, .ref (b 8), .ref (b 9), .ref (b 10), .int ((ro z ob).2.2.2.1), .int ((ro z ob).2.2.2.2)]) (ty := .int) (C := RX5) (T := TX5) (N := 27) hx hb htb inX5 tyX5 tyX5_ok nmX5 hown hK hP hD hS 0 rfl rfl 0 (by decide) (htb _ kF_X5_67) (fun _ h9 => h9) rfl (by decide +kernel) rfl rfl (Nat.le_of_ble_eq_true rfl) dX5_frame_27 (fun H locs hP hD hS => ?_)
    have hP : va_P D vwCl (rw0 b cA cJ N f (ro z ob) t nd q sg 0) H := hP
    have hD : va_D A (rw0 b cA cJ N f (ro z ob) t nd q sg 0) := hD
    refine lv_aload_n hx hb dX5_frame_30 rfl (lv_at hl 0 rfl) ?_
    refine va_get (D := D) (ci := 5) (v := .int 0) (fs := [.int 0, .int N, .ref (b 1), .ref (b 2), .ref (b 3), .ref (b 4), .ref (b 5), .ref (b 6), .int 22, .int 95, .int nd.1, .int nd.2.2.1, .int nd.2.1, .long nd.2.2.2, .int t.2.1, .int t.2.2.1, .int t.2.2.2.1, .int t.2.2.2.2.1, .int t.2.2.2.2.2, .ref (b 7), .long q, .int sg, .ref (b 8), .ref (b 9), .ref (b 10), .int ((ro z ob).2.2.2.1), .int ((ro z ob).2.2.2.2)]) (C := RX5) (T := TX5) (N := 27) hx hb htb inX5 hown hK hP 0 rfl rfl 0 (by decide) (htb _ kF_X5_67) (fun _ h9 => h9) rfl dX5_frame_31 ?_
    refine lv_if_le (tgt := 39) hx hb dX5_frame_34 (by decide) (fun _ => ?_) (fun hno => absurd (by decide) hno)
    refine lv_aload_n hx hb dX5_frame_39 rfl (lv_at hl 0 rfl) ?_
    refine lv_iconst (v := 0) hx hb dX5_frame_40 (by decide) ?_
    refine va_put (D := D) (ci := 5) (v := .int 0) (fs := [.int 0, .int N, .ref (b 1), .ref (b 2), .ref (b 3), .ref (b 4), .ref (b 5), .ref (b 6), .int 22, .int 95, .int nd.1, .int nd.2.2.1, .int nd.2.1, .long nd.2.2.2, .int t.2.1, .int t.2.2.1, .int t.2.2.2.1, .int t.2.2.2.2.1, .int t.2.2.2.2.2, .ref (b 7), .long q, .int sg, .ref (b 8), .ref (b 9), .ref (b 10), .int ((ro z ob).2.2.2.1), .int ((ro z ob).2.2.2.2)]) (ty := .int) (C := RX5) (T := TX5) (N := 27) hx hb htb inX5 tyX5 tyX5_ok nmX5 hown hK hP hD hS 0 rfl rfl 26 (by decide) (htb _ kF_X5_72) (fun _ h9 => h9) rfl (by decide +kernel) rfl rfl (Nat.le_of_ble_eq_true rfl) dX5_frame_41 (fun H locs hP hD hS => ?_)
    have hP : va_P D vwCl (rw0 b cA cJ N f ((ro z ob).1, (ro z ob).2.1, (ro z ob).2.2.1, (ro z ob).2.2.2.1, 0) t nd q sg 0) H := hP
    have hD : va_D A (rw0 b cA cJ N f ((ro z ob).1, (ro z ob).2.1, (ro z ob).2.2.1, (ro z ob).2.2.2.1, 0) t nd q sg 0) := hD
    rw [ro_0] at hP hD
    have hP : va_P D vwCl (rw0 b cA cJ N f (ro ob.2.2 ob) t nd q sg 0) H := hP
    have hD : va_D A (rw0 b cA cJ N f (ro ob.2.2 ob) t nd q sg 0) := hD
    refine lv_iload_n hx hb dX5_frame_44 rfl (lv_at hl 3 rfl) ?_
    refine lv_iload hx hb dX5_frame_45 (lv_at hl 4 rfl) ?_
    refine zb_cl (va_runS (As := [.int (nI lo), .int (nI hg)]) (rest := []) ⟨hx, hb, hml, hown, htb⟩ (r_both l D b cA cJ N f (ro ob.2.2 ob) t nd q sg 0 lo hg hlo hhg) (va_cwS 2 htb (wb_S kM_X5_192 kZ_X5_both kN_X5 kD_X5_both) rfl rfl rfl (by decide +kernel) ⟨Nat.le_of_ble_eq_true rfl, Nat.le_of_ble_eq_true rfl⟩) (zp_S hP hK hSt hS hnw) rfl rfl hl.1 rfl (lv_room (Nat.le_of_ble_eq_true rfl)) dX5_frame_47 ⟨Nat.le_of_ble_eq_true rfl, Nat.le_of_ble_eq_true rfl⟩) ?_
    refine lv_lstore hx hb dX5_frame_50 hl (by decide) rfl (fun ls hl => ?_)
    have hl : lv_has ls 7 [(5, .long (lN (lo + 4294967296 * hg))), (0, .ref (b 0)), (1, .int 0), (2, .int ln), (3, .int (nI lo)), (4, .int (nI hg))] := hl
    refine lv_iload_n hx hb dX5_frame_52 rfl (lv_at hl 2 rfl) ?_
    refine lv_if_ne (tgt := 96) hx hb dX5_frame_53 (by decide) (fun hno => absurd (by decide) hno) (fun _ => ?_)
    refine lv_iload_n hx hb dX5_frame_56 rfl (lv_at hl 3 rfl) ?_
    refine lv_iconst (v := 2) hx hb dX5_frame_57 (by decide) ?_
    refine lv_icmp_ne (tgt := 96) hx hb dX5_frame_58 (by decide) (fun hc1 => ?_) (fun hc1 => ?_)
    · refine lv_iload_n hx hb dX5_frame_96 rfl (lv_at hl 2 rfl) ?_
      refine lv_sipush (v := 128) hx hb dX5_frame_97 (by decide) ?_
      refine lv_icmp_ne (tgt := 118) hx hb dX5_frame_100 (by decide) (fun _ => ?_) (fun hno => absurd hno (by decide))
      refine lv_iload_n hx hb dX5_frame_118 rfl (lv_at hl 2 rfl) ?_
      refine lv_sipush (v := 512) hx hb dX5_frame_119 (by decide) ?_
      refine lv_aload_n hx hb dX5_frame_122 rfl (lv_at hl 1 rfl) ?_
      refine va_get (D := D) (ci := 5) (v := .int N) (fs := [.int 0, .int N, .ref (b 1), .ref (b 2), .ref (b 3), .ref (b 4), .ref (b 5), .ref (b 6), .int 22, .int 95, .int nd.1, .int nd.2.2.1, .int nd.2.1, .long nd.2.2.2, .int t.2.1, .int t.2.2.1, .int t.2.2.2.1, .int t.2.2.2.2.1, .int t.2.2.2.2.2, .ref (b 7), .long q, .int sg, .ref (b 8), .ref (b 9), .ref (b 10), .int ((ro ob.2.2 ob).2.2.2.1), .int ((ro ob.2.2 ob).2.2.2.2)]) (C := RX5) (T := TX5) (N := 27) hx hb htb inX5 hown hK hP 0 rfl rfl 1 (by decide) (htb _ kF_X5_41) (fun _ h9 => h9) rfl dX5_frame_123 ?_
      refine lv_iadd hx hb dX5_frame_126 ?_
      refine lv_icmp_ne (tgt := 156) hx hb dX5_frame_127 (by decide) (fun _ => ?_) (fun hno => absurd hno hn5)
      refine lv_iload_n hx hb dX5_frame_156 rfl (lv_at hl 2 rfl) ?_
      refine lv_sipush (v := 1536) hx hb dX5_frame_157 (by decide) ?_
      refine lv_aload_n hx hb dX5_frame_160 rfl (lv_at hl 1 rfl) ?_
      refine va_get (D := D) (ci := 5) (v := .int N) (fs := [.int 0, .int N, .ref (b 1), .ref (b 2), .ref (b 3), .ref (b 4), .ref (b 5), .ref (b 6), .int 22, .int 95, .int nd.1, .int nd.2.2.1, .int nd.2.1, .long nd.2.2.2, .int t.2.1, .int t.2.2.1, .int t.2.2.2.1, .int t.2.2.2.2.1, .int t.2.2.2.2.2, .ref (b 7), .long q, .int sg, .ref (b 8), .ref (b 9), .ref (b 10), .int ((ro ob.2.2 ob).2.2.2.1), .int ((ro ob.2.2 ob).2.2.2.2)]) (C := RX5) (T := TX5) (N := 27) hx hb htb inX5 hown hK hP 0 rfl rfl 1 (by decide) (htb _ kF_X5_41) (fun _ h9 => h9) rfl dX5_frame_161 ?_
      refine lv_iadd hx hb dX5_frame_164 ?_
      refine lv_icmp_ne (tgt := 188) hx hb dX5_frame_165 (by decide) (fun _ => ?_) (fun hno => absurd hno hn15)
      have hM9 : kMid N f ob tr nd 0 ln lo hg e d ad = (f, ob, tr, nd) := by unfold kMid; rw [if_neg (fun h => hc1 h.2), if_neg (by decide), if_neg hn5, if_neg (fun h => hn15 h.1)]
      have hrM : rel2 (kMid N f ob tr nd 0 ln lo hg e d ad).2.2.1 t := by rw [hM9]; exact hR
      have hP : va_P D vwCl (rw0 b cA cJ N ((kMid N f ob tr nd 0 ln lo hg e d ad).1) (ro ob.2.2 ((kMid N f ob tr nd 0 ln lo hg e d ad).2.1)) t ((kMid N f ob tr nd 0 ln lo hg e d ad).2.2.2) q sg 0) H := by rw [hM9]; exact hP
      have hD : va_D A (rw0 b cA cJ N ((kMid N f ob tr nd 0 ln lo hg e d ad).1) (ro ob.2.2 ((kMid N f ob tr nd 0 ln lo hg e d ad).2.1)) t ((kMid N f ob tr nd 0 ln lo hg e d ad).2.2.2) q sg 0) := by rw [hM9]; exact hD
      refine lv_aload_n hx hb dX5_frame_188 rfl (lv_at hl 1 rfl) ?_
      refine zb_cv (va_runV (As := []) (rest := []) ⟨hx, hb, hml, hown, htb⟩ (r_end l D b cA cJ N ((kMid N f ob tr nd 0 ln lo hg e d ad).1) ob.2.2 ((kMid N f ob tr nd 0 ln lo hg e d ad).2.1) t ((kMid N f ob tr nd 0 ln lo hg e d ad).2.2.2) q sg 0 _ hB2 hG2 ho2) (cwV 0 htb (wb_V kM_X5_210 kI_X5_end kS_X5_end kN_X5 kD_X5_end) rfl rfl rfl (by decide +kernel) ⟨Nat.le_of_ble_eq_true rfl, Nat.le_of_ble_eq_true rfl⟩) (zp_VW 0 rfl rfl hP hD hK hSt hS hA hnw) rfl rfl hl.1 rfl (lv_room (Nat.le_of_ble_eq_true rfl)) dX5_frame_189 ⟨Nat.le_of_ble_eq_true rfl, Nat.le_of_ble_eq_true rfl⟩) hD hS hA (fun H locs hP hD hS => ?_)
      have hP : va_P D vwCl (rw0 b cA cJ N ((kMid N f ob tr nd 0 ln lo hg e d ad).1) (ro ob.2.2 (kEv N ((kMid N f ob tr nd 0 ln lo hg e d ad).1) ((kMid N f ob tr nd 0 ln lo hg e d ad).2.1) ((kMid N f ob tr nd 0 ln lo hg e d ad).2.2.2))) t (nEv ((kMid N f ob tr nd 0 ln lo hg e d ad).1) ((kMid N f ob tr nd 0 ln lo hg e d ad).2.2.2)) q sg 0) H := hP
      have hD : va_D A (rw0 b cA cJ N ((kMid N f ob tr nd 0 ln lo hg e d ad).1) (ro ob.2.2 (kEv N ((kMid N f ob tr nd 0 ln lo hg e d ad).1) ((kMid N f ob tr nd 0 ln lo hg e d ad).2.1) ((kMid N f ob tr nd 0 ln lo hg e d ad).2.2.2))) t (nEv ((kMid N f ob tr nd 0 ln lo hg e d ad).1) ((kMid N f ob tr nd 0 ln lo hg e d ad).2.2.2)) q sg 0) := hD
      refine lv_aload_n hx hb dX5_frame_192 rfl (lv_at hl 1 rfl) ?_
      refine va_get (D := D) (ci := 5) (v := .int ((ro ob.2.2 (kEv N ((kMid N f ob tr nd 0 ln lo hg e d ad).1) ((kMid N f ob tr nd 0 ln lo hg e d ad).2.1) ((kMid N f ob tr nd 0 ln lo hg e d ad).2.2.2))).2.2.2.2)) (fs := [.int 0, .int N, .ref (b 1), .ref (b 2), .ref (b 3), .ref (b 4), .ref (b 5), .ref (b 6), .int 22, .int 95, .int ((nEv ((kMid N f ob tr nd 0 ln lo hg e d ad).1) ((kMid N f ob tr nd 0 ln lo hg e d ad).2.2.2)).1), .int ((nEv ((kMid N f ob tr nd 0 ln lo hg e d ad).1) ((kMid N f ob tr nd 0 ln lo hg e d ad).2.2.2)).2.2.1), .int ((nEv ((kMid N f ob tr nd 0 ln lo hg e d ad).1) ((kMid N f ob tr nd 0 ln lo hg e d ad).2.2.2)).2.1), .long ((nEv ((kMid N f ob tr nd 0 ln lo hg e d ad).1) ((kMid N f ob tr nd 0 ln lo hg e d ad).2.2.2)).2.2.2), .int t.2.1, .int t.2.2.1, .int t.2.2.2.1, .int t.2.2.2.2.1, .int t.2.2.2.2.2, .ref (b 7), .long q, .int sg, .ref (b 8), .ref (b 9), .ref (b 10), .int ((ro ob.2.2 (kEv N ((kMid N f ob tr nd 0 ln lo hg e d ad).1) ((kMid N f ob tr nd 0 ln lo hg e d ad).2.1) ((kMid N f ob tr nd 0 ln lo hg e d ad).2.2.2))).2.2.2.1), .int ((ro ob.2.2 (kEv N ((kMid N f ob tr nd 0 ln lo hg e d ad).1) ((kMid N f ob tr nd 0 ln lo hg e d ad).2.1) ((kMid N f ob tr nd 0 ln lo hg e d ad).2.2.2))).2.2.2.2)]) (C := RX5) (T := TX5) (N := 27) hx hb htb inX5 hown hK hP 0 rfl rfl 26 (by decide) (htb _ kF_X5_72) (fun _ h9 => h9) rfl dX5_frame_193 ?_
      rw [hQ]
      have hw9 : (rw0 b cA cJ N ((kMid N f ob tr nd 0 ln lo hg e d ad).1) (ro ob.2.2 (kEv N ((kMid N f ob tr nd 0 ln lo hg e d ad).1) ((kMid N f ob tr nd 0 ln lo hg e d ad).2.1) ((kMid N f ob tr nd 0 ln lo hg e d ad).2.2.2))) t (nEv ((kMid N f ob tr nd 0 ln lo hg e d ad).1) ((kMid N f ob tr nd 0 ln lo hg e d ad).2.2.2)) q sg 0) = r4 b cA cJ N ob.2.2 0 (kEnd N (kMid N f ob tr nd 0 ln lo hg e d ad)) (t, q, sg) := rfl
      have hr9 : rel2 (kEnd N (kMid N f ob tr nd 0 ln lo hg e d ad)).2.2.1 t := hrM
      exact W.iret (v := (ro ob.2.2 (kEv N ((kMid N f ob tr nd 0 ln lo hg e d ad).1) ((kMid N f ob tr nd 0 ln lo hg e d ad).2.1) ((kMid N f ob tr nd 0 ln lo hg e d ad).2.2.2))).2.2.2.2) hx hb hr (fun t9 ht hW => ⟨congrArg (fun z => Outcome.returned (some (Value.int z))) (rfl), (t, q, sg), hr9, by rw [ht, ← hw9]; exact hP, by rw [← hw9]; exact hD, hS.F ht⟩) hS.2.2 dX5_frame_196
    refine lv_lload hx hb dX5_frame_61 (lv_at hl 0 rfl) ?_
    refine lv_iconst (v := 1) hx hb dX5_frame_63 (by decide) ?_
    refine zb_ci (va_runS (As := [.long (lN (lo + 4294967296 * hg)), .int 1]) (rest := []) ⟨hx, hb, hml, hown, htb⟩ (r_byteOf l D b cA cJ N f (ro ob.2.2 ob) t nd q sg 0 (lo + 4294967296 * hg) 1 (by omega)) (va_cwS 2 htb (wb_S kM_X5_119 kZ_X5_byteOf kN_X5 kD_X5_byteOf) rfl rfl rfl (by decide +kernel) ⟨Nat.le_of_ble_eq_true rfl, Nat.le_of_ble_eq_true rfl⟩) (zp_S hP hK hSt hS hnw) rfl rfl hl.1 rfl (lv_room (Nat.le_of_ble_eq_true rfl)) dX5_frame_64 ⟨Nat.le_of_ble_eq_true rfl, Nat.le_of_ble_eq_true rfl⟩) ?_
    refine zb_ti (y := nI (lo / 256 % 256)) (by rw [bN_1 hlo]) ?_
    refine lv_if_eq (tgt := 83) hx hb dX5_frame_67 (by decide) (fun hc2 => ?_) (fun hc2 => ?_)
    · refine lv_aload_n hx hb dX5_frame_83 rfl (lv_at hl 1 rfl) ?_
      refine lv_lload hx hb dX5_frame_84 (lv_at hl 0 rfl) ?_
      refine lv_iconst (v := 0) hx hb dX5_frame_86 (by decide) ?_
      refine zb_ci (va_runS (As := [.long (lN (lo + 4294967296 * hg)), .int 0]) (rest := [.ref (b 0)]) ⟨hx, hb, hml, hown, htb⟩ (r_byteOf l D b cA cJ N f (ro ob.2.2 ob) t nd q sg 0 (lo + 4294967296 * hg) 0 (by omega)) (va_cwS 2 htb (wb_S kM_X5_119 kZ_X5_byteOf kN_X5 kD_X5_byteOf) rfl rfl rfl (by decide +kernel) ⟨Nat.le_of_ble_eq_true rfl, Nat.le_of_ble_eq_true rfl⟩) (zp_S hP hK hSt hS hnw) rfl rfl hl.1 rfl (lv_room (Nat.le_of_ble_eq_true rfl)) dX5_frame_87 ⟨Nat.le_of_ble_eq_true rfl, Nat.le_of_ble_eq_true rfl⟩) ?_
      refine zb_ti (y := nI (lo % 256)) (by rw [hxa.2.2.2.1]) ?_
      refine zb_ce (va_runV (As := [.int (nI (lo % 256))]) (rest := []) ⟨hx, hb, hml, hown, htb⟩ (r_command l D b cA cJ N f ob.2.2 ob t nd q sg 0 _ tr (lo % 256) hB hG ho hR (by omega)) (cwV 1 htb (wb_V kM_X5_196 kI_X5_command kS_X5_command kN_X5 kD_X5_command) rfl rfl rfl (by decide +kernel) ⟨Nat.le_of_ble_eq_true rfl, Nat.le_of_ble_eq_true rfl⟩) (zp_VW 0 rfl rfl hP hD hK hSt hS hA hnw) rfl rfl hl.1 rfl (lv_room (Nat.le_of_ble_eq_true rfl)) dX5_frame_90 ⟨Nat.le_of_ble_eq_true rfl, Nat.le_of_ble_eq_true rfl⟩) hD hS hA (fun y3 hy4 H locs hP hD hS => ?_)
      have hP : va_P D vwCl (rw0 b cA cJ N ((kCmd N f ob tr nd (lo % 256)).1) (ro ob.2.2 ((kCmd N f ob tr nd (lo % 256)).2.1)) y3.1 ((kCmd N f ob tr nd (lo % 256)).2.2.2) y3.2.1 y3.2.2 0) H := hP
      have hD : va_D A (rw0 b cA cJ N ((kCmd N f ob tr nd (lo % 256)).1) (ro ob.2.2 ((kCmd N f ob tr nd (lo % 256)).2.1)) y3.1 ((kCmd N f ob tr nd (lo % 256)).2.2.2) y3.2.1 y3.2.2 0) := hD
      refine lv_goto (tgt := 188) hx hb dX5_frame_93 (by decide) ?_
      have hM9 : kMid N f ob tr nd 0 ln lo hg e d ad = kCmd N f ob tr nd (lo % 256) := by unfold kMid; rw [if_pos ⟨rfl, hc1⟩, if_pos (Or.inl hc2)]
      have hrM : rel2 (kMid N f ob tr nd 0 ln lo hg e d ad).2.2.1 y3.1 := by rw [hM9]; exact hy4
      have hP : va_P D vwCl (rw0 b cA cJ N ((kMid N f ob tr nd 0 ln lo hg e d ad).1) (ro ob.2.2 ((kMid N f ob tr nd 0 ln lo hg e d ad).2.1)) y3.1 ((kMid N f ob tr nd 0 ln lo hg e d ad).2.2.2) y3.2.1 y3.2.2 0) H := by rw [hM9]; exact hP
      have hD : va_D A (rw0 b cA cJ N ((kMid N f ob tr nd 0 ln lo hg e d ad).1) (ro ob.2.2 ((kMid N f ob tr nd 0 ln lo hg e d ad).2.1)) y3.1 ((kMid N f ob tr nd 0 ln lo hg e d ad).2.2.2) y3.2.1 y3.2.2 0) := by rw [hM9]; exact hD
      refine lv_aload_n hx hb dX5_frame_188 rfl (lv_at hl 1 rfl) ?_
      refine zb_cv (va_runV (As := []) (rest := []) ⟨hx, hb, hml, hown, htb⟩ (r_end l D b cA cJ N ((kMid N f ob tr nd 0 ln lo hg e d ad).1) ob.2.2 ((kMid N f ob tr nd 0 ln lo hg e d ad).2.1) y3.1 ((kMid N f ob tr nd 0 ln lo hg e d ad).2.2.2) y3.2.1 y3.2.2 0 _ hB2 hG2 ho2) (cwV 0 htb (wb_V kM_X5_210 kI_X5_end kS_X5_end kN_X5 kD_X5_end) rfl rfl rfl (by decide +kernel) ⟨Nat.le_of_ble_eq_true rfl, Nat.le_of_ble_eq_true rfl⟩) (zp_VW 0 rfl rfl hP hD hK hSt hS hA hnw) rfl rfl hl.1 rfl (lv_room (Nat.le_of_ble_eq_true rfl)) dX5_frame_189 ⟨Nat.le_of_ble_eq_true rfl, Nat.le_of_ble_eq_true rfl⟩) hD hS hA (fun H locs hP hD hS => ?_)
      have hP : va_P D vwCl (rw0 b cA cJ N ((kMid N f ob tr nd 0 ln lo hg e d ad).1) (ro ob.2.2 (kEv N ((kMid N f ob tr nd 0 ln lo hg e d ad).1) ((kMid N f ob tr nd 0 ln lo hg e d ad).2.1) ((kMid N f ob tr nd 0 ln lo hg e d ad).2.2.2))) y3.1 (nEv ((kMid N f ob tr nd 0 ln lo hg e d ad).1) ((kMid N f ob tr nd 0 ln lo hg e d ad).2.2.2)) y3.2.1 y3.2.2 0) H := hP
      have hD : va_D A (rw0 b cA cJ N ((kMid N f ob tr nd 0 ln lo hg e d ad).1) (ro ob.2.2 (kEv N ((kMid N f ob tr nd 0 ln lo hg e d ad).1) ((kMid N f ob tr nd 0 ln lo hg e d ad).2.1) ((kMid N f ob tr nd 0 ln lo hg e d ad).2.2.2))) y3.1 (nEv ((kMid N f ob tr nd 0 ln lo hg e d ad).1) ((kMid N f ob tr nd 0 ln lo hg e d ad).2.2.2)) y3.2.1 y3.2.2 0) := hD
      refine lv_aload_n hx hb dX5_frame_192 rfl (lv_at hl 1 rfl) ?_
      refine va_get (D := D) (ci := 5) (v := .int ((ro ob.2.2 (kEv N ((kMid N f ob tr nd 0 ln lo hg e d ad).1) ((kMid N f ob tr nd 0 ln lo hg e d ad).2.1) ((kMid N f ob tr nd 0 ln lo hg e d ad).2.2.2))).2.2.2.2)) (fs := [.int 0, .int N, .ref (b 1), .ref (b 2), .ref (b 3), .ref (b 4), .ref (b 5), .ref (b 6), .int 22, .int 95, .int ((nEv ((kMid N f ob tr nd 0 ln lo hg e d ad).1) ((kMid N f ob tr nd 0 ln lo hg e d ad).2.2.2)).1), .int ((nEv ((kMid N f ob tr nd 0 ln lo hg e d ad).1) ((kMid N f ob tr nd 0 ln lo hg e d ad).2.2.2)).2.2.1), .int ((nEv ((kMid N f ob tr nd 0 ln lo hg e d ad).1) ((kMid N f ob tr nd 0 ln lo hg e d ad).2.2.2)).2.1), .long ((nEv ((kMid N f ob tr nd 0 ln lo hg e d ad).1) ((kMid N f ob tr nd 0 ln lo hg e d ad).2.2.2)).2.2.2), .int y3.1.2.1, .int y3.1.2.2.1, .int y3.1.2.2.2.1, .int y3.1.2.2.2.2.1, .int y3.1.2.2.2.2.2, .ref (b 7), .long y3.2.1, .int y3.2.2, .ref (b 8), .ref (b 9), .ref (b 10), .int ((ro ob.2.2 (kEv N ((kMid N f ob tr nd 0 ln lo hg e d ad).1) ((kMid N f ob tr nd 0 ln lo hg e d ad).2.1) ((kMid N f ob tr nd 0 ln lo hg e d ad).2.2.2))).2.2.2.1), .int ((ro ob.2.2 (kEv N ((kMid N f ob tr nd 0 ln lo hg e d ad).1) ((kMid N f ob tr nd 0 ln lo hg e d ad).2.1) ((kMid N f ob tr nd 0 ln lo hg e d ad).2.2.2))).2.2.2.2)]) (C := RX5) (T := TX5) (N := 27) hx hb htb inX5 hown hK hP 0 rfl rfl 26 (by decide) (htb _ kF_X5_72) (fun _ h9 => h9) rfl dX5_frame_193 ?_
      rw [hQ]
      have hw9 : (rw0 b cA cJ N ((kMid N f ob tr nd 0 ln lo hg e d ad).1) (ro ob.2.2 (kEv N ((kMid N f ob tr nd 0 ln lo hg e d ad).1) ((kMid N f ob tr nd 0 ln lo hg e d ad).2.1) ((kMid N f ob tr nd 0 ln lo hg e d ad).2.2.2))) y3.1 (nEv ((kMid N f ob tr nd 0 ln lo hg e d ad).1) ((kMid N f ob tr nd 0 ln lo hg e d ad).2.2.2)) y3.2.1 y3.2.2 0) = r4 b cA cJ N ob.2.2 0 (kEnd N (kMid N f ob tr nd 0 ln lo hg e d ad)) (y3.1, y3.2.1, y3.2.2) := rfl
      have hr9 : rel2 (kEnd N (kMid N f ob tr nd 0 ln lo hg e d ad)).2.2.1 y3.1 := hrM
      exact W.iret (v := (ro ob.2.2 (kEv N ((kMid N f ob tr nd 0 ln lo hg e d ad).1) ((kMid N f ob tr nd 0 ln lo hg e d ad).2.1) ((kMid N f ob tr nd 0 ln lo hg e d ad).2.2.2))).2.2.2.2) hx hb hr (fun t9 ht hW => ⟨congrArg (fun z => Outcome.returned (some (Value.int z))) (rfl), (y3.1, y3.2.1, y3.2.2), hr9, by rw [ht, ← hw9]; exact hP, by rw [← hw9]; exact hD, hS.F ht⟩) hS.2.2 dX5_frame_196
    refine lv_lload hx hb dX5_frame_70 (lv_at hl 0 rfl) ?_
    refine lv_iconst (v := 1) hx hb dX5_frame_72 (by decide) ?_
    refine zb_ci (va_runS (As := [.long (lN (lo + 4294967296 * hg)), .int 1]) (rest := []) ⟨hx, hb, hml, hown, htb⟩ (r_byteOf l D b cA cJ N f (ro ob.2.2 ob) t nd q sg 0 (lo + 4294967296 * hg) 1 (by omega)) (va_cwS 2 htb (wb_S kM_X5_119 kZ_X5_byteOf kN_X5 kD_X5_byteOf) rfl rfl rfl (by decide +kernel) ⟨Nat.le_of_ble_eq_true rfl, Nat.le_of_ble_eq_true rfl⟩) (zp_S hP hK hSt hS hnw) rfl rfl hl.1 rfl (lv_room (Nat.le_of_ble_eq_true rfl)) dX5_frame_73 ⟨Nat.le_of_ble_eq_true rfl, Nat.le_of_ble_eq_true rfl⟩) ?_
    refine zb_ti (y := nI (lo / 256 % 256)) (by rw [bN_1 hlo]) ?_
    refine lv_aload_n hx hb dX5_frame_76 rfl (lv_at hl 1 rfl) ?_
    refine va_get (D := D) (ci := 5) (v := .int N) (fs := [.int 0, .int N, .ref (b 1), .ref (b 2), .ref (b 3), .ref (b 4), .ref (b 5), .ref (b 6), .int 22, .int 95, .int nd.1, .int nd.2.2.1, .int nd.2.1, .long nd.2.2.2, .int t.2.1, .int t.2.2.1, .int t.2.2.2.1, .int t.2.2.2.2.1, .int t.2.2.2.2.2, .ref (b 7), .long q, .int sg, .ref (b 8), .ref (b 9), .ref (b 10), .int ((ro ob.2.2 ob).2.2.2.1), .int ((ro ob.2.2 ob).2.2.2.2)]) (C := RX5) (T := TX5) (N := 27) hx hb htb inX5 hown hK hP 0 rfl rfl 1 (by decide) (htb _ kF_X5_41) (fun _ h9 => h9) rfl dX5_frame_77 ?_
    refine lv_icmp_ne (tgt := 96) hx hb dX5_frame_80 (by decide) (fun hc5 => ?_) (fun hc5 => ?_)
    · refine lv_iload_n hx hb dX5_frame_96 rfl (lv_at hl 2 rfl) ?_
      refine lv_sipush (v := 128) hx hb dX5_frame_97 (by decide) ?_
      refine lv_icmp_ne (tgt := 118) hx hb dX5_frame_100 (by decide) (fun _ => ?_) (fun hno => absurd hno (by decide))
      refine lv_iload_n hx hb dX5_frame_118 rfl (lv_at hl 2 rfl) ?_
      refine lv_sipush (v := 512) hx hb dX5_frame_119 (by decide) ?_
      refine lv_aload_n hx hb dX5_frame_122 rfl (lv_at hl 1 rfl) ?_
      refine va_get (D := D) (ci := 5) (v := .int N) (fs := [.int 0, .int N, .ref (b 1), .ref (b 2), .ref (b 3), .ref (b 4), .ref (b 5), .ref (b 6), .int 22, .int 95, .int nd.1, .int nd.2.2.1, .int nd.2.1, .long nd.2.2.2, .int t.2.1, .int t.2.2.1, .int t.2.2.2.1, .int t.2.2.2.2.1, .int t.2.2.2.2.2, .ref (b 7), .long q, .int sg, .ref (b 8), .ref (b 9), .ref (b 10), .int ((ro ob.2.2 ob).2.2.2.1), .int ((ro ob.2.2 ob).2.2.2.2)]) (C := RX5) (T := TX5) (N := 27) hx hb htb inX5 hown hK hP 0 rfl rfl 1 (by decide) (htb _ kF_X5_41) (fun _ h9 => h9) rfl dX5_frame_123 ?_
      refine lv_iadd hx hb dX5_frame_126 ?_
      refine lv_icmp_ne (tgt := 156) hx hb dX5_frame_127 (by decide) (fun _ => ?_) (fun hno => absurd hno hn5)
      refine lv_iload_n hx hb dX5_frame_156 rfl (lv_at hl 2 rfl) ?_
      refine lv_sipush (v := 1536) hx hb dX5_frame_157 (by decide) ?_
      refine lv_aload_n hx hb dX5_frame_160 rfl (lv_at hl 1 rfl) ?_
      refine va_get (D := D) (ci := 5) (v := .int N) (fs := [.int 0, .int N, .ref (b 1), .ref (b 2), .ref (b 3), .ref (b 4), .ref (b 5), .ref (b 6), .int 22, .int 95, .int nd.1, .int nd.2.2.1, .int nd.2.1, .long nd.2.2.2, .int t.2.1, .int t.2.2.1, .int t.2.2.2.1, .int t.2.2.2.2.1, .int t.2.2.2.2.2, .ref (b 7), .long q, .int sg, .ref (b 8), .ref (b 9), .ref (b 10), .int ((ro ob.2.2 ob).2.2.2.1), .int ((ro ob.2.2 ob).2.2.2.2)]) (C := RX5) (T := TX5) (N := 27) hx hb htb inX5 hown hK hP 0 rfl rfl 1 (by decide) (htb _ kF_X5_41) (fun _ h9 => h9) rfl dX5_frame_161 ?_
      refine lv_iadd hx hb dX5_frame_164 ?_
      refine lv_icmp_ne (tgt := 188) hx hb dX5_frame_165 (by decide) (fun _ => ?_) (fun hno => absurd hno hn15)
      have hM9 : kMid N f ob tr nd 0 ln lo hg e d ad = (f, ob, tr, nd) := by unfold kMid; rw [if_pos ⟨rfl, hc1⟩, if_neg (fun h => h.elim hc2 hc5)]
      have hrM : rel2 (kMid N f ob tr nd 0 ln lo hg e d ad).2.2.1 t := by rw [hM9]; exact hR
      have hP : va_P D vwCl (rw0 b cA cJ N ((kMid N f ob tr nd 0 ln lo hg e d ad).1) (ro ob.2.2 ((kMid N f ob tr nd 0 ln lo hg e d ad).2.1)) t ((kMid N f ob tr nd 0 ln lo hg e d ad).2.2.2) q sg 0) H := by rw [hM9]; exact hP
      have hD : va_D A (rw0 b cA cJ N ((kMid N f ob tr nd 0 ln lo hg e d ad).1) (ro ob.2.2 ((kMid N f ob tr nd 0 ln lo hg e d ad).2.1)) t ((kMid N f ob tr nd 0 ln lo hg e d ad).2.2.2) q sg 0) := by rw [hM9]; exact hD
      refine lv_aload_n hx hb dX5_frame_188 rfl (lv_at hl 1 rfl) ?_
      refine zb_cv (va_runV (As := []) (rest := []) ⟨hx, hb, hml, hown, htb⟩ (r_end l D b cA cJ N ((kMid N f ob tr nd 0 ln lo hg e d ad).1) ob.2.2 ((kMid N f ob tr nd 0 ln lo hg e d ad).2.1) t ((kMid N f ob tr nd 0 ln lo hg e d ad).2.2.2) q sg 0 _ hB2 hG2 ho2) (cwV 0 htb (wb_V kM_X5_210 kI_X5_end kS_X5_end kN_X5 kD_X5_end) rfl rfl rfl (by decide +kernel) ⟨Nat.le_of_ble_eq_true rfl, Nat.le_of_ble_eq_true rfl⟩) (zp_VW 0 rfl rfl hP hD hK hSt hS hA hnw) rfl rfl hl.1 rfl (lv_room (Nat.le_of_ble_eq_true rfl)) dX5_frame_189 ⟨Nat.le_of_ble_eq_true rfl, Nat.le_of_ble_eq_true rfl⟩) hD hS hA (fun H locs hP hD hS => ?_)
      have hP : va_P D vwCl (rw0 b cA cJ N ((kMid N f ob tr nd 0 ln lo hg e d ad).1) (ro ob.2.2 (kEv N ((kMid N f ob tr nd 0 ln lo hg e d ad).1) ((kMid N f ob tr nd 0 ln lo hg e d ad).2.1) ((kMid N f ob tr nd 0 ln lo hg e d ad).2.2.2))) t (nEv ((kMid N f ob tr nd 0 ln lo hg e d ad).1) ((kMid N f ob tr nd 0 ln lo hg e d ad).2.2.2)) q sg 0) H := hP
      have hD : va_D A (rw0 b cA cJ N ((kMid N f ob tr nd 0 ln lo hg e d ad).1) (ro ob.2.2 (kEv N ((kMid N f ob tr nd 0 ln lo hg e d ad).1) ((kMid N f ob tr nd 0 ln lo hg e d ad).2.1) ((kMid N f ob tr nd 0 ln lo hg e d ad).2.2.2))) t (nEv ((kMid N f ob tr nd 0 ln lo hg e d ad).1) ((kMid N f ob tr nd 0 ln lo hg e d ad).2.2.2)) q sg 0) := hD
      refine lv_aload_n hx hb dX5_frame_192 rfl (lv_at hl 1 rfl) ?_
      refine va_get (D := D) (ci := 5) (v := .int ((ro ob.2.2 (kEv N ((kMid N f ob tr nd 0 ln lo hg e d ad).1) ((kMid N f ob tr nd 0 ln lo hg e d ad).2.1) ((kMid N f ob tr nd 0 ln lo hg e d ad).2.2.2))).2.2.2.2)) (fs := [.int 0, .int N, .ref (b 1), .ref (b 2), .ref (b 3), .ref (b 4), .ref (b 5), .ref (b 6), .int 22, .int 95, .int ((nEv ((kMid N f ob tr nd 0 ln lo hg e d ad).1) ((kMid N f ob tr nd 0 ln lo hg e d ad).2.2.2)).1), .int ((nEv ((kMid N f ob tr nd 0 ln lo hg e d ad).1) ((kMid N f ob tr nd 0 ln lo hg e d ad).2.2.2)).2.2.1), .int ((nEv ((kMid N f ob tr nd 0 ln lo hg e d ad).1) ((kMid N f ob tr nd 0 ln lo hg e d ad).2.2.2)).2.1), .long ((nEv ((kMid N f ob tr nd 0 ln lo hg e d ad).1) ((kMid N f ob tr nd 0 ln lo hg e d ad).2.2.2)).2.2.2), .int t.2.1, .int t.2.2.1, .int t.2.2.2.1, .int t.2.2.2.2.1, .int t.2.2.2.2.2, .ref (b 7), .long q, .int sg, .ref (b 8), .ref (b 9), .ref (b 10), .int ((ro ob.2.2 (kEv N ((kMid N f ob tr nd 0 ln lo hg e d ad).1) ((kMid N f ob tr nd 0 ln lo hg e d ad).2.1) ((kMid N f ob tr nd 0 ln lo hg e d ad).2.2.2))).2.2.2.1), .int ((ro ob.2.2 (kEv N ((kMid N f ob tr nd 0 ln lo hg e d ad).1) ((kMid N f ob tr nd 0 ln lo hg e d ad).2.1) ((kMid N f ob tr nd 0 ln lo hg e d ad).2.2.2))).2.2.2.2)]) (C := RX5) (T := TX5) (N := 27) hx hb htb inX5 hown hK hP 0 rfl rfl 26 (by decide) (htb _ kF_X5_72) (fun _ h9 => h9) rfl dX5_frame_193 ?_
      rw [hQ]
      have hw9 : (rw0 b cA cJ N ((kMid N f ob tr nd 0 ln lo hg e d ad).1) (ro ob.2.2 (kEv N ((kMid N f ob tr nd 0 ln lo hg e d ad).1) ((kMid N f ob tr nd 0 ln lo hg e d ad).2.1) ((kMid N f ob tr nd 0 ln lo hg e d ad).2.2.2))) t (nEv ((kMid N f ob tr nd 0 ln lo hg e d ad).1) ((kMid N f ob tr nd 0 ln lo hg e d ad).2.2.2)) q sg 0) = r4 b cA cJ N ob.2.2 0 (kEnd N (kMid N f ob tr nd 0 ln lo hg e d ad)) (t, q, sg) := rfl
      have hr9 : rel2 (kEnd N (kMid N f ob tr nd 0 ln lo hg e d ad)).2.2.1 t := hrM
      exact W.iret (v := (ro ob.2.2 (kEv N ((kMid N f ob tr nd 0 ln lo hg e d ad).1) ((kMid N f ob tr nd 0 ln lo hg e d ad).2.1) ((kMid N f ob tr nd 0 ln lo hg e d ad).2.2.2))).2.2.2.2) hx hb hr (fun t9 ht hW => ⟨congrArg (fun z => Outcome.returned (some (Value.int z))) (rfl), (t, q, sg), hr9, by rw [ht, ← hw9]; exact hP, by rw [← hw9]; exact hD, hS.F ht⟩) hS.2.2 dX5_frame_196
    refine lv_aload_n hx hb dX5_frame_83 rfl (lv_at hl 1 rfl) ?_
    refine lv_lload hx hb dX5_frame_84 (lv_at hl 0 rfl) ?_
    refine lv_iconst (v := 0) hx hb dX5_frame_86 (by decide) ?_
    refine zb_ci (va_runS (As := [.long (lN (lo + 4294967296 * hg)), .int 0]) (rest := [.ref (b 0)]) ⟨hx, hb, hml, hown, htb⟩ (r_byteOf l D b cA cJ N f (ro ob.2.2 ob) t nd q sg 0 (lo + 4294967296 * hg) 0 (by omega)) (va_cwS 2 htb (wb_S kM_X5_119 kZ_X5_byteOf kN_X5 kD_X5_byteOf) rfl rfl rfl (by decide +kernel) ⟨Nat.le_of_ble_eq_true rfl, Nat.le_of_ble_eq_true rfl⟩) (zp_S hP hK hSt hS hnw) rfl rfl hl.1 rfl (lv_room (Nat.le_of_ble_eq_true rfl)) dX5_frame_87 ⟨Nat.le_of_ble_eq_true rfl, Nat.le_of_ble_eq_true rfl⟩) ?_
    refine zb_ti (y := nI (lo % 256)) (by rw [hxa.2.2.2.1]) ?_
    refine zb_ce (va_runV (As := [.int (nI (lo % 256))]) (rest := []) ⟨hx, hb, hml, hown, htb⟩ (r_command l D b cA cJ N f ob.2.2 ob t nd q sg 0 _ tr (lo % 256) hB hG ho hR (by omega)) (cwV 1 htb (wb_V kM_X5_196 kI_X5_command kS_X5_command kN_X5 kD_X5_command) rfl rfl rfl (by decide +kernel) ⟨Nat.le_of_ble_eq_true rfl, Nat.le_of_ble_eq_true rfl⟩) (zp_VW 0 rfl rfl hP hD hK hSt hS hA hnw) rfl rfl hl.1 rfl (lv_room (Nat.le_of_ble_eq_true rfl)) dX5_frame_90 ⟨Nat.le_of_ble_eq_true rfl, Nat.le_of_ble_eq_true rfl⟩) hD hS hA (fun y6 hy7 H locs hP hD hS => ?_)
    have hP : va_P D vwCl (rw0 b cA cJ N ((kCmd N f ob tr nd (lo % 256)).1) (ro ob.2.2 ((kCmd N f ob tr nd (lo % 256)).2.1)) y6.1 ((kCmd N f ob tr nd (lo % 256)).2.2.2) y6.2.1 y6.2.2 0) H := hP
    have hD : va_D A (rw0 b cA cJ N ((kCmd N f ob tr nd (lo % 256)).1) (ro ob.2.2 ((kCmd N f ob tr nd (lo % 256)).2.1)) y6.1 ((kCmd N f ob tr nd (lo % 256)).2.2.2) y6.2.1 y6.2.2 0) := hD
    refine lv_goto (tgt := 188) hx hb dX5_frame_93 (by decide) ?_
    have hM9 : kMid N f ob tr nd 0 ln lo hg e d ad = kCmd N f ob tr nd (lo % 256) := by unfold kMid; rw [if_pos ⟨rfl, hc1⟩, if_pos (Or.inr hc5)]
    have hrM : rel2 (kMid N f ob tr nd 0 ln lo hg e d ad).2.2.1 y6.1 := by rw [hM9]; exact hy7
    have hP : va_P D vwCl (rw0 b cA cJ N ((kMid N f ob tr nd 0 ln lo hg e d ad).1) (ro ob.2.2 ((kMid N f ob tr nd 0 ln lo hg e d ad).2.1)) y6.1 ((kMid N f ob tr nd 0 ln lo hg e d ad).2.2.2) y6.2.1 y6.2.2 0) H := by rw [hM9]; exact hP
    have hD : va_D A (rw0 b cA cJ N ((kMid N f ob tr nd 0 ln lo hg e d ad).1) (ro ob.2.2 ((kMid N f ob tr nd 0 ln lo hg e d ad).2.1)) y6.1 ((kMid N f ob tr nd 0 ln lo hg e d ad).2.2.2) y6.2.1 y6.2.2 0) := by rw [hM9]; exact hD
    refine lv_aload_n hx hb dX5_frame_188 rfl (lv_at hl 1 rfl) ?_
    refine zb_cv (va_runV (As := []) (rest := []) ⟨hx, hb, hml, hown, htb⟩ (r_end l D b cA cJ N ((kMid N f ob tr nd 0 ln lo hg e d ad).1) ob.2.2 ((kMid N f ob tr nd 0 ln lo hg e d ad).2.1) y6.1 ((kMid N f ob tr nd 0 ln lo hg e d ad).2.2.2) y6.2.1 y6.2.2 0 _ hB2 hG2 ho2) (cwV 0 htb (wb_V kM_X5_210 kI_X5_end kS_X5_end kN_X5 kD_X5_end) rfl rfl rfl (by decide +kernel) ⟨Nat.le_of_ble_eq_true rfl, Nat.le_of_ble_eq_true rfl⟩) (zp_VW 0 rfl rfl hP hD hK hSt hS hA hnw) rfl rfl hl.1 rfl (lv_room (Nat.le_of_ble_eq_true rfl)) dX5_frame_189 ⟨Nat.le_of_ble_eq_true rfl, Nat.le_of_ble_eq_true rfl⟩) hD hS hA (fun H locs hP hD hS => ?_)
    have hP : va_P D vwCl (rw0 b cA cJ N ((kMid N f ob tr nd 0 ln lo hg e d ad).1) (ro ob.2.2 (kEv N ((kMid N f ob tr nd 0 ln lo hg e d ad).1) ((kMid N f ob tr nd 0 ln lo hg e d ad).2.1) ((kMid N f ob tr nd 0 ln lo hg e d ad).2.2.2))) y6.1 (nEv ((kMid N f ob tr nd 0 ln lo hg e d ad).1) ((kMid N f ob tr nd 0 ln lo hg e d ad).2.2.2)) y6.2.1 y6.2.2 0) H := hP
    have hD : va_D A (rw0 b cA cJ N ((kMid N f ob tr nd 0 ln lo hg e d ad).1) (ro ob.2.2 (kEv N ((kMid N f ob tr nd 0 ln lo hg e d ad).1) ((kMid N f ob tr nd 0 ln lo hg e d ad).2.1) ((kMid N f ob tr nd 0 ln lo hg e d ad).2.2.2))) y6.1 (nEv ((kMid N f ob tr nd 0 ln lo hg e d ad).1) ((kMid N f ob tr nd 0 ln lo hg e d ad).2.2.2)) y6.2.1 y6.2.2 0) := hD
    refine lv_aload_n hx hb dX5_frame_192 rfl (lv_at hl 1 rfl) ?_
    refine va_get (D := D) (ci := 5) (v := .int ((ro ob.2.2 (kEv N ((kMid N f ob tr nd 0 ln lo hg e d ad).1) ((kMid N f ob tr nd 0 ln lo hg e d ad).2.1) ((kMid N f ob tr nd 0 ln lo hg e d ad).2.2.2))).2.2.2.2)) (fs := [.int 0, .int N, .ref (b 1), .ref (b 2), .ref (b 3), .ref (b 4), .ref (b 5), .ref (b 6), .int 22, .int 95, .int ((nEv ((kMid N f ob tr nd 0 ln lo hg e d ad).1) ((kMid N f ob tr nd 0 ln lo hg e d ad).2.2.2)).1), .int ((nEv ((kMid N f ob tr nd 0 ln lo hg e d ad).1) ((kMid N f ob tr nd 0 ln lo hg e d ad).2.2.2)).2.2.1), .int ((nEv ((kMid N f ob tr nd 0 ln lo hg e d ad).1) ((kMid N f ob tr nd 0 ln lo hg e d ad).2.2.2)).2.1), .long ((nEv ((kMid N f ob tr nd 0 ln lo hg e d ad).1) ((kMid N f ob tr nd 0 ln lo hg e d ad).2.2.2)).2.2.2), .int y6.1.2.1, .int y6.1.2.2.1, .int y6.1.2.2.2.1, .int y6.1.2.2.2.2.1, .int y6.1.2.2.2.2.2, .ref (b 7), .long y6.2.1, .int y6.2.2, .ref (b 8), .ref (b 9), .ref (b 10), .int ((ro ob.2.2 (kEv N ((kMid N f ob tr nd 0 ln lo hg e d ad).1) ((kMid N f ob tr nd 0 ln lo hg e d ad).2.1) ((kMid N f ob tr nd 0 ln lo hg e d ad).2.2.2))).2.2.2.1), .int ((ro ob.2.2 (kEv N ((kMid N f ob tr nd 0 ln lo hg e d ad).1) ((kMid N f ob tr nd 0 ln lo hg e d ad).2.1) ((kMid N f ob tr nd 0 ln lo hg e d ad).2.2.2))).2.2.2.2)]) (C := RX5) (T := TX5) (N := 27) hx hb htb inX5 hown hK hP 0 rfl rfl 26 (by decide) (htb _ kF_X5_72) (fun _ h9 => h9) rfl dX5_frame_193 ?_
    rw [hQ]
    have hw9 : (rw0 b cA cJ N ((kMid N f ob tr nd 0 ln lo hg e d ad).1) (ro ob.2.2 (kEv N ((kMid N f ob tr nd 0 ln lo hg e d ad).1) ((kMid N f ob tr nd 0 ln lo hg e d ad).2.1) ((kMid N f ob tr nd 0 ln lo hg e d ad).2.2.2))) y6.1 (nEv ((kMid N f ob tr nd 0 ln lo hg e d ad).1) ((kMid N f ob tr nd 0 ln lo hg e d ad).2.2.2)) y6.2.1 y6.2.2 0) = r4 b cA cJ N ob.2.2 0 (kEnd N (kMid N f ob tr nd 0 ln lo hg e d ad)) (y6.1, y6.2.1, y6.2.2) := rfl
    have hr9 : rel2 (kEnd N (kMid N f ob tr nd 0 ln lo hg e d ad)).2.2.1 y6.1 := hrM
    exact W.iret (v := (ro ob.2.2 (kEv N ((kMid N f ob tr nd 0 ln lo hg e d ad).1) ((kMid N f ob tr nd 0 ln lo hg e d ad).2.1) ((kMid N f ob tr nd 0 ln lo hg e d ad).2.2.2))).2.2.2.2) hx hb hr (fun t9 ht hW => ⟨congrArg (fun z => Outcome.returned (some (Value.int z))) (rfl), (y6.1, y6.2.1, y6.2.2), hr9, by rw [ht, ← hw9]; exact hP, by rw [← hw9]; exact hD, hS.F ht⟩) hS.2.2 dX5_frame_196
  by_cases hs : fid = 128
  · subst hs
    have hn5 : ¬ (128 : Int32) = 512 + N := by rw [h512]; exact fun h => by have := (nI_eq (a := 128) (by decide) (by omega)).mp h; omega
    have hn15 : ¬ (128 : Int32) = 1536 + N := by rw [h1536]; exact fun h => by have := (nI_eq (a := 128) (by decide) (by omega)).mp h; omega
    refine lv_aload_n hx hb dX5_frame_0 rfl (lv_at hl 0 rfl) ?_
    refine lv_iload_n hx hb dX5_frame_1 rfl (lv_at hl 1 rfl) ?_
    refine lv_if_lt (tgt := 22) hx hb dX5_frame_2 (by decide) (fun hno => absurd hno (hf0)) (fun _ => ?_)
    refine lv_iload_n hx hb dX5_frame_5 rfl (lv_at hl 1 rfl) ?_
    refine lv_sipush (v := 2047) hx hb dX5_frame_6 (by decide) ?_
    refine lv_icmp_gt (tgt := 22) hx hb dX5_frame_9 (by decide) (fun hno => absurd hno (hf1)) (fun _ => ?_)
    refine lv_iload_n hx hb dX5_frame_12 rfl (lv_at hl 2 rfl) ?_
    refine lv_if_lt (tgt := 22) hx hb dX5_frame_13 (by decide) (fun hno => absurd hno (hl0)) (fun _ => ?_)
    refine lv_iload_n hx hb dX5_frame_16 rfl (lv_at hl 2 rfl) ?_
    refine lv_bipush (v := 8) hx hb dX5_frame_17 (by decide) ?_
    refine lv_icmp_le (tgt := 26) hx hb dX5_frame_19 (by decide) (fun _ => ?_) (fun hno => absurd (hl8) hno)
    refine lv_iconst (v := 0) hx hb dX5_frame_26 (by decide) ?_
    refine va_put (D := D) (ci := 5) (v := .int 0) (fs := [.int th, .int N, .ref (b 1), .ref (b 2), .ref (b 3), .ref (b 4), .ref (b 5), .ref (b 6), .int 22, .int 95, .int nd.1, .int nd.2.2.1, .int nd.2.1, .long nd.2.2.2, .int t.2.1, .int t.2.2.1, .int t.2.2.2.1, .int t.2.2.2.2.1, .int t.2.2.2.2.2, .ref (b 7), .long q, .int sg, .ref (b 8), .ref (b 9), .ref (b 10), .int ((ro z ob).2.2.2.1), .int ((ro z ob).2.2.2.2)]) (ty := .int) (C := RX5) (T := TX5) (N := 27) hx hb htb inX5 tyX5 tyX5_ok nmX5 hown hK hP hD hS 0 rfl rfl 0 (by decide) (htb _ kF_X5_67) (fun _ h9 => h9) rfl (by decide +kernel) rfl rfl (Nat.le_of_ble_eq_true rfl) dX5_frame_27 (fun H locs hP hD hS => ?_)
    have hP : va_P D vwCl (rw0 b cA cJ N f (ro z ob) t nd q sg 0) H := hP
    have hD : va_D A (rw0 b cA cJ N f (ro z ob) t nd q sg 0) := hD
    refine lv_aload_n hx hb dX5_frame_30 rfl (lv_at hl 0 rfl) ?_
    refine va_get (D := D) (ci := 5) (v := .int 0) (fs := [.int 0, .int N, .ref (b 1), .ref (b 2), .ref (b 3), .ref (b 4), .ref (b 5), .ref (b 6), .int 22, .int 95, .int nd.1, .int nd.2.2.1, .int nd.2.1, .long nd.2.2.2, .int t.2.1, .int t.2.2.1, .int t.2.2.2.1, .int t.2.2.2.2.1, .int t.2.2.2.2.2, .ref (b 7), .long q, .int sg, .ref (b 8), .ref (b 9), .ref (b 10), .int ((ro z ob).2.2.2.1), .int ((ro z ob).2.2.2.2)]) (C := RX5) (T := TX5) (N := 27) hx hb htb inX5 hown hK hP 0 rfl rfl 0 (by decide) (htb _ kF_X5_67) (fun _ h9 => h9) rfl dX5_frame_31 ?_
    refine lv_if_le (tgt := 39) hx hb dX5_frame_34 (by decide) (fun _ => ?_) (fun hno => absurd (by decide) hno)
    refine lv_aload_n hx hb dX5_frame_39 rfl (lv_at hl 0 rfl) ?_
    refine lv_iconst (v := 0) hx hb dX5_frame_40 (by decide) ?_
    refine va_put (D := D) (ci := 5) (v := .int 0) (fs := [.int 0, .int N, .ref (b 1), .ref (b 2), .ref (b 3), .ref (b 4), .ref (b 5), .ref (b 6), .int 22, .int 95, .int nd.1, .int nd.2.2.1, .int nd.2.1, .long nd.2.2.2, .int t.2.1, .int t.2.2.1, .int t.2.2.2.1, .int t.2.2.2.2.1, .int t.2.2.2.2.2, .ref (b 7), .long q, .int sg, .ref (b 8), .ref (b 9), .ref (b 10), .int ((ro z ob).2.2.2.1), .int ((ro z ob).2.2.2.2)]) (ty := .int) (C := RX5) (T := TX5) (N := 27) hx hb htb inX5 tyX5 tyX5_ok nmX5 hown hK hP hD hS 0 rfl rfl 26 (by decide) (htb _ kF_X5_72) (fun _ h9 => h9) rfl (by decide +kernel) rfl rfl (Nat.le_of_ble_eq_true rfl) dX5_frame_41 (fun H locs hP hD hS => ?_)
    have hP : va_P D vwCl (rw0 b cA cJ N f ((ro z ob).1, (ro z ob).2.1, (ro z ob).2.2.1, (ro z ob).2.2.2.1, 0) t nd q sg 0) H := hP
    have hD : va_D A (rw0 b cA cJ N f ((ro z ob).1, (ro z ob).2.1, (ro z ob).2.2.1, (ro z ob).2.2.2.1, 0) t nd q sg 0) := hD
    rw [ro_0] at hP hD
    have hP : va_P D vwCl (rw0 b cA cJ N f (ro ob.2.2 ob) t nd q sg 0) H := hP
    have hD : va_D A (rw0 b cA cJ N f (ro ob.2.2 ob) t nd q sg 0) := hD
    refine lv_iload_n hx hb dX5_frame_44 rfl (lv_at hl 3 rfl) ?_
    refine lv_iload hx hb dX5_frame_45 (lv_at hl 4 rfl) ?_
    refine zb_cl (va_runS (As := [.int (nI lo), .int (nI hg)]) (rest := []) ⟨hx, hb, hml, hown, htb⟩ (r_both l D b cA cJ N f (ro ob.2.2 ob) t nd q sg 0 lo hg hlo hhg) (va_cwS 2 htb (wb_S kM_X5_192 kZ_X5_both kN_X5 kD_X5_both) rfl rfl rfl (by decide +kernel) ⟨Nat.le_of_ble_eq_true rfl, Nat.le_of_ble_eq_true rfl⟩) (zp_S hP hK hSt hS hnw) rfl rfl hl.1 rfl (lv_room (Nat.le_of_ble_eq_true rfl)) dX5_frame_47 ⟨Nat.le_of_ble_eq_true rfl, Nat.le_of_ble_eq_true rfl⟩) ?_
    refine lv_lstore hx hb dX5_frame_50 hl (by decide) rfl (fun ls hl => ?_)
    have hl : lv_has ls 7 [(5, .long (lN (lo + 4294967296 * hg))), (0, .ref (b 0)), (1, .int 128), (2, .int ln), (3, .int (nI lo)), (4, .int (nI hg))] := hl
    refine lv_iload_n hx hb dX5_frame_52 rfl (lv_at hl 2 rfl) ?_
    refine lv_if_ne (tgt := 96) hx hb dX5_frame_53 (by decide) (fun _ => ?_) (fun hno => absurd hno (by decide))
    refine lv_iload_n hx hb dX5_frame_96 rfl (lv_at hl 2 rfl) ?_
    refine lv_sipush (v := 128) hx hb dX5_frame_97 (by decide) ?_
    refine lv_icmp_ne (tgt := 118) hx hb dX5_frame_100 (by decide) (fun hno => absurd (by decide) hno) (fun _ => ?_)
    refine lv_aload_n hx hb dX5_frame_103 rfl (lv_at hl 1 rfl) ?_
    refine va_get (D := D) (ci := 5) (v := .int nd.1) (fs := [.int 0, .int N, .ref (b 1), .ref (b 2), .ref (b 3), .ref (b 4), .ref (b 5), .ref (b 6), .int 22, .int 95, .int nd.1, .int nd.2.2.1, .int nd.2.1, .long nd.2.2.2, .int t.2.1, .int t.2.2.1, .int t.2.2.2.1, .int t.2.2.2.2.1, .int t.2.2.2.2.2, .ref (b 7), .long q, .int sg, .ref (b 8), .ref (b 9), .ref (b 10), .int ((ro ob.2.2 ob).2.2.2.1), .int ((ro ob.2.2 ob).2.2.2.2)]) (C := RX5) (T := TX5) (N := 27) hx hb htb inX5 hown hK hP 0 rfl rfl 10 (by decide) (htb _ kF_X5_82) (fun _ h9 => h9) rfl dX5_frame_104 ?_
    refine lv_iconst (v := 5) hx hb dX5_frame_107 (by decide) ?_
    refine lv_icmp_ne (tgt := 118) hx hb dX5_frame_108 (by decide) (fun hc8 => ?_) (fun hc8 => ?_)
    · refine lv_iload_n hx hb dX5_frame_118 rfl (lv_at hl 2 rfl) ?_
      refine lv_sipush (v := 512) hx hb dX5_frame_119 (by decide) ?_
      refine lv_aload_n hx hb dX5_frame_122 rfl (lv_at hl 1 rfl) ?_
      refine va_get (D := D) (ci := 5) (v := .int N) (fs := [.int 0, .int N, .ref (b 1), .ref (b 2), .ref (b 3), .ref (b 4), .ref (b 5), .ref (b 6), .int 22, .int 95, .int nd.1, .int nd.2.2.1, .int nd.2.1, .long nd.2.2.2, .int t.2.1, .int t.2.2.1, .int t.2.2.2.1, .int t.2.2.2.2.1, .int t.2.2.2.2.2, .ref (b 7), .long q, .int sg, .ref (b 8), .ref (b 9), .ref (b 10), .int ((ro ob.2.2 ob).2.2.2.1), .int ((ro ob.2.2 ob).2.2.2.2)]) (C := RX5) (T := TX5) (N := 27) hx hb htb inX5 hown hK hP 0 rfl rfl 1 (by decide) (htb _ kF_X5_41) (fun _ h9 => h9) rfl dX5_frame_123 ?_
      refine lv_iadd hx hb dX5_frame_126 ?_
      refine lv_icmp_ne (tgt := 156) hx hb dX5_frame_127 (by decide) (fun _ => ?_) (fun hno => absurd hno hn5)
      refine lv_iload_n hx hb dX5_frame_156 rfl (lv_at hl 2 rfl) ?_
      refine lv_sipush (v := 1536) hx hb dX5_frame_157 (by decide) ?_
      refine lv_aload_n hx hb dX5_frame_160 rfl (lv_at hl 1 rfl) ?_
      refine va_get (D := D) (ci := 5) (v := .int N) (fs := [.int 0, .int N, .ref (b 1), .ref (b 2), .ref (b 3), .ref (b 4), .ref (b 5), .ref (b 6), .int 22, .int 95, .int nd.1, .int nd.2.2.1, .int nd.2.1, .long nd.2.2.2, .int t.2.1, .int t.2.2.1, .int t.2.2.2.1, .int t.2.2.2.2.1, .int t.2.2.2.2.2, .ref (b 7), .long q, .int sg, .ref (b 8), .ref (b 9), .ref (b 10), .int ((ro ob.2.2 ob).2.2.2.1), .int ((ro ob.2.2 ob).2.2.2.2)]) (C := RX5) (T := TX5) (N := 27) hx hb htb inX5 hown hK hP 0 rfl rfl 1 (by decide) (htb _ kF_X5_41) (fun _ h9 => h9) rfl dX5_frame_161 ?_
      refine lv_iadd hx hb dX5_frame_164 ?_
      refine lv_icmp_ne (tgt := 188) hx hb dX5_frame_165 (by decide) (fun _ => ?_) (fun hno => absurd hno hn15)
      have hM9 : kMid N f ob tr nd 128 ln lo hg e d ad = (f, ob, tr, nd) := by unfold kMid; rw [if_neg (fun h => absurd h.1 (by decide)), if_pos rfl]; simp only [kSync, nSync, if_neg hc8]
      have hrM : rel2 (kMid N f ob tr nd 128 ln lo hg e d ad).2.2.1 t := by rw [hM9]; exact hR
      have hP : va_P D vwCl (rw0 b cA cJ N ((kMid N f ob tr nd 128 ln lo hg e d ad).1) (ro ob.2.2 ((kMid N f ob tr nd 128 ln lo hg e d ad).2.1)) t ((kMid N f ob tr nd 128 ln lo hg e d ad).2.2.2) q sg 0) H := by rw [hM9]; exact hP
      have hD : va_D A (rw0 b cA cJ N ((kMid N f ob tr nd 128 ln lo hg e d ad).1) (ro ob.2.2 ((kMid N f ob tr nd 128 ln lo hg e d ad).2.1)) t ((kMid N f ob tr nd 128 ln lo hg e d ad).2.2.2) q sg 0) := by rw [hM9]; exact hD
      refine lv_aload_n hx hb dX5_frame_188 rfl (lv_at hl 1 rfl) ?_
      refine zb_cv (va_runV (As := []) (rest := []) ⟨hx, hb, hml, hown, htb⟩ (r_end l D b cA cJ N ((kMid N f ob tr nd 128 ln lo hg e d ad).1) ob.2.2 ((kMid N f ob tr nd 128 ln lo hg e d ad).2.1) t ((kMid N f ob tr nd 128 ln lo hg e d ad).2.2.2) q sg 0 _ hB2 hG2 ho2) (cwV 0 htb (wb_V kM_X5_210 kI_X5_end kS_X5_end kN_X5 kD_X5_end) rfl rfl rfl (by decide +kernel) ⟨Nat.le_of_ble_eq_true rfl, Nat.le_of_ble_eq_true rfl⟩) (zp_VW 0 rfl rfl hP hD hK hSt hS hA hnw) rfl rfl hl.1 rfl (lv_room (Nat.le_of_ble_eq_true rfl)) dX5_frame_189 ⟨Nat.le_of_ble_eq_true rfl, Nat.le_of_ble_eq_true rfl⟩) hD hS hA (fun H locs hP hD hS => ?_)
      have hP : va_P D vwCl (rw0 b cA cJ N ((kMid N f ob tr nd 128 ln lo hg e d ad).1) (ro ob.2.2 (kEv N ((kMid N f ob tr nd 128 ln lo hg e d ad).1) ((kMid N f ob tr nd 128 ln lo hg e d ad).2.1) ((kMid N f ob tr nd 128 ln lo hg e d ad).2.2.2))) t (nEv ((kMid N f ob tr nd 128 ln lo hg e d ad).1) ((kMid N f ob tr nd 128 ln lo hg e d ad).2.2.2)) q sg 0) H := hP
      have hD : va_D A (rw0 b cA cJ N ((kMid N f ob tr nd 128 ln lo hg e d ad).1) (ro ob.2.2 (kEv N ((kMid N f ob tr nd 128 ln lo hg e d ad).1) ((kMid N f ob tr nd 128 ln lo hg e d ad).2.1) ((kMid N f ob tr nd 128 ln lo hg e d ad).2.2.2))) t (nEv ((kMid N f ob tr nd 128 ln lo hg e d ad).1) ((kMid N f ob tr nd 128 ln lo hg e d ad).2.2.2)) q sg 0) := hD
      refine lv_aload_n hx hb dX5_frame_192 rfl (lv_at hl 1 rfl) ?_
      refine va_get (D := D) (ci := 5) (v := .int ((ro ob.2.2 (kEv N ((kMid N f ob tr nd 128 ln lo hg e d ad).1) ((kMid N f ob tr nd 128 ln lo hg e d ad).2.1) ((kMid N f ob tr nd 128 ln lo hg e d ad).2.2.2))).2.2.2.2)) (fs := [.int 0, .int N, .ref (b 1), .ref (b 2), .ref (b 3), .ref (b 4), .ref (b 5), .ref (b 6), .int 22, .int 95, .int ((nEv ((kMid N f ob tr nd 128 ln lo hg e d ad).1) ((kMid N f ob tr nd 128 ln lo hg e d ad).2.2.2)).1), .int ((nEv ((kMid N f ob tr nd 128 ln lo hg e d ad).1) ((kMid N f ob tr nd 128 ln lo hg e d ad).2.2.2)).2.2.1), .int ((nEv ((kMid N f ob tr nd 128 ln lo hg e d ad).1) ((kMid N f ob tr nd 128 ln lo hg e d ad).2.2.2)).2.1), .long ((nEv ((kMid N f ob tr nd 128 ln lo hg e d ad).1) ((kMid N f ob tr nd 128 ln lo hg e d ad).2.2.2)).2.2.2), .int t.2.1, .int t.2.2.1, .int t.2.2.2.1, .int t.2.2.2.2.1, .int t.2.2.2.2.2, .ref (b 7), .long q, .int sg, .ref (b 8), .ref (b 9), .ref (b 10), .int ((ro ob.2.2 (kEv N ((kMid N f ob tr nd 128 ln lo hg e d ad).1) ((kMid N f ob tr nd 128 ln lo hg e d ad).2.1) ((kMid N f ob tr nd 128 ln lo hg e d ad).2.2.2))).2.2.2.1), .int ((ro ob.2.2 (kEv N ((kMid N f ob tr nd 128 ln lo hg e d ad).1) ((kMid N f ob tr nd 128 ln lo hg e d ad).2.1) ((kMid N f ob tr nd 128 ln lo hg e d ad).2.2.2))).2.2.2.2)]) (C := RX5) (T := TX5) (N := 27) hx hb htb inX5 hown hK hP 0 rfl rfl 26 (by decide) (htb _ kF_X5_72) (fun _ h9 => h9) rfl dX5_frame_193 ?_
      rw [hQ]
      have hw9 : (rw0 b cA cJ N ((kMid N f ob tr nd 128 ln lo hg e d ad).1) (ro ob.2.2 (kEv N ((kMid N f ob tr nd 128 ln lo hg e d ad).1) ((kMid N f ob tr nd 128 ln lo hg e d ad).2.1) ((kMid N f ob tr nd 128 ln lo hg e d ad).2.2.2))) t (nEv ((kMid N f ob tr nd 128 ln lo hg e d ad).1) ((kMid N f ob tr nd 128 ln lo hg e d ad).2.2.2)) q sg 0) = r4 b cA cJ N ob.2.2 0 (kEnd N (kMid N f ob tr nd 128 ln lo hg e d ad)) (t, q, sg) := rfl
      have hr9 : rel2 (kEnd N (kMid N f ob tr nd 128 ln lo hg e d ad)).2.2.1 t := hrM
      exact W.iret (v := (ro ob.2.2 (kEv N ((kMid N f ob tr nd 128 ln lo hg e d ad).1) ((kMid N f ob tr nd 128 ln lo hg e d ad).2.1) ((kMid N f ob tr nd 128 ln lo hg e d ad).2.2.2))).2.2.2.2) hx hb hr (fun t9 ht hW => ⟨congrArg (fun z => Outcome.returned (some (Value.int z))) (rfl), (t, q, sg), hr9, by rw [ht, ← hw9]; exact hP, by rw [← hw9]; exact hD, hS.F ht⟩) hS.2.2 dX5_frame_196
    refine lv_aload_n hx hb dX5_frame_111 rfl (lv_at hl 1 rfl) ?_
    refine zb_cv (va_runV (As := []) (rest := []) ⟨hx, hb, hml, hown, htb⟩ (r_sync l D b cA cJ N f ob.2.2 ob t nd q sg 0 _ hB hG ho hc8) (cwV 0 htb (wb_V kM_X5_199 kI_X5_sync kS_X5_sync kN_X5 kD_X5_sync) rfl rfl rfl (by decide +kernel) ⟨Nat.le_of_ble_eq_true rfl, Nat.le_of_ble_eq_true rfl⟩) (zp_VW 0 rfl rfl hP hD hK hSt hS hA hnw) rfl rfl hl.1 rfl (lv_room (Nat.le_of_ble_eq_true rfl)) dX5_frame_112 ⟨Nat.le_of_ble_eq_true rfl, Nat.le_of_ble_eq_true rfl⟩) hD hS hA (fun H locs hP hD hS => ?_)
    have hP : va_P D vwCl (rw0 b cA cJ N f (ro ob.2.2 (kSync N f ob nd)) t (nSync f nd) q sg 0) H := hP
    have hD : va_D A (rw0 b cA cJ N f (ro ob.2.2 (kSync N f ob nd)) t (nSync f nd) q sg 0) := hD
    refine lv_goto (tgt := 188) hx hb dX5_frame_115 (by decide) ?_
    have hM9 : kMid N f ob tr nd 128 ln lo hg e d ad = (f, (kSync N f ob nd), tr, (nSync f nd)) := by unfold kMid; rw [if_neg (fun h => absurd h.1 (by decide)), if_pos rfl]
    have hrM : rel2 (kMid N f ob tr nd 128 ln lo hg e d ad).2.2.1 t := by rw [hM9]; exact hR
    have hP : va_P D vwCl (rw0 b cA cJ N ((kMid N f ob tr nd 128 ln lo hg e d ad).1) (ro ob.2.2 ((kMid N f ob tr nd 128 ln lo hg e d ad).2.1)) t ((kMid N f ob tr nd 128 ln lo hg e d ad).2.2.2) q sg 0) H := by rw [hM9]; exact hP
    have hD : va_D A (rw0 b cA cJ N ((kMid N f ob tr nd 128 ln lo hg e d ad).1) (ro ob.2.2 ((kMid N f ob tr nd 128 ln lo hg e d ad).2.1)) t ((kMid N f ob tr nd 128 ln lo hg e d ad).2.2.2) q sg 0) := by rw [hM9]; exact hD
    refine lv_aload_n hx hb dX5_frame_188 rfl (lv_at hl 1 rfl) ?_
    refine zb_cv (va_runV (As := []) (rest := []) ⟨hx, hb, hml, hown, htb⟩ (r_end l D b cA cJ N ((kMid N f ob tr nd 128 ln lo hg e d ad).1) ob.2.2 ((kMid N f ob tr nd 128 ln lo hg e d ad).2.1) t ((kMid N f ob tr nd 128 ln lo hg e d ad).2.2.2) q sg 0 _ hB2 hG2 ho2) (cwV 0 htb (wb_V kM_X5_210 kI_X5_end kS_X5_end kN_X5 kD_X5_end) rfl rfl rfl (by decide +kernel) ⟨Nat.le_of_ble_eq_true rfl, Nat.le_of_ble_eq_true rfl⟩) (zp_VW 0 rfl rfl hP hD hK hSt hS hA hnw) rfl rfl hl.1 rfl (lv_room (Nat.le_of_ble_eq_true rfl)) dX5_frame_189 ⟨Nat.le_of_ble_eq_true rfl, Nat.le_of_ble_eq_true rfl⟩) hD hS hA (fun H locs hP hD hS => ?_)
    have hP : va_P D vwCl (rw0 b cA cJ N ((kMid N f ob tr nd 128 ln lo hg e d ad).1) (ro ob.2.2 (kEv N ((kMid N f ob tr nd 128 ln lo hg e d ad).1) ((kMid N f ob tr nd 128 ln lo hg e d ad).2.1) ((kMid N f ob tr nd 128 ln lo hg e d ad).2.2.2))) t (nEv ((kMid N f ob tr nd 128 ln lo hg e d ad).1) ((kMid N f ob tr nd 128 ln lo hg e d ad).2.2.2)) q sg 0) H := hP
    have hD : va_D A (rw0 b cA cJ N ((kMid N f ob tr nd 128 ln lo hg e d ad).1) (ro ob.2.2 (kEv N ((kMid N f ob tr nd 128 ln lo hg e d ad).1) ((kMid N f ob tr nd 128 ln lo hg e d ad).2.1) ((kMid N f ob tr nd 128 ln lo hg e d ad).2.2.2))) t (nEv ((kMid N f ob tr nd 128 ln lo hg e d ad).1) ((kMid N f ob tr nd 128 ln lo hg e d ad).2.2.2)) q sg 0) := hD
    refine lv_aload_n hx hb dX5_frame_192 rfl (lv_at hl 1 rfl) ?_
    refine va_get (D := D) (ci := 5) (v := .int ((ro ob.2.2 (kEv N ((kMid N f ob tr nd 128 ln lo hg e d ad).1) ((kMid N f ob tr nd 128 ln lo hg e d ad).2.1) ((kMid N f ob tr nd 128 ln lo hg e d ad).2.2.2))).2.2.2.2)) (fs := [.int 0, .int N, .ref (b 1), .ref (b 2), .ref (b 3), .ref (b 4), .ref (b 5), .ref (b 6), .int 22, .int 95, .int ((nEv ((kMid N f ob tr nd 128 ln lo hg e d ad).1) ((kMid N f ob tr nd 128 ln lo hg e d ad).2.2.2)).1), .int ((nEv ((kMid N f ob tr nd 128 ln lo hg e d ad).1) ((kMid N f ob tr nd 128 ln lo hg e d ad).2.2.2)).2.2.1), .int ((nEv ((kMid N f ob tr nd 128 ln lo hg e d ad).1) ((kMid N f ob tr nd 128 ln lo hg e d ad).2.2.2)).2.1), .long ((nEv ((kMid N f ob tr nd 128 ln lo hg e d ad).1) ((kMid N f ob tr nd 128 ln lo hg e d ad).2.2.2)).2.2.2), .int t.2.1, .int t.2.2.1, .int t.2.2.2.1, .int t.2.2.2.2.1, .int t.2.2.2.2.2, .ref (b 7), .long q, .int sg, .ref (b 8), .ref (b 9), .ref (b 10), .int ((ro ob.2.2 (kEv N ((kMid N f ob tr nd 128 ln lo hg e d ad).1) ((kMid N f ob tr nd 128 ln lo hg e d ad).2.1) ((kMid N f ob tr nd 128 ln lo hg e d ad).2.2.2))).2.2.2.1), .int ((ro ob.2.2 (kEv N ((kMid N f ob tr nd 128 ln lo hg e d ad).1) ((kMid N f ob tr nd 128 ln lo hg e d ad).2.1) ((kMid N f ob tr nd 128 ln lo hg e d ad).2.2.2))).2.2.2.2)]) (C := RX5) (T := TX5) (N := 27) hx hb htb inX5 hown hK hP 0 rfl rfl 26 (by decide) (htb _ kF_X5_72) (fun _ h9 => h9) rfl dX5_frame_193 ?_
    rw [hQ]
    have hw9 : (rw0 b cA cJ N ((kMid N f ob tr nd 128 ln lo hg e d ad).1) (ro ob.2.2 (kEv N ((kMid N f ob tr nd 128 ln lo hg e d ad).1) ((kMid N f ob tr nd 128 ln lo hg e d ad).2.1) ((kMid N f ob tr nd 128 ln lo hg e d ad).2.2.2))) t (nEv ((kMid N f ob tr nd 128 ln lo hg e d ad).1) ((kMid N f ob tr nd 128 ln lo hg e d ad).2.2.2)) q sg 0) = r4 b cA cJ N ob.2.2 0 (kEnd N (kMid N f ob tr nd 128 ln lo hg e d ad)) (t, q, sg) := rfl
    have hr9 : rel2 (kEnd N (kMid N f ob tr nd 128 ln lo hg e d ad)).2.2.1 t := hrM
    exact W.iret (v := (ro ob.2.2 (kEv N ((kMid N f ob tr nd 128 ln lo hg e d ad).1) ((kMid N f ob tr nd 128 ln lo hg e d ad).2.1) ((kMid N f ob tr nd 128 ln lo hg e d ad).2.2.2))).2.2.2.2) hx hb hr (fun t9 ht hW => ⟨congrArg (fun z => Outcome.returned (some (Value.int z))) (rfl), (t, q, sg), hr9, by rw [ht, ← hw9]; exact hP, by rw [← hw9]; exact hD, hS.F ht⟩) hS.2.2 dX5_frame_196
  by_cases ht5 : fid = 512 + N
  · have hn15 : ¬ fid = 1536 + N := by rw [ht5, h512, h1536]; exact fun h => by have := (nI_eq (by omega) (by omega)).mp h; omega
    refine lv_aload_n hx hb dX5_frame_0 rfl (lv_at hl 0 rfl) ?_
    refine lv_iload_n hx hb dX5_frame_1 rfl (lv_at hl 1 rfl) ?_
    refine lv_if_lt (tgt := 22) hx hb dX5_frame_2 (by decide) (fun hno => absurd hno (hf0)) (fun _ => ?_)
    refine lv_iload_n hx hb dX5_frame_5 rfl (lv_at hl 1 rfl) ?_
    refine lv_sipush (v := 2047) hx hb dX5_frame_6 (by decide) ?_
    refine lv_icmp_gt (tgt := 22) hx hb dX5_frame_9 (by decide) (fun hno => absurd hno (hf1)) (fun _ => ?_)
    refine lv_iload_n hx hb dX5_frame_12 rfl (lv_at hl 2 rfl) ?_
    refine lv_if_lt (tgt := 22) hx hb dX5_frame_13 (by decide) (fun hno => absurd hno (hl0)) (fun _ => ?_)
    refine lv_iload_n hx hb dX5_frame_16 rfl (lv_at hl 2 rfl) ?_
    refine lv_bipush (v := 8) hx hb dX5_frame_17 (by decide) ?_
    refine lv_icmp_le (tgt := 26) hx hb dX5_frame_19 (by decide) (fun _ => ?_) (fun hno => absurd (hl8) hno)
    refine lv_iconst (v := 0) hx hb dX5_frame_26 (by decide) ?_
    refine va_put (D := D) (ci := 5) (v := .int 0) (fs := [.int th, .int N, .ref (b 1), .ref (b 2), .ref (b 3), .ref (b 4), .ref (b 5), .ref (b 6), .int 22, .int 95, .int nd.1, .int nd.2.2.1, .int nd.2.1, .long nd.2.2.2, .int t.2.1, .int t.2.2.1, .int t.2.2.2.1, .int t.2.2.2.2.1, .int t.2.2.2.2.2, .ref (b 7), .long q, .int sg, .ref (b 8), .ref (b 9), .ref (b 10), .int ((ro z ob).2.2.2.1), .int ((ro z ob).2.2.2.2)]) (ty := .int) (C := RX5) (T := TX5) (N := 27) hx hb htb inX5 tyX5 tyX5_ok nmX5 hown hK hP hD hS 0 rfl rfl 0 (by decide) (htb _ kF_X5_67) (fun _ h9 => h9) rfl (by decide +kernel) rfl rfl (Nat.le_of_ble_eq_true rfl) dX5_frame_27 (fun H locs hP hD hS => ?_)
    have hP : va_P D vwCl (rw0 b cA cJ N f (ro z ob) t nd q sg 0) H := hP
    have hD : va_D A (rw0 b cA cJ N f (ro z ob) t nd q sg 0) := hD
    refine lv_aload_n hx hb dX5_frame_30 rfl (lv_at hl 0 rfl) ?_
    refine va_get (D := D) (ci := 5) (v := .int 0) (fs := [.int 0, .int N, .ref (b 1), .ref (b 2), .ref (b 3), .ref (b 4), .ref (b 5), .ref (b 6), .int 22, .int 95, .int nd.1, .int nd.2.2.1, .int nd.2.1, .long nd.2.2.2, .int t.2.1, .int t.2.2.1, .int t.2.2.2.1, .int t.2.2.2.2.1, .int t.2.2.2.2.2, .ref (b 7), .long q, .int sg, .ref (b 8), .ref (b 9), .ref (b 10), .int ((ro z ob).2.2.2.1), .int ((ro z ob).2.2.2.2)]) (C := RX5) (T := TX5) (N := 27) hx hb htb inX5 hown hK hP 0 rfl rfl 0 (by decide) (htb _ kF_X5_67) (fun _ h9 => h9) rfl dX5_frame_31 ?_
    refine lv_if_le (tgt := 39) hx hb dX5_frame_34 (by decide) (fun _ => ?_) (fun hno => absurd (by decide) hno)
    refine lv_aload_n hx hb dX5_frame_39 rfl (lv_at hl 0 rfl) ?_
    refine lv_iconst (v := 0) hx hb dX5_frame_40 (by decide) ?_
    refine va_put (D := D) (ci := 5) (v := .int 0) (fs := [.int 0, .int N, .ref (b 1), .ref (b 2), .ref (b 3), .ref (b 4), .ref (b 5), .ref (b 6), .int 22, .int 95, .int nd.1, .int nd.2.2.1, .int nd.2.1, .long nd.2.2.2, .int t.2.1, .int t.2.2.1, .int t.2.2.2.1, .int t.2.2.2.2.1, .int t.2.2.2.2.2, .ref (b 7), .long q, .int sg, .ref (b 8), .ref (b 9), .ref (b 10), .int ((ro z ob).2.2.2.1), .int ((ro z ob).2.2.2.2)]) (ty := .int) (C := RX5) (T := TX5) (N := 27) hx hb htb inX5 tyX5 tyX5_ok nmX5 hown hK hP hD hS 0 rfl rfl 26 (by decide) (htb _ kF_X5_72) (fun _ h9 => h9) rfl (by decide +kernel) rfl rfl (Nat.le_of_ble_eq_true rfl) dX5_frame_41 (fun H locs hP hD hS => ?_)
    have hP : va_P D vwCl (rw0 b cA cJ N f ((ro z ob).1, (ro z ob).2.1, (ro z ob).2.2.1, (ro z ob).2.2.2.1, 0) t nd q sg 0) H := hP
    have hD : va_D A (rw0 b cA cJ N f ((ro z ob).1, (ro z ob).2.1, (ro z ob).2.2.1, (ro z ob).2.2.2.1, 0) t nd q sg 0) := hD
    rw [ro_0] at hP hD
    have hP : va_P D vwCl (rw0 b cA cJ N f (ro ob.2.2 ob) t nd q sg 0) H := hP
    have hD : va_D A (rw0 b cA cJ N f (ro ob.2.2 ob) t nd q sg 0) := hD
    refine lv_iload_n hx hb dX5_frame_44 rfl (lv_at hl 3 rfl) ?_
    refine lv_iload hx hb dX5_frame_45 (lv_at hl 4 rfl) ?_
    refine zb_cl (va_runS (As := [.int (nI lo), .int (nI hg)]) (rest := []) ⟨hx, hb, hml, hown, htb⟩ (r_both l D b cA cJ N f (ro ob.2.2 ob) t nd q sg 0 lo hg hlo hhg) (va_cwS 2 htb (wb_S kM_X5_192 kZ_X5_both kN_X5 kD_X5_both) rfl rfl rfl (by decide +kernel) ⟨Nat.le_of_ble_eq_true rfl, Nat.le_of_ble_eq_true rfl⟩) (zp_S hP hK hSt hS hnw) rfl rfl hl.1 rfl (lv_room (Nat.le_of_ble_eq_true rfl)) dX5_frame_47 ⟨Nat.le_of_ble_eq_true rfl, Nat.le_of_ble_eq_true rfl⟩) ?_
    refine lv_lstore hx hb dX5_frame_50 hl (by decide) rfl (fun ls hl => ?_)
    have hl : lv_has ls 7 [(5, .long (lN (lo + 4294967296 * hg))), (0, .ref (b 0)), (1, .int fid), (2, .int ln), (3, .int (nI lo)), (4, .int (nI hg))] := hl
    refine lv_iload_n hx hb dX5_frame_52 rfl (lv_at hl 2 rfl) ?_
    refine lv_if_ne (tgt := 96) hx hb dX5_frame_53 (by decide) (fun _ => ?_) (fun hno => absurd hno hz)
    refine lv_iload_n hx hb dX5_frame_96 rfl (lv_at hl 2 rfl) ?_
    refine lv_sipush (v := 128) hx hb dX5_frame_97 (by decide) ?_
    refine lv_icmp_ne (tgt := 118) hx hb dX5_frame_100 (by decide) (fun _ => ?_) (fun hno => absurd hno hs)
    refine lv_iload_n hx hb dX5_frame_118 rfl (lv_at hl 2 rfl) ?_
    refine lv_sipush (v := 512) hx hb dX5_frame_119 (by decide) ?_
    refine lv_aload_n hx hb dX5_frame_122 rfl (lv_at hl 1 rfl) ?_
    refine va_get (D := D) (ci := 5) (v := .int N) (fs := [.int 0, .int N, .ref (b 1), .ref (b 2), .ref (b 3), .ref (b 4), .ref (b 5), .ref (b 6), .int 22, .int 95, .int nd.1, .int nd.2.2.1, .int nd.2.1, .long nd.2.2.2, .int t.2.1, .int t.2.2.1, .int t.2.2.2.1, .int t.2.2.2.2.1, .int t.2.2.2.2.2, .ref (b 7), .long q, .int sg, .ref (b 8), .ref (b 9), .ref (b 10), .int ((ro ob.2.2 ob).2.2.2.1), .int ((ro ob.2.2 ob).2.2.2.2)]) (C := RX5) (T := TX5) (N := 27) hx hb htb inX5 hown hK hP 0 rfl rfl 1 (by decide) (htb _ kF_X5_41) (fun _ h9 => h9) rfl dX5_frame_123 ?_
    refine lv_iadd hx hb dX5_frame_126 ?_
    refine lv_icmp_ne (tgt := 156) hx hb dX5_frame_127 (by decide) (fun hno => absurd ht5 hno) (fun _ => ?_)
    refine lv_aload_n hx hb dX5_frame_130 rfl (lv_at hl 1 rfl) ?_
    refine va_get (D := D) (ci := 5) (v := .int nd.1) (fs := [.int 0, .int N, .ref (b 1), .ref (b 2), .ref (b 3), .ref (b 4), .ref (b 5), .ref (b 6), .int 22, .int 95, .int nd.1, .int nd.2.2.1, .int nd.2.1, .long nd.2.2.2, .int t.2.1, .int t.2.2.1, .int t.2.2.2.1, .int t.2.2.2.2.1, .int t.2.2.2.2.2, .ref (b 7), .long q, .int sg, .ref (b 8), .ref (b 9), .ref (b 10), .int ((ro ob.2.2 ob).2.2.2.1), .int ((ro ob.2.2 ob).2.2.2.2)]) (C := RX5) (T := TX5) (N := 27) hx hb htb inX5 hown hK hP 0 rfl rfl 10 (by decide) (htb _ kF_X5_82) (fun _ h9 => h9) rfl dX5_frame_131 ?_
    refine lv_iconst (v := 5) hx hb dX5_frame_134 (by decide) ?_
    refine lv_icmp_ne (tgt := 156) hx hb dX5_frame_135 (by decide) (fun hc9 => ?_) (fun hc9 => ?_)
    · refine lv_iload_n hx hb dX5_frame_156 rfl (lv_at hl 2 rfl) ?_
      refine lv_sipush (v := 1536) hx hb dX5_frame_157 (by decide) ?_
      refine lv_aload_n hx hb dX5_frame_160 rfl (lv_at hl 1 rfl) ?_
      refine va_get (D := D) (ci := 5) (v := .int N) (fs := [.int 0, .int N, .ref (b 1), .ref (b 2), .ref (b 3), .ref (b 4), .ref (b 5), .ref (b 6), .int 22, .int 95, .int nd.1, .int nd.2.2.1, .int nd.2.1, .long nd.2.2.2, .int t.2.1, .int t.2.2.1, .int t.2.2.2.1, .int t.2.2.2.2.1, .int t.2.2.2.2.2, .ref (b 7), .long q, .int sg, .ref (b 8), .ref (b 9), .ref (b 10), .int ((ro ob.2.2 ob).2.2.2.1), .int ((ro ob.2.2 ob).2.2.2.2)]) (C := RX5) (T := TX5) (N := 27) hx hb htb inX5 hown hK hP 0 rfl rfl 1 (by decide) (htb _ kF_X5_41) (fun _ h9 => h9) rfl dX5_frame_161 ?_
      refine lv_iadd hx hb dX5_frame_164 ?_
      refine lv_icmp_ne (tgt := 188) hx hb dX5_frame_165 (by decide) (fun _ => ?_) (fun hno => absurd hno hn15)
      have hM9 : kMid N f ob tr nd fid ln lo hg e d ad = (f, ob, tr, nd) := by unfold kMid; rw [if_neg (fun h => hz h.1), if_neg hs, if_pos ht5]; simp only [fTake, if_neg hc9]
      have hrM : rel2 (kMid N f ob tr nd fid ln lo hg e d ad).2.2.1 t := by rw [hM9]; exact hR
      have hP : va_P D vwCl (rw0 b cA cJ N ((kMid N f ob tr nd fid ln lo hg e d ad).1) (ro ob.2.2 ((kMid N f ob tr nd fid ln lo hg e d ad).2.1)) t ((kMid N f ob tr nd fid ln lo hg e d ad).2.2.2) q sg 0) H := by rw [hM9]; exact hP
      have hD : va_D A (rw0 b cA cJ N ((kMid N f ob tr nd fid ln lo hg e d ad).1) (ro ob.2.2 ((kMid N f ob tr nd fid ln lo hg e d ad).2.1)) t ((kMid N f ob tr nd fid ln lo hg e d ad).2.2.2) q sg 0) := by rw [hM9]; exact hD
      refine lv_aload_n hx hb dX5_frame_188 rfl (lv_at hl 1 rfl) ?_
      refine zb_cv (va_runV (As := []) (rest := []) ⟨hx, hb, hml, hown, htb⟩ (r_end l D b cA cJ N ((kMid N f ob tr nd fid ln lo hg e d ad).1) ob.2.2 ((kMid N f ob tr nd fid ln lo hg e d ad).2.1) t ((kMid N f ob tr nd fid ln lo hg e d ad).2.2.2) q sg 0 _ hB2 hG2 ho2) (cwV 0 htb (wb_V kM_X5_210 kI_X5_end kS_X5_end kN_X5 kD_X5_end) rfl rfl rfl (by decide +kernel) ⟨Nat.le_of_ble_eq_true rfl, Nat.le_of_ble_eq_true rfl⟩) (zp_VW 0 rfl rfl hP hD hK hSt hS hA hnw) rfl rfl hl.1 rfl (lv_room (Nat.le_of_ble_eq_true rfl)) dX5_frame_189 ⟨Nat.le_of_ble_eq_true rfl, Nat.le_of_ble_eq_true rfl⟩) hD hS hA (fun H locs hP hD hS => ?_)
      have hP : va_P D vwCl (rw0 b cA cJ N ((kMid N f ob tr nd fid ln lo hg e d ad).1) (ro ob.2.2 (kEv N ((kMid N f ob tr nd fid ln lo hg e d ad).1) ((kMid N f ob tr nd fid ln lo hg e d ad).2.1) ((kMid N f ob tr nd fid ln lo hg e d ad).2.2.2))) t (nEv ((kMid N f ob tr nd fid ln lo hg e d ad).1) ((kMid N f ob tr nd fid ln lo hg e d ad).2.2.2)) q sg 0) H := hP
      have hD : va_D A (rw0 b cA cJ N ((kMid N f ob tr nd fid ln lo hg e d ad).1) (ro ob.2.2 (kEv N ((kMid N f ob tr nd fid ln lo hg e d ad).1) ((kMid N f ob tr nd fid ln lo hg e d ad).2.1) ((kMid N f ob tr nd fid ln lo hg e d ad).2.2.2))) t (nEv ((kMid N f ob tr nd fid ln lo hg e d ad).1) ((kMid N f ob tr nd fid ln lo hg e d ad).2.2.2)) q sg 0) := hD
      refine lv_aload_n hx hb dX5_frame_192 rfl (lv_at hl 1 rfl) ?_
      refine va_get (D := D) (ci := 5) (v := .int ((ro ob.2.2 (kEv N ((kMid N f ob tr nd fid ln lo hg e d ad).1) ((kMid N f ob tr nd fid ln lo hg e d ad).2.1) ((kMid N f ob tr nd fid ln lo hg e d ad).2.2.2))).2.2.2.2)) (fs := [.int 0, .int N, .ref (b 1), .ref (b 2), .ref (b 3), .ref (b 4), .ref (b 5), .ref (b 6), .int 22, .int 95, .int ((nEv ((kMid N f ob tr nd fid ln lo hg e d ad).1) ((kMid N f ob tr nd fid ln lo hg e d ad).2.2.2)).1), .int ((nEv ((kMid N f ob tr nd fid ln lo hg e d ad).1) ((kMid N f ob tr nd fid ln lo hg e d ad).2.2.2)).2.2.1), .int ((nEv ((kMid N f ob tr nd fid ln lo hg e d ad).1) ((kMid N f ob tr nd fid ln lo hg e d ad).2.2.2)).2.1), .long ((nEv ((kMid N f ob tr nd fid ln lo hg e d ad).1) ((kMid N f ob tr nd fid ln lo hg e d ad).2.2.2)).2.2.2), .int t.2.1, .int t.2.2.1, .int t.2.2.2.1, .int t.2.2.2.2.1, .int t.2.2.2.2.2, .ref (b 7), .long q, .int sg, .ref (b 8), .ref (b 9), .ref (b 10), .int ((ro ob.2.2 (kEv N ((kMid N f ob tr nd fid ln lo hg e d ad).1) ((kMid N f ob tr nd fid ln lo hg e d ad).2.1) ((kMid N f ob tr nd fid ln lo hg e d ad).2.2.2))).2.2.2.1), .int ((ro ob.2.2 (kEv N ((kMid N f ob tr nd fid ln lo hg e d ad).1) ((kMid N f ob tr nd fid ln lo hg e d ad).2.1) ((kMid N f ob tr nd fid ln lo hg e d ad).2.2.2))).2.2.2.2)]) (C := RX5) (T := TX5) (N := 27) hx hb htb inX5 hown hK hP 0 rfl rfl 26 (by decide) (htb _ kF_X5_72) (fun _ h9 => h9) rfl dX5_frame_193 ?_
      rw [hQ]
      have hw9 : (rw0 b cA cJ N ((kMid N f ob tr nd fid ln lo hg e d ad).1) (ro ob.2.2 (kEv N ((kMid N f ob tr nd fid ln lo hg e d ad).1) ((kMid N f ob tr nd fid ln lo hg e d ad).2.1) ((kMid N f ob tr nd fid ln lo hg e d ad).2.2.2))) t (nEv ((kMid N f ob tr nd fid ln lo hg e d ad).1) ((kMid N f ob tr nd fid ln lo hg e d ad).2.2.2)) q sg 0) = r4 b cA cJ N ob.2.2 0 (kEnd N (kMid N f ob tr nd fid ln lo hg e d ad)) (t, q, sg) := rfl
      have hr9 : rel2 (kEnd N (kMid N f ob tr nd fid ln lo hg e d ad)).2.2.1 t := hrM
      exact W.iret (v := (ro ob.2.2 (kEv N ((kMid N f ob tr nd fid ln lo hg e d ad).1) ((kMid N f ob tr nd fid ln lo hg e d ad).2.1) ((kMid N f ob tr nd fid ln lo hg e d ad).2.2.2))).2.2.2.2) hx hb hr (fun t9 ht hW => ⟨congrArg (fun z => Outcome.returned (some (Value.int z))) (rfl), (t, q, sg), hr9, by rw [ht, ← hw9]; exact hP, by rw [← hw9]; exact hD, hS.F ht⟩) hS.2.2 dX5_frame_196
    refine lv_aload_n hx hb dX5_frame_138 rfl (lv_at hl 1 rfl) ?_
    refine lv_iconst (v := 3) hx hb dX5_frame_139 (by decide) ?_
    refine zb_ci (va_runV (As := [.int 3]) (rest := []) ⟨hx, hb, hml, hown, htb⟩ (r_number l D b cA cJ N f (ro ob.2.2 ob) t nd q sg 0 3 hB (by omega)) (cwV 1 htb (wb_V kM_X5_97 kI_X5_number kS_X5_number kN_X5 kD_X5_number) rfl rfl rfl (by decide +kernel) ⟨Nat.le_of_ble_eq_true rfl, Nat.le_of_ble_eq_true rfl⟩) (zp_V 0 rfl rfl hP hK hSt hS hnw) rfl rfl hl.1 rfl (lv_room (Nat.le_of_ble_eq_true rfl)) dX5_frame_140 ⟨Nat.le_of_ble_eq_true rfl, Nat.le_of_ble_eq_true rfl⟩) ?_
    refine zb_ti (y := nI (cT f)) (cnt_r 3 rfl) ?_
    refine lv_if_eq (tgt := 156) hx hb dX5_frame_143 (by decide) (fun hc10 => ?_) (fun hc10 => ?_)
    · refine lv_iload_n hx hb dX5_frame_156 rfl (lv_at hl 2 rfl) ?_
      refine lv_sipush (v := 1536) hx hb dX5_frame_157 (by decide) ?_
      refine lv_aload_n hx hb dX5_frame_160 rfl (lv_at hl 1 rfl) ?_
      refine va_get (D := D) (ci := 5) (v := .int N) (fs := [.int 0, .int N, .ref (b 1), .ref (b 2), .ref (b 3), .ref (b 4), .ref (b 5), .ref (b 6), .int 22, .int 95, .int nd.1, .int nd.2.2.1, .int nd.2.1, .long nd.2.2.2, .int t.2.1, .int t.2.2.1, .int t.2.2.2.1, .int t.2.2.2.2.1, .int t.2.2.2.2.2, .ref (b 7), .long q, .int sg, .ref (b 8), .ref (b 9), .ref (b 10), .int ((ro ob.2.2 ob).2.2.2.1), .int ((ro ob.2.2 ob).2.2.2.2)]) (C := RX5) (T := TX5) (N := 27) hx hb htb inX5 hown hK hP 0 rfl rfl 1 (by decide) (htb _ kF_X5_41) (fun _ h9 => h9) rfl dX5_frame_161 ?_
      refine lv_iadd hx hb dX5_frame_164 ?_
      refine lv_icmp_ne (tgt := 188) hx hb dX5_frame_165 (by decide) (fun _ => ?_) (fun hno => absurd hno hn15)
      have hM9 : kMid N f ob tr nd fid ln lo hg e d ad = (f, ob, tr, nd) := by unfold kMid; rw [if_neg (fun h => hz h.1), if_neg hs, if_pos ht5]; simp only [fTake, if_pos hc9, if_pos hc10]
      have hrM : rel2 (kMid N f ob tr nd fid ln lo hg e d ad).2.2.1 t := by rw [hM9]; exact hR
      have hP : va_P D vwCl (rw0 b cA cJ N ((kMid N f ob tr nd fid ln lo hg e d ad).1) (ro ob.2.2 ((kMid N f ob tr nd fid ln lo hg e d ad).2.1)) t ((kMid N f ob tr nd fid ln lo hg e d ad).2.2.2) q sg 0) H := by rw [hM9]; exact hP
      have hD : va_D A (rw0 b cA cJ N ((kMid N f ob tr nd fid ln lo hg e d ad).1) (ro ob.2.2 ((kMid N f ob tr nd fid ln lo hg e d ad).2.1)) t ((kMid N f ob tr nd fid ln lo hg e d ad).2.2.2) q sg 0) := by rw [hM9]; exact hD
      refine lv_aload_n hx hb dX5_frame_188 rfl (lv_at hl 1 rfl) ?_
      refine zb_cv (va_runV (As := []) (rest := []) ⟨hx, hb, hml, hown, htb⟩ (r_end l D b cA cJ N ((kMid N f ob tr nd fid ln lo hg e d ad).1) ob.2.2 ((kMid N f ob tr nd fid ln lo hg e d ad).2.1) t ((kMid N f ob tr nd fid ln lo hg e d ad).2.2.2) q sg 0 _ hB2 hG2 ho2) (cwV 0 htb (wb_V kM_X5_210 kI_X5_end kS_X5_end kN_X5 kD_X5_end) rfl rfl rfl (by decide +kernel) ⟨Nat.le_of_ble_eq_true rfl, Nat.le_of_ble_eq_true rfl⟩) (zp_VW 0 rfl rfl hP hD hK hSt hS hA hnw) rfl rfl hl.1 rfl (lv_room (Nat.le_of_ble_eq_true rfl)) dX5_frame_189 ⟨Nat.le_of_ble_eq_true rfl, Nat.le_of_ble_eq_true rfl⟩) hD hS hA (fun H locs hP hD hS => ?_)
      have hP : va_P D vwCl (rw0 b cA cJ N ((kMid N f ob tr nd fid ln lo hg e d ad).1) (ro ob.2.2 (kEv N ((kMid N f ob tr nd fid ln lo hg e d ad).1) ((kMid N f ob tr nd fid ln lo hg e d ad).2.1) ((kMid N f ob tr nd fid ln lo hg e d ad).2.2.2))) t (nEv ((kMid N f ob tr nd fid ln lo hg e d ad).1) ((kMid N f ob tr nd fid ln lo hg e d ad).2.2.2)) q sg 0) H := hP
      have hD : va_D A (rw0 b cA cJ N ((kMid N f ob tr nd fid ln lo hg e d ad).1) (ro ob.2.2 (kEv N ((kMid N f ob tr nd fid ln lo hg e d ad).1) ((kMid N f ob tr nd fid ln lo hg e d ad).2.1) ((kMid N f ob tr nd fid ln lo hg e d ad).2.2.2))) t (nEv ((kMid N f ob tr nd fid ln lo hg e d ad).1) ((kMid N f ob tr nd fid ln lo hg e d ad).2.2.2)) q sg 0) := hD
      refine lv_aload_n hx hb dX5_frame_192 rfl (lv_at hl 1 rfl) ?_
      refine va_get (D := D) (ci := 5) (v := .int ((ro ob.2.2 (kEv N ((kMid N f ob tr nd fid ln lo hg e d ad).1) ((kMid N f ob tr nd fid ln lo hg e d ad).2.1) ((kMid N f ob tr nd fid ln lo hg e d ad).2.2.2))).2.2.2.2)) (fs := [.int 0, .int N, .ref (b 1), .ref (b 2), .ref (b 3), .ref (b 4), .ref (b 5), .ref (b 6), .int 22, .int 95, .int ((nEv ((kMid N f ob tr nd fid ln lo hg e d ad).1) ((kMid N f ob tr nd fid ln lo hg e d ad).2.2.2)).1), .int ((nEv ((kMid N f ob tr nd fid ln lo hg e d ad).1) ((kMid N f ob tr nd fid ln lo hg e d ad).2.2.2)).2.2.1), .int ((nEv ((kMid N f ob tr nd fid ln lo hg e d ad).1) ((kMid N f ob tr nd fid ln lo hg e d ad).2.2.2)).2.1), .long ((nEv ((kMid N f ob tr nd fid ln lo hg e d ad).1) ((kMid N f ob tr nd fid ln lo hg e d ad).2.2.2)).2.2.2), .int t.2.1, .int t.2.2.1, .int t.2.2.2.1, .int t.2.2.2.2.1, .int t.2.2.2.2.2, .ref (b 7), .long q, .int sg, .ref (b 8), .ref (b 9), .ref (b 10), .int ((ro ob.2.2 (kEv N ((kMid N f ob tr nd fid ln lo hg e d ad).1) ((kMid N f ob tr nd fid ln lo hg e d ad).2.1) ((kMid N f ob tr nd fid ln lo hg e d ad).2.2.2))).2.2.2.1), .int ((ro ob.2.2 (kEv N ((kMid N f ob tr nd fid ln lo hg e d ad).1) ((kMid N f ob tr nd fid ln lo hg e d ad).2.1) ((kMid N f ob tr nd fid ln lo hg e d ad).2.2.2))).2.2.2.2)]) (C := RX5) (T := TX5) (N := 27) hx hb htb inX5 hown hK hP 0 rfl rfl 26 (by decide) (htb _ kF_X5_72) (fun _ h9 => h9) rfl dX5_frame_193 ?_
      rw [hQ]
      have hw9 : (rw0 b cA cJ N ((kMid N f ob tr nd fid ln lo hg e d ad).1) (ro ob.2.2 (kEv N ((kMid N f ob tr nd fid ln lo hg e d ad).1) ((kMid N f ob tr nd fid ln lo hg e d ad).2.1) ((kMid N f ob tr nd fid ln lo hg e d ad).2.2.2))) t (nEv ((kMid N f ob tr nd fid ln lo hg e d ad).1) ((kMid N f ob tr nd fid ln lo hg e d ad).2.2.2)) q sg 0) = r4 b cA cJ N ob.2.2 0 (kEnd N (kMid N f ob tr nd fid ln lo hg e d ad)) (t, q, sg) := rfl
      have hr9 : rel2 (kEnd N (kMid N f ob tr nd fid ln lo hg e d ad)).2.2.1 t := hrM
      exact W.iret (v := (ro ob.2.2 (kEv N ((kMid N f ob tr nd fid ln lo hg e d ad).1) ((kMid N f ob tr nd fid ln lo hg e d ad).2.1) ((kMid N f ob tr nd fid ln lo hg e d ad).2.2.2))).2.2.2.2) hx hb hr (fun t9 ht hW => ⟨congrArg (fun z => Outcome.returned (some (Value.int z))) (rfl), (t, q, sg), hr9, by rw [ht, ← hw9]; exact hP, by rw [← hw9]; exact hD, hS.F ht⟩) hS.2.2 dX5_frame_196
    refine lv_aload_n hx hb dX5_frame_146 rfl (lv_at hl 1 rfl) ?_
    refine lv_iload_n hx hb dX5_frame_147 rfl (lv_at hl 3 rfl) ?_
    refine lv_lload hx hb dX5_frame_148 (lv_at hl 0 rfl) ?_
    refine zb_cv (va_runV (As := [.int ln, .long (lN (lo + 4294967296 * hg))]) (rest := []) ⟨hx, hb, hml, hown, htb⟩ (r_take l D b cA cJ N f ob.2.2 ob t nd q sg 0 _ ln (lo + 4294967296 * hg) hB hT hc9 hc10) (cwV 2 htb (wb_V kM_X5_202 kI_X5_take kS_X5_take kN_X5 kD_X5_take) rfl rfl rfl (by decide +kernel) ⟨Nat.le_of_ble_eq_true rfl, Nat.le_of_ble_eq_true rfl⟩) (zp_VW 0 rfl rfl hP hD hK hSt hS hA hnw) rfl rfl hl.1 rfl (lv_room (Nat.le_of_ble_eq_true rfl)) dX5_frame_150 ⟨Nat.le_of_ble_eq_true rfl, Nat.le_of_ble_eq_true rfl⟩) hD hS hA (fun H locs hP hD hS => ?_)
    have hP : va_P D vwCl (rw0 b cA cJ N (fTake f nd ln (lo + 4294967296 * hg)) (ro ob.2.2 ob) t nd q sg 0) H := hP
    have hD : va_D A (rw0 b cA cJ N (fTake f nd ln (lo + 4294967296 * hg)) (ro ob.2.2 ob) t nd q sg 0) := hD
    refine lv_goto (tgt := 188) hx hb dX5_frame_153 (by decide) ?_
    have hM9 : kMid N f ob tr nd fid ln lo hg e d ad = ((fTake f nd ln (lo + 4294967296 * hg)), ob, tr, nd) := by unfold kMid; rw [if_neg (fun h => hz h.1), if_neg hs, if_pos ht5]
    have hrM : rel2 (kMid N f ob tr nd fid ln lo hg e d ad).2.2.1 t := by rw [hM9]; exact hR
    have hP : va_P D vwCl (rw0 b cA cJ N ((kMid N f ob tr nd fid ln lo hg e d ad).1) (ro ob.2.2 ((kMid N f ob tr nd fid ln lo hg e d ad).2.1)) t ((kMid N f ob tr nd fid ln lo hg e d ad).2.2.2) q sg 0) H := by rw [hM9]; exact hP
    have hD : va_D A (rw0 b cA cJ N ((kMid N f ob tr nd fid ln lo hg e d ad).1) (ro ob.2.2 ((kMid N f ob tr nd fid ln lo hg e d ad).2.1)) t ((kMid N f ob tr nd fid ln lo hg e d ad).2.2.2) q sg 0) := by rw [hM9]; exact hD
    refine lv_aload_n hx hb dX5_frame_188 rfl (lv_at hl 1 rfl) ?_
    refine zb_cv (va_runV (As := []) (rest := []) ⟨hx, hb, hml, hown, htb⟩ (r_end l D b cA cJ N ((kMid N f ob tr nd fid ln lo hg e d ad).1) ob.2.2 ((kMid N f ob tr nd fid ln lo hg e d ad).2.1) t ((kMid N f ob tr nd fid ln lo hg e d ad).2.2.2) q sg 0 _ hB2 hG2 ho2) (cwV 0 htb (wb_V kM_X5_210 kI_X5_end kS_X5_end kN_X5 kD_X5_end) rfl rfl rfl (by decide +kernel) ⟨Nat.le_of_ble_eq_true rfl, Nat.le_of_ble_eq_true rfl⟩) (zp_VW 0 rfl rfl hP hD hK hSt hS hA hnw) rfl rfl hl.1 rfl (lv_room (Nat.le_of_ble_eq_true rfl)) dX5_frame_189 ⟨Nat.le_of_ble_eq_true rfl, Nat.le_of_ble_eq_true rfl⟩) hD hS hA (fun H locs hP hD hS => ?_)
    have hP : va_P D vwCl (rw0 b cA cJ N ((kMid N f ob tr nd fid ln lo hg e d ad).1) (ro ob.2.2 (kEv N ((kMid N f ob tr nd fid ln lo hg e d ad).1) ((kMid N f ob tr nd fid ln lo hg e d ad).2.1) ((kMid N f ob tr nd fid ln lo hg e d ad).2.2.2))) t (nEv ((kMid N f ob tr nd fid ln lo hg e d ad).1) ((kMid N f ob tr nd fid ln lo hg e d ad).2.2.2)) q sg 0) H := hP
    have hD : va_D A (rw0 b cA cJ N ((kMid N f ob tr nd fid ln lo hg e d ad).1) (ro ob.2.2 (kEv N ((kMid N f ob tr nd fid ln lo hg e d ad).1) ((kMid N f ob tr nd fid ln lo hg e d ad).2.1) ((kMid N f ob tr nd fid ln lo hg e d ad).2.2.2))) t (nEv ((kMid N f ob tr nd fid ln lo hg e d ad).1) ((kMid N f ob tr nd fid ln lo hg e d ad).2.2.2)) q sg 0) := hD
    refine lv_aload_n hx hb dX5_frame_192 rfl (lv_at hl 1 rfl) ?_
    refine va_get (D := D) (ci := 5) (v := .int ((ro ob.2.2 (kEv N ((kMid N f ob tr nd fid ln lo hg e d ad).1) ((kMid N f ob tr nd fid ln lo hg e d ad).2.1) ((kMid N f ob tr nd fid ln lo hg e d ad).2.2.2))).2.2.2.2)) (fs := [.int 0, .int N, .ref (b 1), .ref (b 2), .ref (b 3), .ref (b 4), .ref (b 5), .ref (b 6), .int 22, .int 95, .int ((nEv ((kMid N f ob tr nd fid ln lo hg e d ad).1) ((kMid N f ob tr nd fid ln lo hg e d ad).2.2.2)).1), .int ((nEv ((kMid N f ob tr nd fid ln lo hg e d ad).1) ((kMid N f ob tr nd fid ln lo hg e d ad).2.2.2)).2.2.1), .int ((nEv ((kMid N f ob tr nd fid ln lo hg e d ad).1) ((kMid N f ob tr nd fid ln lo hg e d ad).2.2.2)).2.1), .long ((nEv ((kMid N f ob tr nd fid ln lo hg e d ad).1) ((kMid N f ob tr nd fid ln lo hg e d ad).2.2.2)).2.2.2), .int t.2.1, .int t.2.2.1, .int t.2.2.2.1, .int t.2.2.2.2.1, .int t.2.2.2.2.2, .ref (b 7), .long q, .int sg, .ref (b 8), .ref (b 9), .ref (b 10), .int ((ro ob.2.2 (kEv N ((kMid N f ob tr nd fid ln lo hg e d ad).1) ((kMid N f ob tr nd fid ln lo hg e d ad).2.1) ((kMid N f ob tr nd fid ln lo hg e d ad).2.2.2))).2.2.2.1), .int ((ro ob.2.2 (kEv N ((kMid N f ob tr nd fid ln lo hg e d ad).1) ((kMid N f ob tr nd fid ln lo hg e d ad).2.1) ((kMid N f ob tr nd fid ln lo hg e d ad).2.2.2))).2.2.2.2)]) (C := RX5) (T := TX5) (N := 27) hx hb htb inX5 hown hK hP 0 rfl rfl 26 (by decide) (htb _ kF_X5_72) (fun _ h9 => h9) rfl dX5_frame_193 ?_
    rw [hQ]
    have hw9 : (rw0 b cA cJ N ((kMid N f ob tr nd fid ln lo hg e d ad).1) (ro ob.2.2 (kEv N ((kMid N f ob tr nd fid ln lo hg e d ad).1) ((kMid N f ob tr nd fid ln lo hg e d ad).2.1) ((kMid N f ob tr nd fid ln lo hg e d ad).2.2.2))) t (nEv ((kMid N f ob tr nd fid ln lo hg e d ad).1) ((kMid N f ob tr nd fid ln lo hg e d ad).2.2.2)) q sg 0) = r4 b cA cJ N ob.2.2 0 (kEnd N (kMid N f ob tr nd fid ln lo hg e d ad)) (t, q, sg) := rfl
    have hr9 : rel2 (kEnd N (kMid N f ob tr nd fid ln lo hg e d ad)).2.2.1 t := hrM
    exact W.iret (v := (ro ob.2.2 (kEv N ((kMid N f ob tr nd fid ln lo hg e d ad).1) ((kMid N f ob tr nd fid ln lo hg e d ad).2.1) ((kMid N f ob tr nd fid ln lo hg e d ad).2.2.2))).2.2.2.2) hx hb hr (fun t9 ht hW => ⟨congrArg (fun z => Outcome.returned (some (Value.int z))) (rfl), (t, q, sg), hr9, by rw [ht, ← hw9]; exact hP, by rw [← hw9]; exact hD, hS.F ht⟩) hS.2.2 dX5_frame_196
  by_cases hq15 : fid = 1536 + N
  · refine lv_aload_n hx hb dX5_frame_0 rfl (lv_at hl 0 rfl) ?_
    refine lv_iload_n hx hb dX5_frame_1 rfl (lv_at hl 1 rfl) ?_
    refine lv_if_lt (tgt := 22) hx hb dX5_frame_2 (by decide) (fun hno => absurd hno (hf0)) (fun _ => ?_)
    refine lv_iload_n hx hb dX5_frame_5 rfl (lv_at hl 1 rfl) ?_
    refine lv_sipush (v := 2047) hx hb dX5_frame_6 (by decide) ?_
    refine lv_icmp_gt (tgt := 22) hx hb dX5_frame_9 (by decide) (fun hno => absurd hno (hf1)) (fun _ => ?_)
    refine lv_iload_n hx hb dX5_frame_12 rfl (lv_at hl 2 rfl) ?_
    refine lv_if_lt (tgt := 22) hx hb dX5_frame_13 (by decide) (fun hno => absurd hno (hl0)) (fun _ => ?_)
    refine lv_iload_n hx hb dX5_frame_16 rfl (lv_at hl 2 rfl) ?_
    refine lv_bipush (v := 8) hx hb dX5_frame_17 (by decide) ?_
    refine lv_icmp_le (tgt := 26) hx hb dX5_frame_19 (by decide) (fun _ => ?_) (fun hno => absurd (hl8) hno)
    refine lv_iconst (v := 0) hx hb dX5_frame_26 (by decide) ?_
    refine va_put (D := D) (ci := 5) (v := .int 0) (fs := [.int th, .int N, .ref (b 1), .ref (b 2), .ref (b 3), .ref (b 4), .ref (b 5), .ref (b 6), .int 22, .int 95, .int nd.1, .int nd.2.2.1, .int nd.2.1, .long nd.2.2.2, .int t.2.1, .int t.2.2.1, .int t.2.2.2.1, .int t.2.2.2.2.1, .int t.2.2.2.2.2, .ref (b 7), .long q, .int sg, .ref (b 8), .ref (b 9), .ref (b 10), .int ((ro z ob).2.2.2.1), .int ((ro z ob).2.2.2.2)]) (ty := .int) (C := RX5) (T := TX5) (N := 27) hx hb htb inX5 tyX5 tyX5_ok nmX5 hown hK hP hD hS 0 rfl rfl 0 (by decide) (htb _ kF_X5_67) (fun _ h9 => h9) rfl (by decide +kernel) rfl rfl (Nat.le_of_ble_eq_true rfl) dX5_frame_27 (fun H locs hP hD hS => ?_)
    have hP : va_P D vwCl (rw0 b cA cJ N f (ro z ob) t nd q sg 0) H := hP
    have hD : va_D A (rw0 b cA cJ N f (ro z ob) t nd q sg 0) := hD
    refine lv_aload_n hx hb dX5_frame_30 rfl (lv_at hl 0 rfl) ?_
    refine va_get (D := D) (ci := 5) (v := .int 0) (fs := [.int 0, .int N, .ref (b 1), .ref (b 2), .ref (b 3), .ref (b 4), .ref (b 5), .ref (b 6), .int 22, .int 95, .int nd.1, .int nd.2.2.1, .int nd.2.1, .long nd.2.2.2, .int t.2.1, .int t.2.2.1, .int t.2.2.2.1, .int t.2.2.2.2.1, .int t.2.2.2.2.2, .ref (b 7), .long q, .int sg, .ref (b 8), .ref (b 9), .ref (b 10), .int ((ro z ob).2.2.2.1), .int ((ro z ob).2.2.2.2)]) (C := RX5) (T := TX5) (N := 27) hx hb htb inX5 hown hK hP 0 rfl rfl 0 (by decide) (htb _ kF_X5_67) (fun _ h9 => h9) rfl dX5_frame_31 ?_
    refine lv_if_le (tgt := 39) hx hb dX5_frame_34 (by decide) (fun _ => ?_) (fun hno => absurd (by decide) hno)
    refine lv_aload_n hx hb dX5_frame_39 rfl (lv_at hl 0 rfl) ?_
    refine lv_iconst (v := 0) hx hb dX5_frame_40 (by decide) ?_
    refine va_put (D := D) (ci := 5) (v := .int 0) (fs := [.int 0, .int N, .ref (b 1), .ref (b 2), .ref (b 3), .ref (b 4), .ref (b 5), .ref (b 6), .int 22, .int 95, .int nd.1, .int nd.2.2.1, .int nd.2.1, .long nd.2.2.2, .int t.2.1, .int t.2.2.1, .int t.2.2.2.1, .int t.2.2.2.2.1, .int t.2.2.2.2.2, .ref (b 7), .long q, .int sg, .ref (b 8), .ref (b 9), .ref (b 10), .int ((ro z ob).2.2.2.1), .int ((ro z ob).2.2.2.2)]) (ty := .int) (C := RX5) (T := TX5) (N := 27) hx hb htb inX5 tyX5 tyX5_ok nmX5 hown hK hP hD hS 0 rfl rfl 26 (by decide) (htb _ kF_X5_72) (fun _ h9 => h9) rfl (by decide +kernel) rfl rfl (Nat.le_of_ble_eq_true rfl) dX5_frame_41 (fun H locs hP hD hS => ?_)
    have hP : va_P D vwCl (rw0 b cA cJ N f ((ro z ob).1, (ro z ob).2.1, (ro z ob).2.2.1, (ro z ob).2.2.2.1, 0) t nd q sg 0) H := hP
    have hD : va_D A (rw0 b cA cJ N f ((ro z ob).1, (ro z ob).2.1, (ro z ob).2.2.1, (ro z ob).2.2.2.1, 0) t nd q sg 0) := hD
    rw [ro_0] at hP hD
    have hP : va_P D vwCl (rw0 b cA cJ N f (ro ob.2.2 ob) t nd q sg 0) H := hP
    have hD : va_D A (rw0 b cA cJ N f (ro ob.2.2 ob) t nd q sg 0) := hD
    refine lv_iload_n hx hb dX5_frame_44 rfl (lv_at hl 3 rfl) ?_
    refine lv_iload hx hb dX5_frame_45 (lv_at hl 4 rfl) ?_
    refine zb_cl (va_runS (As := [.int (nI lo), .int (nI hg)]) (rest := []) ⟨hx, hb, hml, hown, htb⟩ (r_both l D b cA cJ N f (ro ob.2.2 ob) t nd q sg 0 lo hg hlo hhg) (va_cwS 2 htb (wb_S kM_X5_192 kZ_X5_both kN_X5 kD_X5_both) rfl rfl rfl (by decide +kernel) ⟨Nat.le_of_ble_eq_true rfl, Nat.le_of_ble_eq_true rfl⟩) (zp_S hP hK hSt hS hnw) rfl rfl hl.1 rfl (lv_room (Nat.le_of_ble_eq_true rfl)) dX5_frame_47 ⟨Nat.le_of_ble_eq_true rfl, Nat.le_of_ble_eq_true rfl⟩) ?_
    refine lv_lstore hx hb dX5_frame_50 hl (by decide) rfl (fun ls hl => ?_)
    have hl : lv_has ls 7 [(5, .long (lN (lo + 4294967296 * hg))), (0, .ref (b 0)), (1, .int fid), (2, .int ln), (3, .int (nI lo)), (4, .int (nI hg))] := hl
    refine lv_iload_n hx hb dX5_frame_52 rfl (lv_at hl 2 rfl) ?_
    refine lv_if_ne (tgt := 96) hx hb dX5_frame_53 (by decide) (fun _ => ?_) (fun hno => absurd hno hz)
    refine lv_iload_n hx hb dX5_frame_96 rfl (lv_at hl 2 rfl) ?_
    refine lv_sipush (v := 128) hx hb dX5_frame_97 (by decide) ?_
    refine lv_icmp_ne (tgt := 118) hx hb dX5_frame_100 (by decide) (fun _ => ?_) (fun hno => absurd hno hs)
    refine lv_iload_n hx hb dX5_frame_118 rfl (lv_at hl 2 rfl) ?_
    refine lv_sipush (v := 512) hx hb dX5_frame_119 (by decide) ?_
    refine lv_aload_n hx hb dX5_frame_122 rfl (lv_at hl 1 rfl) ?_
    refine va_get (D := D) (ci := 5) (v := .int N) (fs := [.int 0, .int N, .ref (b 1), .ref (b 2), .ref (b 3), .ref (b 4), .ref (b 5), .ref (b 6), .int 22, .int 95, .int nd.1, .int nd.2.2.1, .int nd.2.1, .long nd.2.2.2, .int t.2.1, .int t.2.2.1, .int t.2.2.2.1, .int t.2.2.2.2.1, .int t.2.2.2.2.2, .ref (b 7), .long q, .int sg, .ref (b 8), .ref (b 9), .ref (b 10), .int ((ro ob.2.2 ob).2.2.2.1), .int ((ro ob.2.2 ob).2.2.2.2)]) (C := RX5) (T := TX5) (N := 27) hx hb htb inX5 hown hK hP 0 rfl rfl 1 (by decide) (htb _ kF_X5_41) (fun _ h9 => h9) rfl dX5_frame_123 ?_
    refine lv_iadd hx hb dX5_frame_126 ?_
    refine lv_icmp_ne (tgt := 156) hx hb dX5_frame_127 (by decide) (fun _ => ?_) (fun hno => absurd hno ht5)
    refine lv_iload_n hx hb dX5_frame_156 rfl (lv_at hl 2 rfl) ?_
    refine lv_sipush (v := 1536) hx hb dX5_frame_157 (by decide) ?_
    refine lv_aload_n hx hb dX5_frame_160 rfl (lv_at hl 1 rfl) ?_
    refine va_get (D := D) (ci := 5) (v := .int N) (fs := [.int 0, .int N, .ref (b 1), .ref (b 2), .ref (b 3), .ref (b 4), .ref (b 5), .ref (b 6), .int 22, .int 95, .int nd.1, .int nd.2.2.1, .int nd.2.1, .long nd.2.2.2, .int t.2.1, .int t.2.2.1, .int t.2.2.2.1, .int t.2.2.2.2.1, .int t.2.2.2.2.2, .ref (b 7), .long q, .int sg, .ref (b 8), .ref (b 9), .ref (b 10), .int ((ro ob.2.2 ob).2.2.2.1), .int ((ro ob.2.2 ob).2.2.2.2)]) (C := RX5) (T := TX5) (N := 27) hx hb htb inX5 hown hK hP 0 rfl rfl 1 (by decide) (htb _ kF_X5_41) (fun _ h9 => h9) rfl dX5_frame_161 ?_
    refine lv_iadd hx hb dX5_frame_164 ?_
    refine lv_icmp_ne (tgt := 188) hx hb dX5_frame_165 (by decide) (fun hno => absurd hq15 hno) (fun _ => ?_)
    refine lv_iload_n hx hb dX5_frame_168 rfl (lv_at hl 3 rfl) ?_
    refine lv_bipush (v := 8) hx hb dX5_frame_169 (by decide) ?_
    refine lv_icmp_ne (tgt := 188) hx hb dX5_frame_171 (by decide) (fun hc11 => ?_) (fun hc11 => ?_)
    · have hM9 : kMid N f ob tr nd fid ln lo hg e d ad = (f, ob, tr, nd) := by unfold kMid; rw [if_neg (fun h => hz h.1), if_neg hs, if_neg ht5, if_neg (fun h => hc11 h.2.1)]
      have hrM : rel2 (kMid N f ob tr nd fid ln lo hg e d ad).2.2.1 t := by rw [hM9]; exact hR
      have hP : va_P D vwCl (rw0 b cA cJ N ((kMid N f ob tr nd fid ln lo hg e d ad).1) (ro ob.2.2 ((kMid N f ob tr nd fid ln lo hg e d ad).2.1)) t ((kMid N f ob tr nd fid ln lo hg e d ad).2.2.2) q sg 0) H := by rw [hM9]; exact hP
      have hD : va_D A (rw0 b cA cJ N ((kMid N f ob tr nd fid ln lo hg e d ad).1) (ro ob.2.2 ((kMid N f ob tr nd fid ln lo hg e d ad).2.1)) t ((kMid N f ob tr nd fid ln lo hg e d ad).2.2.2) q sg 0) := by rw [hM9]; exact hD
      refine lv_aload_n hx hb dX5_frame_188 rfl (lv_at hl 1 rfl) ?_
      refine zb_cv (va_runV (As := []) (rest := []) ⟨hx, hb, hml, hown, htb⟩ (r_end l D b cA cJ N ((kMid N f ob tr nd fid ln lo hg e d ad).1) ob.2.2 ((kMid N f ob tr nd fid ln lo hg e d ad).2.1) t ((kMid N f ob tr nd fid ln lo hg e d ad).2.2.2) q sg 0 _ hB2 hG2 ho2) (cwV 0 htb (wb_V kM_X5_210 kI_X5_end kS_X5_end kN_X5 kD_X5_end) rfl rfl rfl (by decide +kernel) ⟨Nat.le_of_ble_eq_true rfl, Nat.le_of_ble_eq_true rfl⟩) (zp_VW 0 rfl rfl hP hD hK hSt hS hA hnw) rfl rfl hl.1 rfl (lv_room (Nat.le_of_ble_eq_true rfl)) dX5_frame_189 ⟨Nat.le_of_ble_eq_true rfl, Nat.le_of_ble_eq_true rfl⟩) hD hS hA (fun H locs hP hD hS => ?_)
      have hP : va_P D vwCl (rw0 b cA cJ N ((kMid N f ob tr nd fid ln lo hg e d ad).1) (ro ob.2.2 (kEv N ((kMid N f ob tr nd fid ln lo hg e d ad).1) ((kMid N f ob tr nd fid ln lo hg e d ad).2.1) ((kMid N f ob tr nd fid ln lo hg e d ad).2.2.2))) t (nEv ((kMid N f ob tr nd fid ln lo hg e d ad).1) ((kMid N f ob tr nd fid ln lo hg e d ad).2.2.2)) q sg 0) H := hP
      have hD : va_D A (rw0 b cA cJ N ((kMid N f ob tr nd fid ln lo hg e d ad).1) (ro ob.2.2 (kEv N ((kMid N f ob tr nd fid ln lo hg e d ad).1) ((kMid N f ob tr nd fid ln lo hg e d ad).2.1) ((kMid N f ob tr nd fid ln lo hg e d ad).2.2.2))) t (nEv ((kMid N f ob tr nd fid ln lo hg e d ad).1) ((kMid N f ob tr nd fid ln lo hg e d ad).2.2.2)) q sg 0) := hD
      refine lv_aload_n hx hb dX5_frame_192 rfl (lv_at hl 1 rfl) ?_
      refine va_get (D := D) (ci := 5) (v := .int ((ro ob.2.2 (kEv N ((kMid N f ob tr nd fid ln lo hg e d ad).1) ((kMid N f ob tr nd fid ln lo hg e d ad).2.1) ((kMid N f ob tr nd fid ln lo hg e d ad).2.2.2))).2.2.2.2)) (fs := [.int 0, .int N, .ref (b 1), .ref (b 2), .ref (b 3), .ref (b 4), .ref (b 5), .ref (b 6), .int 22, .int 95, .int ((nEv ((kMid N f ob tr nd fid ln lo hg e d ad).1) ((kMid N f ob tr nd fid ln lo hg e d ad).2.2.2)).1), .int ((nEv ((kMid N f ob tr nd fid ln lo hg e d ad).1) ((kMid N f ob tr nd fid ln lo hg e d ad).2.2.2)).2.2.1), .int ((nEv ((kMid N f ob tr nd fid ln lo hg e d ad).1) ((kMid N f ob tr nd fid ln lo hg e d ad).2.2.2)).2.1), .long ((nEv ((kMid N f ob tr nd fid ln lo hg e d ad).1) ((kMid N f ob tr nd fid ln lo hg e d ad).2.2.2)).2.2.2), .int t.2.1, .int t.2.2.1, .int t.2.2.2.1, .int t.2.2.2.2.1, .int t.2.2.2.2.2, .ref (b 7), .long q, .int sg, .ref (b 8), .ref (b 9), .ref (b 10), .int ((ro ob.2.2 (kEv N ((kMid N f ob tr nd fid ln lo hg e d ad).1) ((kMid N f ob tr nd fid ln lo hg e d ad).2.1) ((kMid N f ob tr nd fid ln lo hg e d ad).2.2.2))).2.2.2.1), .int ((ro ob.2.2 (kEv N ((kMid N f ob tr nd fid ln lo hg e d ad).1) ((kMid N f ob tr nd fid ln lo hg e d ad).2.1) ((kMid N f ob tr nd fid ln lo hg e d ad).2.2.2))).2.2.2.2)]) (C := RX5) (T := TX5) (N := 27) hx hb htb inX5 hown hK hP 0 rfl rfl 26 (by decide) (htb _ kF_X5_72) (fun _ h9 => h9) rfl dX5_frame_193 ?_
      rw [hQ]
      have hw9 : (rw0 b cA cJ N ((kMid N f ob tr nd fid ln lo hg e d ad).1) (ro ob.2.2 (kEv N ((kMid N f ob tr nd fid ln lo hg e d ad).1) ((kMid N f ob tr nd fid ln lo hg e d ad).2.1) ((kMid N f ob tr nd fid ln lo hg e d ad).2.2.2))) t (nEv ((kMid N f ob tr nd fid ln lo hg e d ad).1) ((kMid N f ob tr nd fid ln lo hg e d ad).2.2.2)) q sg 0) = r4 b cA cJ N ob.2.2 0 (kEnd N (kMid N f ob tr nd fid ln lo hg e d ad)) (t, q, sg) := rfl
      have hr9 : rel2 (kEnd N (kMid N f ob tr nd fid ln lo hg e d ad)).2.2.1 t := hrM
      exact W.iret (v := (ro ob.2.2 (kEv N ((kMid N f ob tr nd fid ln lo hg e d ad).1) ((kMid N f ob tr nd fid ln lo hg e d ad).2.1) ((kMid N f ob tr nd fid ln lo hg e d ad).2.2.2))).2.2.2.2) hx hb hr (fun t9 ht hW => ⟨congrArg (fun z => Outcome.returned (some (Value.int z))) (rfl), (t, q, sg), hr9, by rw [ht, ← hw9]; exact hP, by rw [← hw9]; exact hD, hS.F ht⟩) hS.2.2 dX5_frame_196
    refine lv_aload_n hx hb dX5_frame_174 rfl (lv_at hl 1 rfl) ?_
    refine va_get (D := D) (ci := 5) (v := .int nd.1) (fs := [.int 0, .int N, .ref (b 1), .ref (b 2), .ref (b 3), .ref (b 4), .ref (b 5), .ref (b 6), .int 22, .int 95, .int nd.1, .int nd.2.2.1, .int nd.2.1, .long nd.2.2.2, .int t.2.1, .int t.2.2.1, .int t.2.2.2.1, .int t.2.2.2.2.1, .int t.2.2.2.2.2, .ref (b 7), .long q, .int sg, .ref (b 8), .ref (b 9), .ref (b 10), .int ((ro ob.2.2 ob).2.2.2.1), .int ((ro ob.2.2 ob).2.2.2.2)]) (C := RX5) (T := TX5) (N := 27) hx hb htb inX5 hown hK hP 0 rfl rfl 10 (by decide) (htb _ kF_X5_82) (fun _ h9 => h9) rfl dX5_frame_175 ?_
    refine lv_iconst (v := 4) hx hb dX5_frame_178 (by decide) ?_
    refine lv_icmp_eq (tgt := 188) hx hb dX5_frame_179 (by decide) (fun hc12 => ?_) (fun hc12 => ?_)
    · have hM9 : kMid N f ob tr nd fid ln lo hg e d ad = (f, ob, tr, nd) := by unfold kMid; rw [if_neg (fun h => hz h.1), if_neg hs, if_neg ht5, if_neg (fun h => h.2.2 hc12)]
      have hrM : rel2 (kMid N f ob tr nd fid ln lo hg e d ad).2.2.1 t := by rw [hM9]; exact hR
      have hP : va_P D vwCl (rw0 b cA cJ N ((kMid N f ob tr nd fid ln lo hg e d ad).1) (ro ob.2.2 ((kMid N f ob tr nd fid ln lo hg e d ad).2.1)) t ((kMid N f ob tr nd fid ln lo hg e d ad).2.2.2) q sg 0) H := by rw [hM9]; exact hP
      have hD : va_D A (rw0 b cA cJ N ((kMid N f ob tr nd fid ln lo hg e d ad).1) (ro ob.2.2 ((kMid N f ob tr nd fid ln lo hg e d ad).2.1)) t ((kMid N f ob tr nd fid ln lo hg e d ad).2.2.2) q sg 0) := by rw [hM9]; exact hD
      refine lv_aload_n hx hb dX5_frame_188 rfl (lv_at hl 1 rfl) ?_
      refine zb_cv (va_runV (As := []) (rest := []) ⟨hx, hb, hml, hown, htb⟩ (r_end l D b cA cJ N ((kMid N f ob tr nd fid ln lo hg e d ad).1) ob.2.2 ((kMid N f ob tr nd fid ln lo hg e d ad).2.1) t ((kMid N f ob tr nd fid ln lo hg e d ad).2.2.2) q sg 0 _ hB2 hG2 ho2) (cwV 0 htb (wb_V kM_X5_210 kI_X5_end kS_X5_end kN_X5 kD_X5_end) rfl rfl rfl (by decide +kernel) ⟨Nat.le_of_ble_eq_true rfl, Nat.le_of_ble_eq_true rfl⟩) (zp_VW 0 rfl rfl hP hD hK hSt hS hA hnw) rfl rfl hl.1 rfl (lv_room (Nat.le_of_ble_eq_true rfl)) dX5_frame_189 ⟨Nat.le_of_ble_eq_true rfl, Nat.le_of_ble_eq_true rfl⟩) hD hS hA (fun H locs hP hD hS => ?_)
      have hP : va_P D vwCl (rw0 b cA cJ N ((kMid N f ob tr nd fid ln lo hg e d ad).1) (ro ob.2.2 (kEv N ((kMid N f ob tr nd fid ln lo hg e d ad).1) ((kMid N f ob tr nd fid ln lo hg e d ad).2.1) ((kMid N f ob tr nd fid ln lo hg e d ad).2.2.2))) t (nEv ((kMid N f ob tr nd fid ln lo hg e d ad).1) ((kMid N f ob tr nd fid ln lo hg e d ad).2.2.2)) q sg 0) H := hP
      have hD : va_D A (rw0 b cA cJ N ((kMid N f ob tr nd fid ln lo hg e d ad).1) (ro ob.2.2 (kEv N ((kMid N f ob tr nd fid ln lo hg e d ad).1) ((kMid N f ob tr nd fid ln lo hg e d ad).2.1) ((kMid N f ob tr nd fid ln lo hg e d ad).2.2.2))) t (nEv ((kMid N f ob tr nd fid ln lo hg e d ad).1) ((kMid N f ob tr nd fid ln lo hg e d ad).2.2.2)) q sg 0) := hD
      refine lv_aload_n hx hb dX5_frame_192 rfl (lv_at hl 1 rfl) ?_
      refine va_get (D := D) (ci := 5) (v := .int ((ro ob.2.2 (kEv N ((kMid N f ob tr nd fid ln lo hg e d ad).1) ((kMid N f ob tr nd fid ln lo hg e d ad).2.1) ((kMid N f ob tr nd fid ln lo hg e d ad).2.2.2))).2.2.2.2)) (fs := [.int 0, .int N, .ref (b 1), .ref (b 2), .ref (b 3), .ref (b 4), .ref (b 5), .ref (b 6), .int 22, .int 95, .int ((nEv ((kMid N f ob tr nd fid ln lo hg e d ad).1) ((kMid N f ob tr nd fid ln lo hg e d ad).2.2.2)).1), .int ((nEv ((kMid N f ob tr nd fid ln lo hg e d ad).1) ((kMid N f ob tr nd fid ln lo hg e d ad).2.2.2)).2.2.1), .int ((nEv ((kMid N f ob tr nd fid ln lo hg e d ad).1) ((kMid N f ob tr nd fid ln lo hg e d ad).2.2.2)).2.1), .long ((nEv ((kMid N f ob tr nd fid ln lo hg e d ad).1) ((kMid N f ob tr nd fid ln lo hg e d ad).2.2.2)).2.2.2), .int t.2.1, .int t.2.2.1, .int t.2.2.2.1, .int t.2.2.2.2.1, .int t.2.2.2.2.2, .ref (b 7), .long q, .int sg, .ref (b 8), .ref (b 9), .ref (b 10), .int ((ro ob.2.2 (kEv N ((kMid N f ob tr nd fid ln lo hg e d ad).1) ((kMid N f ob tr nd fid ln lo hg e d ad).2.1) ((kMid N f ob tr nd fid ln lo hg e d ad).2.2.2))).2.2.2.1), .int ((ro ob.2.2 (kEv N ((kMid N f ob tr nd fid ln lo hg e d ad).1) ((kMid N f ob tr nd fid ln lo hg e d ad).2.1) ((kMid N f ob tr nd fid ln lo hg e d ad).2.2.2))).2.2.2.2)]) (C := RX5) (T := TX5) (N := 27) hx hb htb inX5 hown hK hP 0 rfl rfl 26 (by decide) (htb _ kF_X5_72) (fun _ h9 => h9) rfl dX5_frame_193 ?_
      rw [hQ]
      have hw9 : (rw0 b cA cJ N ((kMid N f ob tr nd fid ln lo hg e d ad).1) (ro ob.2.2 (kEv N ((kMid N f ob tr nd fid ln lo hg e d ad).1) ((kMid N f ob tr nd fid ln lo hg e d ad).2.1) ((kMid N f ob tr nd fid ln lo hg e d ad).2.2.2))) t (nEv ((kMid N f ob tr nd fid ln lo hg e d ad).1) ((kMid N f ob tr nd fid ln lo hg e d ad).2.2.2)) q sg 0) = r4 b cA cJ N ob.2.2 0 (kEnd N (kMid N f ob tr nd fid ln lo hg e d ad)) (t, q, sg) := rfl
      have hr9 : rel2 (kEnd N (kMid N f ob tr nd fid ln lo hg e d ad)).2.2.1 t := hrM
      exact W.iret (v := (ro ob.2.2 (kEv N ((kMid N f ob tr nd fid ln lo hg e d ad).1) ((kMid N f ob tr nd fid ln lo hg e d ad).2.1) ((kMid N f ob tr nd fid ln lo hg e d ad).2.2.2))).2.2.2.2) hx hb hr (fun t9 ht hW => ⟨congrArg (fun z => Outcome.returned (some (Value.int z))) (rfl), (t, q, sg), hr9, by rw [ht, ← hw9]; exact hP, by rw [← hw9]; exact hD, hS.F ht⟩) hS.2.2 dX5_frame_196
    refine lv_aload_n hx hb dX5_frame_182 rfl (lv_at hl 1 rfl) ?_
    refine lv_lload hx hb dX5_frame_183 (lv_at hl 0 rfl) ?_
    refine zb_ce (va_runV (As := [.long (lN (lo + 4294967296 * hg))]) (rest := []) ⟨hx, hb, hml, hown, htb⟩ (r_ask l D b cA cJ N f ob.2.2 ob t nd q sg 0 lo hg _ tr e d ad hB hBh ho hlo hhg hN hrel) (cwV 1 htb (wb_V kM_X5_206 kI_X5_ask kS_X5_ask kN_X5 kD_X5_ask) rfl rfl rfl (by decide +kernel) ⟨Nat.le_of_ble_eq_true rfl, Nat.le_of_ble_eq_true rfl⟩) (zp_VW 0 rfl rfl hP hD hK hSt hS hA hnw) rfl rfl hl.1 rfl (lv_room (Nat.le_of_ble_eq_true rfl)) dX5_frame_185 ⟨Nat.le_of_ble_eq_true rfl, Nat.le_of_ble_eq_true rfl⟩) hD hS hA (fun y13 hy14 H locs hP hD hS => ?_)
    have hP : va_P D vwCl (rw0 b cA cJ N ((kReq N f ob tr nd lo hg e d ad).1) (ro ob.2.2 ((kReq N f ob tr nd lo hg e d ad).2.1)) y13.1 ((kReq N f ob tr nd lo hg e d ad).2.2.2) y13.2.1 y13.2.2 0) H := hP
    have hD : va_D A (rw0 b cA cJ N ((kReq N f ob tr nd lo hg e d ad).1) (ro ob.2.2 ((kReq N f ob tr nd lo hg e d ad).2.1)) y13.1 ((kReq N f ob tr nd lo hg e d ad).2.2.2) y13.2.1 y13.2.2 0) := hD
    have hM9 : kMid N f ob tr nd fid ln lo hg e d ad = kReq N f ob tr nd lo hg e d ad := by unfold kMid; rw [if_neg (fun h => hz h.1), if_neg hs, if_neg ht5, if_pos ⟨hq15, hc11, hc12⟩]
    have hrM : rel2 (kMid N f ob tr nd fid ln lo hg e d ad).2.2.1 y13.1 := by rw [hM9]; exact hy14
    have hP : va_P D vwCl (rw0 b cA cJ N ((kMid N f ob tr nd fid ln lo hg e d ad).1) (ro ob.2.2 ((kMid N f ob tr nd fid ln lo hg e d ad).2.1)) y13.1 ((kMid N f ob tr nd fid ln lo hg e d ad).2.2.2) y13.2.1 y13.2.2 0) H := by rw [hM9]; exact hP
    have hD : va_D A (rw0 b cA cJ N ((kMid N f ob tr nd fid ln lo hg e d ad).1) (ro ob.2.2 ((kMid N f ob tr nd fid ln lo hg e d ad).2.1)) y13.1 ((kMid N f ob tr nd fid ln lo hg e d ad).2.2.2) y13.2.1 y13.2.2 0) := by rw [hM9]; exact hD
    refine lv_aload_n hx hb dX5_frame_188 rfl (lv_at hl 1 rfl) ?_
    refine zb_cv (va_runV (As := []) (rest := []) ⟨hx, hb, hml, hown, htb⟩ (r_end l D b cA cJ N ((kMid N f ob tr nd fid ln lo hg e d ad).1) ob.2.2 ((kMid N f ob tr nd fid ln lo hg e d ad).2.1) y13.1 ((kMid N f ob tr nd fid ln lo hg e d ad).2.2.2) y13.2.1 y13.2.2 0 _ hB2 hG2 ho2) (cwV 0 htb (wb_V kM_X5_210 kI_X5_end kS_X5_end kN_X5 kD_X5_end) rfl rfl rfl (by decide +kernel) ⟨Nat.le_of_ble_eq_true rfl, Nat.le_of_ble_eq_true rfl⟩) (zp_VW 0 rfl rfl hP hD hK hSt hS hA hnw) rfl rfl hl.1 rfl (lv_room (Nat.le_of_ble_eq_true rfl)) dX5_frame_189 ⟨Nat.le_of_ble_eq_true rfl, Nat.le_of_ble_eq_true rfl⟩) hD hS hA (fun H locs hP hD hS => ?_)
    have hP : va_P D vwCl (rw0 b cA cJ N ((kMid N f ob tr nd fid ln lo hg e d ad).1) (ro ob.2.2 (kEv N ((kMid N f ob tr nd fid ln lo hg e d ad).1) ((kMid N f ob tr nd fid ln lo hg e d ad).2.1) ((kMid N f ob tr nd fid ln lo hg e d ad).2.2.2))) y13.1 (nEv ((kMid N f ob tr nd fid ln lo hg e d ad).1) ((kMid N f ob tr nd fid ln lo hg e d ad).2.2.2)) y13.2.1 y13.2.2 0) H := hP
    have hD : va_D A (rw0 b cA cJ N ((kMid N f ob tr nd fid ln lo hg e d ad).1) (ro ob.2.2 (kEv N ((kMid N f ob tr nd fid ln lo hg e d ad).1) ((kMid N f ob tr nd fid ln lo hg e d ad).2.1) ((kMid N f ob tr nd fid ln lo hg e d ad).2.2.2))) y13.1 (nEv ((kMid N f ob tr nd fid ln lo hg e d ad).1) ((kMid N f ob tr nd fid ln lo hg e d ad).2.2.2)) y13.2.1 y13.2.2 0) := hD
    refine lv_aload_n hx hb dX5_frame_192 rfl (lv_at hl 1 rfl) ?_
    refine va_get (D := D) (ci := 5) (v := .int ((ro ob.2.2 (kEv N ((kMid N f ob tr nd fid ln lo hg e d ad).1) ((kMid N f ob tr nd fid ln lo hg e d ad).2.1) ((kMid N f ob tr nd fid ln lo hg e d ad).2.2.2))).2.2.2.2)) (fs := [.int 0, .int N, .ref (b 1), .ref (b 2), .ref (b 3), .ref (b 4), .ref (b 5), .ref (b 6), .int 22, .int 95, .int ((nEv ((kMid N f ob tr nd fid ln lo hg e d ad).1) ((kMid N f ob tr nd fid ln lo hg e d ad).2.2.2)).1), .int ((nEv ((kMid N f ob tr nd fid ln lo hg e d ad).1) ((kMid N f ob tr nd fid ln lo hg e d ad).2.2.2)).2.2.1), .int ((nEv ((kMid N f ob tr nd fid ln lo hg e d ad).1) ((kMid N f ob tr nd fid ln lo hg e d ad).2.2.2)).2.1), .long ((nEv ((kMid N f ob tr nd fid ln lo hg e d ad).1) ((kMid N f ob tr nd fid ln lo hg e d ad).2.2.2)).2.2.2), .int y13.1.2.1, .int y13.1.2.2.1, .int y13.1.2.2.2.1, .int y13.1.2.2.2.2.1, .int y13.1.2.2.2.2.2, .ref (b 7), .long y13.2.1, .int y13.2.2, .ref (b 8), .ref (b 9), .ref (b 10), .int ((ro ob.2.2 (kEv N ((kMid N f ob tr nd fid ln lo hg e d ad).1) ((kMid N f ob tr nd fid ln lo hg e d ad).2.1) ((kMid N f ob tr nd fid ln lo hg e d ad).2.2.2))).2.2.2.1), .int ((ro ob.2.2 (kEv N ((kMid N f ob tr nd fid ln lo hg e d ad).1) ((kMid N f ob tr nd fid ln lo hg e d ad).2.1) ((kMid N f ob tr nd fid ln lo hg e d ad).2.2.2))).2.2.2.2)]) (C := RX5) (T := TX5) (N := 27) hx hb htb inX5 hown hK hP 0 rfl rfl 26 (by decide) (htb _ kF_X5_72) (fun _ h9 => h9) rfl dX5_frame_193 ?_
    rw [hQ]
    have hw9 : (rw0 b cA cJ N ((kMid N f ob tr nd fid ln lo hg e d ad).1) (ro ob.2.2 (kEv N ((kMid N f ob tr nd fid ln lo hg e d ad).1) ((kMid N f ob tr nd fid ln lo hg e d ad).2.1) ((kMid N f ob tr nd fid ln lo hg e d ad).2.2.2))) y13.1 (nEv ((kMid N f ob tr nd fid ln lo hg e d ad).1) ((kMid N f ob tr nd fid ln lo hg e d ad).2.2.2)) y13.2.1 y13.2.2 0) = r4 b cA cJ N ob.2.2 0 (kEnd N (kMid N f ob tr nd fid ln lo hg e d ad)) (y13.1, y13.2.1, y13.2.2) := rfl
    have hr9 : rel2 (kEnd N (kMid N f ob tr nd fid ln lo hg e d ad)).2.2.1 y13.1 := hrM
    exact W.iret (v := (ro ob.2.2 (kEv N ((kMid N f ob tr nd fid ln lo hg e d ad).1) ((kMid N f ob tr nd fid ln lo hg e d ad).2.1) ((kMid N f ob tr nd fid ln lo hg e d ad).2.2.2))).2.2.2.2) hx hb hr (fun t9 ht hW => ⟨congrArg (fun z => Outcome.returned (some (Value.int z))) (rfl), (y13.1, y13.2.1, y13.2.2), hr9, by rw [ht, ← hw9]; exact hP, by rw [← hw9]; exact hD, hS.F ht⟩) hS.2.2 dX5_frame_196
  refine lv_aload_n hx hb dX5_frame_0 rfl (lv_at hl 0 rfl) ?_
  refine lv_iload_n hx hb dX5_frame_1 rfl (lv_at hl 1 rfl) ?_
  refine lv_if_lt (tgt := 22) hx hb dX5_frame_2 (by decide) (fun hno => absurd hno (hf0)) (fun _ => ?_)
  refine lv_iload_n hx hb dX5_frame_5 rfl (lv_at hl 1 rfl) ?_
  refine lv_sipush (v := 2047) hx hb dX5_frame_6 (by decide) ?_
  refine lv_icmp_gt (tgt := 22) hx hb dX5_frame_9 (by decide) (fun hno => absurd hno (hf1)) (fun _ => ?_)
  refine lv_iload_n hx hb dX5_frame_12 rfl (lv_at hl 2 rfl) ?_
  refine lv_if_lt (tgt := 22) hx hb dX5_frame_13 (by decide) (fun hno => absurd hno (hl0)) (fun _ => ?_)
  refine lv_iload_n hx hb dX5_frame_16 rfl (lv_at hl 2 rfl) ?_
  refine lv_bipush (v := 8) hx hb dX5_frame_17 (by decide) ?_
  refine lv_icmp_le (tgt := 26) hx hb dX5_frame_19 (by decide) (fun _ => ?_) (fun hno => absurd (hl8) hno)
  refine lv_iconst (v := 0) hx hb dX5_frame_26 (by decide) ?_
  refine va_put (D := D) (ci := 5) (v := .int 0) (fs := [.int th, .int N, .ref (b 1), .ref (b 2), .ref (b 3), .ref (b 4), .ref (b 5), .ref (b 6), .int 22, .int 95, .int nd.1, .int nd.2.2.1, .int nd.2.1, .long nd.2.2.2, .int t.2.1, .int t.2.2.1, .int t.2.2.2.1, .int t.2.2.2.2.1, .int t.2.2.2.2.2, .ref (b 7), .long q, .int sg, .ref (b 8), .ref (b 9), .ref (b 10), .int ((ro z ob).2.2.2.1), .int ((ro z ob).2.2.2.2)]) (ty := .int) (C := RX5) (T := TX5) (N := 27) hx hb htb inX5 tyX5 tyX5_ok nmX5 hown hK hP hD hS 0 rfl rfl 0 (by decide) (htb _ kF_X5_67) (fun _ h9 => h9) rfl (by decide +kernel) rfl rfl (Nat.le_of_ble_eq_true rfl) dX5_frame_27 (fun H locs hP hD hS => ?_)
  have hP : va_P D vwCl (rw0 b cA cJ N f (ro z ob) t nd q sg 0) H := hP
  have hD : va_D A (rw0 b cA cJ N f (ro z ob) t nd q sg 0) := hD
  refine lv_aload_n hx hb dX5_frame_30 rfl (lv_at hl 0 rfl) ?_
  refine va_get (D := D) (ci := 5) (v := .int 0) (fs := [.int 0, .int N, .ref (b 1), .ref (b 2), .ref (b 3), .ref (b 4), .ref (b 5), .ref (b 6), .int 22, .int 95, .int nd.1, .int nd.2.2.1, .int nd.2.1, .long nd.2.2.2, .int t.2.1, .int t.2.2.1, .int t.2.2.2.1, .int t.2.2.2.2.1, .int t.2.2.2.2.2, .ref (b 7), .long q, .int sg, .ref (b 8), .ref (b 9), .ref (b 10), .int ((ro z ob).2.2.2.1), .int ((ro z ob).2.2.2.2)]) (C := RX5) (T := TX5) (N := 27) hx hb htb inX5 hown hK hP 0 rfl rfl 0 (by decide) (htb _ kF_X5_67) (fun _ h9 => h9) rfl dX5_frame_31 ?_
  refine lv_if_le (tgt := 39) hx hb dX5_frame_34 (by decide) (fun _ => ?_) (fun hno => absurd (by decide) hno)
  refine lv_aload_n hx hb dX5_frame_39 rfl (lv_at hl 0 rfl) ?_
  refine lv_iconst (v := 0) hx hb dX5_frame_40 (by decide) ?_
  refine va_put (D := D) (ci := 5) (v := .int 0) (fs := [.int 0, .int N, .ref (b 1), .ref (b 2), .ref (b 3), .ref (b 4), .ref (b 5), .ref (b 6), .int 22, .int 95, .int nd.1, .int nd.2.2.1, .int nd.2.1, .long nd.2.2.2, .int t.2.1, .int t.2.2.1, .int t.2.2.2.1, .int t.2.2.2.2.1, .int t.2.2.2.2.2, .ref (b 7), .long q, .int sg, .ref (b 8), .ref (b 9), .ref (b 10), .int ((ro z ob).2.2.2.1), .int ((ro z ob).2.2.2.2)]) (ty := .int) (C := RX5) (T := TX5) (N := 27) hx hb htb inX5 tyX5 tyX5_ok nmX5 hown hK hP hD hS 0 rfl rfl 26 (by decide) (htb _ kF_X5_72) (fun _ h9 => h9) rfl (by decide +kernel) rfl rfl (Nat.le_of_ble_eq_true rfl) dX5_frame_41 (fun H locs hP hD hS => ?_)
  have hP : va_P D vwCl (rw0 b cA cJ N f ((ro z ob).1, (ro z ob).2.1, (ro z ob).2.2.1, (ro z ob).2.2.2.1, 0) t nd q sg 0) H := hP
  have hD : va_D A (rw0 b cA cJ N f ((ro z ob).1, (ro z ob).2.1, (ro z ob).2.2.1, (ro z ob).2.2.2.1, 0) t nd q sg 0) := hD
  rw [ro_0] at hP hD
  have hP : va_P D vwCl (rw0 b cA cJ N f (ro ob.2.2 ob) t nd q sg 0) H := hP
  have hD : va_D A (rw0 b cA cJ N f (ro ob.2.2 ob) t nd q sg 0) := hD
  refine lv_iload_n hx hb dX5_frame_44 rfl (lv_at hl 3 rfl) ?_
  refine lv_iload hx hb dX5_frame_45 (lv_at hl 4 rfl) ?_
  refine zb_cl (va_runS (As := [.int (nI lo), .int (nI hg)]) (rest := []) ⟨hx, hb, hml, hown, htb⟩ (r_both l D b cA cJ N f (ro ob.2.2 ob) t nd q sg 0 lo hg hlo hhg) (va_cwS 2 htb (wb_S kM_X5_192 kZ_X5_both kN_X5 kD_X5_both) rfl rfl rfl (by decide +kernel) ⟨Nat.le_of_ble_eq_true rfl, Nat.le_of_ble_eq_true rfl⟩) (zp_S hP hK hSt hS hnw) rfl rfl hl.1 rfl (lv_room (Nat.le_of_ble_eq_true rfl)) dX5_frame_47 ⟨Nat.le_of_ble_eq_true rfl, Nat.le_of_ble_eq_true rfl⟩) ?_
  refine lv_lstore hx hb dX5_frame_50 hl (by decide) rfl (fun ls hl => ?_)
  have hl : lv_has ls 7 [(5, .long (lN (lo + 4294967296 * hg))), (0, .ref (b 0)), (1, .int fid), (2, .int ln), (3, .int (nI lo)), (4, .int (nI hg))] := hl
  refine lv_iload_n hx hb dX5_frame_52 rfl (lv_at hl 2 rfl) ?_
  refine lv_if_ne (tgt := 96) hx hb dX5_frame_53 (by decide) (fun _ => ?_) (fun hno => absurd hno hz)
  refine lv_iload_n hx hb dX5_frame_96 rfl (lv_at hl 2 rfl) ?_
  refine lv_sipush (v := 128) hx hb dX5_frame_97 (by decide) ?_
  refine lv_icmp_ne (tgt := 118) hx hb dX5_frame_100 (by decide) (fun _ => ?_) (fun hno => absurd hno hs)
  refine lv_iload_n hx hb dX5_frame_118 rfl (lv_at hl 2 rfl) ?_
  refine lv_sipush (v := 512) hx hb dX5_frame_119 (by decide) ?_
  refine lv_aload_n hx hb dX5_frame_122 rfl (lv_at hl 1 rfl) ?_
  refine va_get (D := D) (ci := 5) (v := .int N) (fs := [.int 0, .int N, .ref (b 1), .ref (b 2), .ref (b 3), .ref (b 4), .ref (b 5), .ref (b 6), .int 22, .int 95, .int nd.1, .int nd.2.2.1, .int nd.2.1, .long nd.2.2.2, .int t.2.1, .int t.2.2.1, .int t.2.2.2.1, .int t.2.2.2.2.1, .int t.2.2.2.2.2, .ref (b 7), .long q, .int sg, .ref (b 8), .ref (b 9), .ref (b 10), .int ((ro ob.2.2 ob).2.2.2.1), .int ((ro ob.2.2 ob).2.2.2.2)]) (C := RX5) (T := TX5) (N := 27) hx hb htb inX5 hown hK hP 0 rfl rfl 1 (by decide) (htb _ kF_X5_41) (fun _ h9 => h9) rfl dX5_frame_123 ?_
  refine lv_iadd hx hb dX5_frame_126 ?_
  refine lv_icmp_ne (tgt := 156) hx hb dX5_frame_127 (by decide) (fun _ => ?_) (fun hno => absurd hno ht5)
  refine lv_iload_n hx hb dX5_frame_156 rfl (lv_at hl 2 rfl) ?_
  refine lv_sipush (v := 1536) hx hb dX5_frame_157 (by decide) ?_
  refine lv_aload_n hx hb dX5_frame_160 rfl (lv_at hl 1 rfl) ?_
  refine va_get (D := D) (ci := 5) (v := .int N) (fs := [.int 0, .int N, .ref (b 1), .ref (b 2), .ref (b 3), .ref (b 4), .ref (b 5), .ref (b 6), .int 22, .int 95, .int nd.1, .int nd.2.2.1, .int nd.2.1, .long nd.2.2.2, .int t.2.1, .int t.2.2.1, .int t.2.2.2.1, .int t.2.2.2.2.1, .int t.2.2.2.2.2, .ref (b 7), .long q, .int sg, .ref (b 8), .ref (b 9), .ref (b 10), .int ((ro ob.2.2 ob).2.2.2.1), .int ((ro ob.2.2 ob).2.2.2.2)]) (C := RX5) (T := TX5) (N := 27) hx hb htb inX5 hown hK hP 0 rfl rfl 1 (by decide) (htb _ kF_X5_41) (fun _ h9 => h9) rfl dX5_frame_161 ?_
  refine lv_iadd hx hb dX5_frame_164 ?_
  refine lv_icmp_ne (tgt := 188) hx hb dX5_frame_165 (by decide) (fun _ => ?_) (fun hno => absurd hno hq15)
  have hM9 : kMid N f ob tr nd fid ln lo hg e d ad = (f, ob, tr, nd) := by unfold kMid; rw [if_neg (fun h => hz h.1), if_neg hs, if_neg ht5, if_neg (fun h => hq15 h.1)]
  have hrM : rel2 (kMid N f ob tr nd fid ln lo hg e d ad).2.2.1 t := by rw [hM9]; exact hR
  have hP : va_P D vwCl (rw0 b cA cJ N ((kMid N f ob tr nd fid ln lo hg e d ad).1) (ro ob.2.2 ((kMid N f ob tr nd fid ln lo hg e d ad).2.1)) t ((kMid N f ob tr nd fid ln lo hg e d ad).2.2.2) q sg 0) H := by rw [hM9]; exact hP
  have hD : va_D A (rw0 b cA cJ N ((kMid N f ob tr nd fid ln lo hg e d ad).1) (ro ob.2.2 ((kMid N f ob tr nd fid ln lo hg e d ad).2.1)) t ((kMid N f ob tr nd fid ln lo hg e d ad).2.2.2) q sg 0) := by rw [hM9]; exact hD
  refine lv_aload_n hx hb dX5_frame_188 rfl (lv_at hl 1 rfl) ?_
  refine zb_cv (va_runV (As := []) (rest := []) ⟨hx, hb, hml, hown, htb⟩ (r_end l D b cA cJ N ((kMid N f ob tr nd fid ln lo hg e d ad).1) ob.2.2 ((kMid N f ob tr nd fid ln lo hg e d ad).2.1) t ((kMid N f ob tr nd fid ln lo hg e d ad).2.2.2) q sg 0 _ hB2 hG2 ho2) (cwV 0 htb (wb_V kM_X5_210 kI_X5_end kS_X5_end kN_X5 kD_X5_end) rfl rfl rfl (by decide +kernel) ⟨Nat.le_of_ble_eq_true rfl, Nat.le_of_ble_eq_true rfl⟩) (zp_VW 0 rfl rfl hP hD hK hSt hS hA hnw) rfl rfl hl.1 rfl (lv_room (Nat.le_of_ble_eq_true rfl)) dX5_frame_189 ⟨Nat.le_of_ble_eq_true rfl, Nat.le_of_ble_eq_true rfl⟩) hD hS hA (fun H locs hP hD hS => ?_)
  have hP : va_P D vwCl (rw0 b cA cJ N ((kMid N f ob tr nd fid ln lo hg e d ad).1) (ro ob.2.2 (kEv N ((kMid N f ob tr nd fid ln lo hg e d ad).1) ((kMid N f ob tr nd fid ln lo hg e d ad).2.1) ((kMid N f ob tr nd fid ln lo hg e d ad).2.2.2))) t (nEv ((kMid N f ob tr nd fid ln lo hg e d ad).1) ((kMid N f ob tr nd fid ln lo hg e d ad).2.2.2)) q sg 0) H := hP
  have hD : va_D A (rw0 b cA cJ N ((kMid N f ob tr nd fid ln lo hg e d ad).1) (ro ob.2.2 (kEv N ((kMid N f ob tr nd fid ln lo hg e d ad).1) ((kMid N f ob tr nd fid ln lo hg e d ad).2.1) ((kMid N f ob tr nd fid ln lo hg e d ad).2.2.2))) t (nEv ((kMid N f ob tr nd fid ln lo hg e d ad).1) ((kMid N f ob tr nd fid ln lo hg e d ad).2.2.2)) q sg 0) := hD
  refine lv_aload_n hx hb dX5_frame_192 rfl (lv_at hl 1 rfl) ?_
  refine va_get (D := D) (ci := 5) (v := .int ((ro ob.2.2 (kEv N ((kMid N f ob tr nd fid ln lo hg e d ad).1) ((kMid N f ob tr nd fid ln lo hg e d ad).2.1) ((kMid N f ob tr nd fid ln lo hg e d ad).2.2.2))).2.2.2.2)) (fs := [.int 0, .int N, .ref (b 1), .ref (b 2), .ref (b 3), .ref (b 4), .ref (b 5), .ref (b 6), .int 22, .int 95, .int ((nEv ((kMid N f ob tr nd fid ln lo hg e d ad).1) ((kMid N f ob tr nd fid ln lo hg e d ad).2.2.2)).1), .int ((nEv ((kMid N f ob tr nd fid ln lo hg e d ad).1) ((kMid N f ob tr nd fid ln lo hg e d ad).2.2.2)).2.2.1), .int ((nEv ((kMid N f ob tr nd fid ln lo hg e d ad).1) ((kMid N f ob tr nd fid ln lo hg e d ad).2.2.2)).2.1), .long ((nEv ((kMid N f ob tr nd fid ln lo hg e d ad).1) ((kMid N f ob tr nd fid ln lo hg e d ad).2.2.2)).2.2.2), .int t.2.1, .int t.2.2.1, .int t.2.2.2.1, .int t.2.2.2.2.1, .int t.2.2.2.2.2, .ref (b 7), .long q, .int sg, .ref (b 8), .ref (b 9), .ref (b 10), .int ((ro ob.2.2 (kEv N ((kMid N f ob tr nd fid ln lo hg e d ad).1) ((kMid N f ob tr nd fid ln lo hg e d ad).2.1) ((kMid N f ob tr nd fid ln lo hg e d ad).2.2.2))).2.2.2.1), .int ((ro ob.2.2 (kEv N ((kMid N f ob tr nd fid ln lo hg e d ad).1) ((kMid N f ob tr nd fid ln lo hg e d ad).2.1) ((kMid N f ob tr nd fid ln lo hg e d ad).2.2.2))).2.2.2.2)]) (C := RX5) (T := TX5) (N := 27) hx hb htb inX5 hown hK hP 0 rfl rfl 26 (by decide) (htb _ kF_X5_72) (fun _ h9 => h9) rfl dX5_frame_193 ?_
  rw [hQ]
  have hw9 : (rw0 b cA cJ N ((kMid N f ob tr nd fid ln lo hg e d ad).1) (ro ob.2.2 (kEv N ((kMid N f ob tr nd fid ln lo hg e d ad).1) ((kMid N f ob tr nd fid ln lo hg e d ad).2.1) ((kMid N f ob tr nd fid ln lo hg e d ad).2.2.2))) t (nEv ((kMid N f ob tr nd fid ln lo hg e d ad).1) ((kMid N f ob tr nd fid ln lo hg e d ad).2.2.2)) q sg 0) = r4 b cA cJ N ob.2.2 0 (kEnd N (kMid N f ob tr nd fid ln lo hg e d ad)) (t, q, sg) := rfl
  have hr9 : rel2 (kEnd N (kMid N f ob tr nd fid ln lo hg e d ad)).2.2.1 t := hrM
  exact W.iret (v := (ro ob.2.2 (kEv N ((kMid N f ob tr nd fid ln lo hg e d ad).1) ((kMid N f ob tr nd fid ln lo hg e d ad).2.1) ((kMid N f ob tr nd fid ln lo hg e d ad).2.2.2))).2.2.2.2) hx hb hr (fun t9 ht hW => ⟨congrArg (fun z => Outcome.returned (some (Value.int z))) (rfl), (t, q, sg), hr9, by rw [ht, ← hw9]; exact hP, by rw [← hw9]; exact hD, hS.F ht⟩) hS.2.2 dX5_frame_196
