theorem f41 : ∀ fi, fi < 256 → (nI fi >>> ((4 : Int32) &&& 31)) &&& 1 = nI (fi / 16 % 2) := by decide +kernel
theorem turn_iff {fi u : Nat} (hfi : fi < 256) (hu : u < 2) : (nI fi &&& 16 = nI (16 * u)) ↔ nI (fi / 16 % 2) = nI u := by
  rw [a16 fi hfi, nI_eq (by omega) (by omega), nI_eq (by omega) (by omega)]
  omega
theorem sF_n {tr : TR} {fi : Nat} {wr : Int32} (h : tr.2.1 = 0) : sF tr fi wr = 84148225 := by
  unfold sF
  rw [if_pos h]
theorem sF_w {tr : TR} {fi : Nat} {wr : Int32} (h1 : tr.2.1 = 1) (h : ¬ tr.2.2.1 = wr) : sF tr fi wr = 84148225 := by
  unfold sF
  rw [h1, if_neg (by decide), if_neg h]
theorem sF_t {tr : TR} {fi u : Nat} {wr : Int32} (h1 : tr.2.1 = 1) (h : tr.2.2.1 = wr) (hfi : fi < 256) (hu : u < 2) (ht : tr.2.2.2.2.2.2.1 = nI (16 * u)) (hn : ¬ nI (fi / 16 % 2) = nI u) : sF tr fi wr = 84082688 := by
  unfold sF
  rw [h1, if_neg (by decide), if_pos h, ht, if_neg (fun q => hn ((turn_iff hfi hu).mp q))]
theorem sF_0 {tr : TR} {fi u : Nat} {wr : Int32} (h1 : tr.2.1 = 1) (h : tr.2.2.1 = wr) (hfi : fi < 256) (hu : u < 2) (ht : tr.2.2.2.2.2.2.1 = nI (16 * u)) (hn : nI (fi / 16 % 2) = nI u) : sF tr fi wr = 0 := by
  unfold sF
  rw [h1, if_neg (by decide), if_pos h, ht, if_pos ((turn_iff hfi hu).mpr hn)]
theorem rel_next {tr : TR} {h : Nat → Int32} {tn dn : Int32} {e d ad u : Nat} (he : e < 22) (hd : d ≤ xZ e) (h1 : tr.2.2.2.1 = nI e) (h2 : tr.2.2.2.2.2.1 = nI d) (h3 : h = tr.1) (h4 : tr.2.2.2.2.1 = nI ad) (h5 : ad < 2 ^ 24) (h6 : ad = xI e + 65536 * xS e) (hg : tr.2.1 = 1) (hw : (tr.2.2.1 = 1 ∧ tn = 1) ∨ (tr.2.2.1 = 0 ∧ tn = 2)) (hu : u < 2) (ht : tr.2.2.2.2.2.2.1 = nI (16 * u)) (hdn : dn = nI d) :
    rel2 (tr_next tr) (h, tn, nI e, 1 - nI u, dn, 0) := by
  refine ⟨e, d, ad, ⟨he, hd, h1, h2, h4, h5⟩, h3, Or.inr ⟨hg, hw, rfl, h6, ⟨1 - u, by omega, ?_, ?_⟩, hdn, rfl⟩⟩
  · exact pk_sub (a := 1) (by omega)
  · show 16 - tr.2.2.2.2.2.2.1 = _
    rw [ht, show 16 * (1 - u) = 16 - 16 * u by omega]
    exact pk_sub (a := 16) (by omega)
theorem rs_j {f : Nat → Int32} (hB : isB f) {s j : Nat} (hj : j < 7) : lN (sm f s j * 256) ||| (f (s + j)).toInt64 <<< ((nI (8 * (j + 1))).toInt64 &&& 63) = lN (sm f s (j + 1) * 256) := by
  have h := mC_j hB (C := 0) (L := 1) (s := s) (j := j) (by decide) (by omega)
  rw [Nat.zero_add, Nat.zero_add, Nat.add_comm 1 j] at h
  exact h
theorem rx_or2 {s b : Nat} (hs : s < 2 ^ 56) (hb : b < 256) : lN (s * 256) ||| (nI b).toInt64 = lN (s * 256 + b) := by
  rw [nI_l (by omega), g_or (k := 8) rfl (by omega) (by omega)]
set_option maxHeartbeats 4000000 in
set_option maxRecDepth 100000 in
theorem r_wseg (l : Launch) (D : va_G) (b : Nat → Nat) (cA cJ : ClassId) (N : Int32) (f : Nat → Int32) (z : Int32) (ob : OB) (t : RT) (nd : ND) (lo hg : Nat) (th : Int32) (sz : Nat) (tr : TR) (fi e d ad : Nat) (hB : isB f) (hBh : isB t.1) (ho : obK ob) (hlo : lo < 2 ^ 32) (hhg : hg < 2 ^ 32) (hfi : fi < 256) (hN : trN tr e d ad) (hrel : rel tr t e d ad) : Met l yX5_writeSegment (wX5_writeSegment :: wb) ({ frames := 4, cells := 0, slots := 0, locals := 97 } : Room) (va_Pc [.ref (b 0), .int (nI fi)] (zPre D [(cA, .int), (cJ, .long)] (rw0 b cA cJ N f (ro z ob) t nd (lN (lo + 4294967296 * hg)) 1 th) sz)) (zb_E none D vwCl (r4 b cA cJ N z th (kWSeg N f ob tr nd fi ((lo + 4294967296 * hg) / 256) e d ad)) (fun y => rel2 (kWSeg N f ob tr nd fi ((lo + 4294967296 * hg) / 256) e d ad).2.2.1 y.1) (va_A (rw0 b cA cJ N f (ro z ob) t nd (lN (lo + 4294967296 * hg)) 1 th) sz)) 0 0 (va_A (rw0 b cA cJ N f (ro z ob) t nd (lN (lo + 4294967296 * hg)) 1 th) sz) := by
  refine Met.ofW (cc := cX5_writeSegment) (maxL := 4) (ret := none) (by decide) rfl ?_
  intro p ev s m args below meth c s₁ B hml hv
  obtain ⟨rfl, hsz, hP, hK, hD0, hSt, hnw⟩ := hv
  have hx := B.exec
  have hb := B.bytes
  have hr := B.returns
  have hts := atoms_spec (ws := wX5_writeSegment :: wb) B.pre
  have htb : ∀ w ∈ wb, w.before ([.ref (b 0), .int (nI fi)]).toArray s = true := fun w h => hts w (List.mem_cons_of_mem _ h)
  have hown : s.vm.findClass RX5 = some m.cls := findClass_of_methodNamed B.named
  have hlocks := B.notSynchronized
  subst hsz
  have hD := hD0.self (sz := s.heap.size)
  clear hD0
  generalize hAe : va_A (rw0 b cA cJ N f (ro z ob) t nd (lN (lo + 4294967296 * hg)) 1 th) s.heap.size = A at hD hSt ⊢
  have hA : ∀ q : Nat, s.heap.size ≤ q → A q := fun q h => by rw [← hAe]; exact Or.inr h
  have hS : va_S A s.heap s.heap [] := va_S.rf
  obtain ⟨⟨tt, ff, hZT, hTT, hZF, hTF⟩, hXS⟩ := id hSt
  have hl := lv_entry ([.ref (b 0), .int (nI fi)]) (n := 4) (Nat.le_of_ble_eq_true rfl)
  rw [lg_entry_eq]
  generalize (lg_sl ([.ref (b 0), .int (nI fi)]) ++ List.replicate (4 - (lg_sl ([.ref (b 0), .int (nI fi)])).length) Slot.unset).toArray = ls at hl ⊢
  have hl : lv_has ls 4 [(0, .ref (b 0)), (1, .int (nI fi))] := hl
  refine zb_abs (fun Q hQ => ?_)
  have hrel0 := hrel
  obtain ⟨hrh, ⟨hg0, ht0, hz0⟩ | ⟨hg1, ⟨hw1, hw2⟩ | ⟨hw1, hw2⟩, hen, hadd, ⟨u, hu2, hdu, htu⟩, hdn, htk⟩⟩ := hrel
  all_goals obtain ⟨he, hd, hN1, hN2, hN3, had⟩ := id hN
  all_goals have hft := x_fit e he
  · refine lv_aload_n hx hb dX5_writeSegment_0 rfl (lv_at hl 0 rfl) ?_
    refine va_get (D := D) (ci := 5) (v := .int t.2.1) (fs := [.int th, .int N, .ref (b 1), .ref (b 2), .ref (b 3), .ref (b 4), .ref (b 5), .ref (b 6), .int 22, .int 95, .int nd.1, .int nd.2.2.1, .int nd.2.1, .long nd.2.2.2, .int t.2.1, .int t.2.2.1, .int t.2.2.2.1, .int t.2.2.2.2.1, .int t.2.2.2.2.2, .ref (b 7), .long (lN (lo + 4294967296 * hg)), .int 1, .ref (b 8), .ref (b 9), .ref (b 10), .int ((ro z ob).2.2.2.1), .int ((ro z ob).2.2.2.2)]) (C := RX5) (T := TX5) (N := 27) hx hb htb inX5 hown hK hP 0 rfl rfl 14 (by decide) (htb _ kF_X5_85) (fun _ h9 => h9) rfl dX5_writeSegment_1 ?_
    refine lv_iconst (v := 1) hx hb dX5_writeSegment_4 (by decide) ?_
    refine lv_icmp_eq (tgt := 16) hx hb dX5_writeSegment_5 (by decide) (fun hno => absurd hno (by rw [ht0]; decide)) (fun _ => ?_)
    refine lv_aload_n hx hb dX5_writeSegment_8 rfl (lv_at hl 0 rfl) ?_
    refine lv_ldc (v := 84148225) hx hb hown (htb _ kK_X5_172) dX5_writeSegment_9 ?_
    refine lv_iconst (v := 1) hx hb dX5_writeSegment_11 (by decide) ?_
    refine zb_cv (va_runV (As := [.int 84148225, .int 1]) (rest := []) ⟨hx, hb, hml, hown, htb⟩ (r_abort1 l D b cA cJ N f z ob t nd (lo + 4294967296 * hg) 1 th _ tr e d ad 84148225 ho hN (hrel0) (by decide)) (cwV 2 htb (wb_V kM_X5_152 kI_X5_abort kS_X5_abort kN_X5 kD_X5_abort) rfl rfl rfl (by decide +kernel) ⟨Nat.le_of_ble_eq_true rfl, Nat.le_of_ble_eq_true rfl⟩) (zp_VW 0 rfl rfl hP hD hK hSt hS hA hnw) rfl rfl hl.1 rfl (lv_room (Nat.le_of_ble_eq_true rfl)) dX5_writeSegment_12 ⟨Nat.le_of_ble_eq_true rfl, Nat.le_of_ble_eq_true rfl⟩) hD hS hA (fun H locs hP hD hS => ?_)
    have hP : va_P D vwCl (rw0 b cA cJ N f (ro z (kAns N ob 128 ad 84148225)) (t.1, 0, t.2.2.1, t.2.2.2.1, t.2.2.2.2.1, t.2.2.2.2.2) nd (lN (lo + 4294967296 * hg)) 1 th) H := hP
    have hD : va_D A (rw0 b cA cJ N f (ro z (kAns N ob 128 ad 84148225)) (t.1, 0, t.2.2.1, t.2.2.2.1, t.2.2.2.2.1, t.2.2.2.2.2) nd (lN (lo + 4294967296 * hg)) 1 th) := hD
    have hs9 : sF tr fi 1 = 84148225 := sF_n hg0
    have hK9 : kWSeg N f ob tr nd fi ((lo + 4294967296 * hg) / 256) e d ad = (f, (kAns N ob 128 ad 84148225), tr_end tr, nd) := by simp only [kWSeg, hs9]; rfl
    rw [hQ]
    have hw9 : (rw0 b cA cJ N f (ro z (kAns N ob 128 ad 84148225)) (t.1, 0, t.2.2.1, t.2.2.2.1, t.2.2.2.2.1, t.2.2.2.2.2) nd (lN (lo + 4294967296 * hg)) 1 th) = r4 b cA cJ N z th (kWSeg N f ob tr nd fi ((lo + 4294967296 * hg) / 256) e d ad) ((t.1, 0, t.2.2.1, t.2.2.2.1, t.2.2.2.2.1, t.2.2.2.2.2), (lN (lo + 4294967296 * hg)), 1) := by rw [hK9]; rfl
    have hr9 : rel2 (kWSeg N f ob tr nd fi ((lo + 4294967296 * hg) / 256) e d ad).2.2.1 (t.1, 0, t.2.2.1, t.2.2.2.1, t.2.2.2.2.1, t.2.2.2.2.2) := by rw [hK9]; exact rel_off he hd hN1 hN2 hrh _
    exact W.vret hx hb hr (fun t9 ht hW => ⟨rfl, ((t.1, 0, t.2.2.1, t.2.2.2.1, t.2.2.2.2.1, t.2.2.2.2.2), (lN (lo + 4294967296 * hg)), 1), hr9, by rw [ht, ← hw9]; exact hP, by rw [← hw9]; exact hD, hS.F ht⟩) hS.2.2 dX5_writeSegment_15
  · have e1 : (t.2.1 : Int32) = 1 := hw2
    have hP : va_P D vwCl (rw0 b cA cJ N f (ro z ob) (t.1, 1, t.2.2.1, t.2.2.2.1, t.2.2.2.2.1, t.2.2.2.2.2) nd (lN (lo + 4294967296 * hg)) 1 th) _ := Eq.mp (congrArg (fun zz9 : Int32 => va_P D vwCl (rw0 b cA cJ N f (ro z ob) (t.1, zz9, t.2.2.1, t.2.2.2.1, t.2.2.2.2.1, t.2.2.2.2.2) nd (lN (lo + 4294967296 * hg)) 1 th) _) e1) hP
    have hD : va_D A (rw0 b cA cJ N f (ro z ob) (t.1, 1, t.2.2.1, t.2.2.2.1, t.2.2.2.2.1, t.2.2.2.2.2) nd (lN (lo + 4294967296 * hg)) 1 th) := Eq.mp (congrArg (fun zz9 : Int32 => va_D A (rw0 b cA cJ N f (ro z ob) (t.1, zz9, t.2.2.1, t.2.2.2.1, t.2.2.2.2.1, t.2.2.2.2.2) nd (lN (lo + 4294967296 * hg)) 1 th)) e1) hD
    have e2 : (t.2.2.1 : Int32) = nI e := hen
    have hP : va_P D vwCl (rw0 b cA cJ N f (ro z ob) (t.1, 1, nI e, t.2.2.2.1, t.2.2.2.2.1, t.2.2.2.2.2) nd (lN (lo + 4294967296 * hg)) 1 th) _ := Eq.mp (congrArg (fun zz9 : Int32 => va_P D vwCl (rw0 b cA cJ N f (ro z ob) (t.1, 1, zz9, t.2.2.2.1, t.2.2.2.2.1, t.2.2.2.2.2) nd (lN (lo + 4294967296 * hg)) 1 th) _) e2) hP
    have hD : va_D A (rw0 b cA cJ N f (ro z ob) (t.1, 1, nI e, t.2.2.2.1, t.2.2.2.2.1, t.2.2.2.2.2) nd (lN (lo + 4294967296 * hg)) 1 th) := Eq.mp (congrArg (fun zz9 : Int32 => va_D A (rw0 b cA cJ N f (ro z ob) (t.1, 1, zz9, t.2.2.2.1, t.2.2.2.2.1, t.2.2.2.2.2) nd (lN (lo + 4294967296 * hg)) 1 th)) e2) hD
    have e3 : (t.2.2.2.1 : Int32) = nI u := hdu
    have hP : va_P D vwCl (rw0 b cA cJ N f (ro z ob) (t.1, 1, nI e, nI u, t.2.2.2.2.1, t.2.2.2.2.2) nd (lN (lo + 4294967296 * hg)) 1 th) _ := Eq.mp (congrArg (fun zz9 : Int32 => va_P D vwCl (rw0 b cA cJ N f (ro z ob) (t.1, 1, nI e, zz9, t.2.2.2.2.1, t.2.2.2.2.2) nd (lN (lo + 4294967296 * hg)) 1 th) _) e3) hP
    have hD : va_D A (rw0 b cA cJ N f (ro z ob) (t.1, 1, nI e, nI u, t.2.2.2.2.1, t.2.2.2.2.2) nd (lN (lo + 4294967296 * hg)) 1 th) := Eq.mp (congrArg (fun zz9 : Int32 => va_D A (rw0 b cA cJ N f (ro z ob) (t.1, 1, nI e, zz9, t.2.2.2.2.1, t.2.2.2.2.2) nd (lN (lo + 4294967296 * hg)) 1 th)) e3) hD
    have e4 : (t.2.2.2.2.1 : Int32) = nI d := hdn
    have hP : va_P D vwCl (rw0 b cA cJ N f (ro z ob) (t.1, 1, nI e, nI u, nI d, t.2.2.2.2.2) nd (lN (lo + 4294967296 * hg)) 1 th) _ := Eq.mp (congrArg (fun zz9 : Int32 => va_P D vwCl (rw0 b cA cJ N f (ro z ob) (t.1, 1, nI e, nI u, zz9, t.2.2.2.2.2) nd (lN (lo + 4294967296 * hg)) 1 th) _) e4) hP
    have hD : va_D A (rw0 b cA cJ N f (ro z ob) (t.1, 1, nI e, nI u, nI d, t.2.2.2.2.2) nd (lN (lo + 4294967296 * hg)) 1 th) := Eq.mp (congrArg (fun zz9 : Int32 => va_D A (rw0 b cA cJ N f (ro z ob) (t.1, 1, nI e, nI u, zz9, t.2.2.2.2.2) nd (lN (lo + 4294967296 * hg)) 1 th)) e4) hD
    refine lv_aload_n hx hb dX5_writeSegment_0 rfl (lv_at hl 0 rfl) ?_
    refine va_get (D := D) (ci := 5) (v := .int 1) (fs := [.int th, .int N, .ref (b 1), .ref (b 2), .ref (b 3), .ref (b 4), .ref (b 5), .ref (b 6), .int 22, .int 95, .int nd.1, .int nd.2.2.1, .int nd.2.1, .long nd.2.2.2, .int 1, .int (nI e), .int (nI u), .int (nI d), .int t.2.2.2.2.2, .ref (b 7), .long (lN (lo + 4294967296 * hg)), .int 1, .ref (b 8), .ref (b 9), .ref (b 10), .int ((ro z ob).2.2.2.1), .int ((ro z ob).2.2.2.2)]) (C := RX5) (T := TX5) (N := 27) hx hb htb inX5 hown hK hP 0 rfl rfl 14 (by decide) (htb _ kF_X5_85) (fun _ h9 => h9) rfl dX5_writeSegment_1 ?_
    refine lv_iconst (v := 1) hx hb dX5_writeSegment_4 (by decide) ?_
    refine lv_icmp_eq (tgt := 16) hx hb dX5_writeSegment_5 (by decide) (fun _ => ?_) (fun hno => absurd (by decide) hno)
    refine lv_iload_n hx hb dX5_writeSegment_16 rfl (lv_at hl 1 rfl) ?_
    refine lv_iconst (v := 4) hx hb dX5_writeSegment_17 (by decide) ?_
    refine lv_ishr hx hb dX5_writeSegment_18 ?_
    refine lv_iconst (v := 1) hx hb dX5_writeSegment_19 (by decide) ?_
    refine lv_iand hx hb dX5_writeSegment_20 ?_
    refine zb_ti (y := nI (fi / 16 % 2)) (f41 fi hfi) ?_
    refine lv_aload_n hx hb dX5_writeSegment_21 rfl (lv_at hl 0 rfl) ?_
    refine va_get (D := D) (ci := 5) (v := .int (nI u)) (fs := [.int th, .int N, .ref (b 1), .ref (b 2), .ref (b 3), .ref (b 4), .ref (b 5), .ref (b 6), .int 22, .int 95, .int nd.1, .int nd.2.2.1, .int nd.2.1, .long nd.2.2.2, .int 1, .int (nI e), .int (nI u), .int (nI d), .int t.2.2.2.2.2, .ref (b 7), .long (lN (lo + 4294967296 * hg)), .int 1, .ref (b 8), .ref (b 9), .ref (b 10), .int ((ro z ob).2.2.2.1), .int ((ro z ob).2.2.2.2)]) (C := RX5) (T := TX5) (N := 27) hx hb htb inX5 hown hK hP 0 rfl rfl 16 (by decide) (htb _ kF_X5_134) (fun _ h9 => h9) rfl dX5_writeSegment_22 ?_
    refine lv_icmp_eq (tgt := 36) hx hb dX5_writeSegment_25 (by decide) (fun hc5 => ?_) (fun hc5 => ?_)
    · refine lv_bipush (v := 7) hx hb dX5_writeSegment_36 (by decide) ?_
      refine lv_iload_n hx hb dX5_writeSegment_38 rfl (lv_at hl 1 rfl) ?_
      refine lv_iconst (v := 1) hx hb dX5_writeSegment_39 (by decide) ?_
      refine lv_ishr hx hb dX5_writeSegment_40 ?_
      refine lv_bipush (v := 7) hx hb dX5_writeSegment_41 (by decide) ?_
      refine lv_iand hx hb dX5_writeSegment_43 ?_
      refine lv_isub hx hb dX5_writeSegment_44 ?_
      refine zb_ti (y := nI (sn fi)) (seg7 fi hfi) ?_
      have hsn7 : sn fi ≤ 7 := Nat.sub_le _ _
      refine lv_istore_n hx hb dX5_writeSegment_45 rfl hl (by decide) rfl (fun ls hl => ?_)
      have hl : lv_has ls 4 [(2, .int (nI (sn fi))), (0, .ref (b 0)), (1, .int (nI fi))] := hl
      refine lv_aload_n hx hb dX5_writeSegment_46 rfl (lv_at hl 1 rfl) ?_
      refine va_get (D := D) (ci := 5) (v := .int (nI d)) (fs := [.int th, .int N, .ref (b 1), .ref (b 2), .ref (b 3), .ref (b 4), .ref (b 5), .ref (b 6), .int 22, .int 95, .int nd.1, .int nd.2.2.1, .int nd.2.1, .long nd.2.2.2, .int 1, .int (nI e), .int (nI u), .int (nI d), .int t.2.2.2.2.2, .ref (b 7), .long (lN (lo + 4294967296 * hg)), .int 1, .ref (b 8), .ref (b 9), .ref (b 10), .int ((ro z ob).2.2.2.1), .int ((ro z ob).2.2.2.2)]) (C := RX5) (T := TX5) (N := 27) hx hb htb inX5 hown hK hP 0 rfl rfl 17 (by decide) (htb _ kF_X5_137) (fun _ h9 => h9) rfl dX5_writeSegment_47 ?_
      refine lv_iload_n hx hb dX5_writeSegment_50 rfl (lv_at hl 0 rfl) ?_
      refine lv_iadd hx hb dX5_writeSegment_51 ?_
      refine zb_ti (nI_add d (sn fi)) ?_
      refine lv_aload_n hx hb dX5_writeSegment_52 rfl (lv_at hl 1 rfl) ?_
      refine va_get (D := D) (ci := 5) (v := .ref (b 3)) (fs := [.int th, .int N, .ref (b 1), .ref (b 2), .ref (b 3), .ref (b 4), .ref (b 5), .ref (b 6), .int 22, .int 95, .int nd.1, .int nd.2.2.1, .int nd.2.1, .long nd.2.2.2, .int 1, .int (nI e), .int (nI u), .int (nI d), .int t.2.2.2.2.2, .ref (b 7), .long (lN (lo + 4294967296 * hg)), .int 1, .ref (b 8), .ref (b 9), .ref (b 10), .int ((ro z ob).2.2.2.1), .int ((ro z ob).2.2.2.2)]) (C := RX5) (T := TX5) (N := 27) hx hb htb inX5 hown hK hP 0 rfl rfl 4 (by decide) (htb _ kF_X5_16) (fun _ h9 => h9) rfl dX5_writeSegment_53 ?_
      refine lv_aload_n hx hb dX5_writeSegment_56 rfl (lv_at hl 1 rfl) ?_
      refine va_get (D := D) (ci := 5) (v := .int (nI e)) (fs := [.int th, .int N, .ref (b 1), .ref (b 2), .ref (b 3), .ref (b 4), .ref (b 5), .ref (b 6), .int 22, .int 95, .int nd.1, .int nd.2.2.1, .int nd.2.1, .long nd.2.2.2, .int 1, .int (nI e), .int (nI u), .int (nI d), .int t.2.2.2.2.2, .ref (b 7), .long (lN (lo + 4294967296 * hg)), .int 1, .ref (b 8), .ref (b 9), .ref (b 10), .int ((ro z ob).2.2.2.1), .int ((ro z ob).2.2.2.2)]) (C := RX5) (T := TX5) (N := 27) hx hb htb inX5 hown hK hP 0 rfl rfl 15 (by decide) (htb _ kF_X5_128) (fun _ h9 => h9) rfl dX5_writeSegment_57 ?_
      refine va_iald (i := nI e) hx hb hK hP 3 0 rfl rfl (vp_in_nI (by omega) (by decide)) dX5_writeSegment_60 ?_
      refine zb_ti (y := nI (xZ e)) (by rw [nI_clamp (by omega)]) ?_
      refine lv_icmp_le (tgt := 72) hx hb dX5_writeSegment_61 (by decide) (fun hc6 => ?_) (fun hc6 => ?_)
      · have hsm9 : d + sn fi ≤ xZ e := (nI_leI (by omega) (by omega)).mp hc6
        have hsn9 : sn fi ≤ xZ e - d := by omega
        refine lv_iconst (v := 0) hx hb dX5_writeSegment_72 (by decide) ?_
        refine lv_istore_n hx hb dX5_writeSegment_73 rfl hl (by decide) rfl (fun ls hl => ?_)
        have hl : lv_has ls 4 [(3, .int 0), (2, .int (nI (sn fi))), (0, .ref (b 0)), (1, .int (nI fi))] := hl
        have e7 : (t.1 : Nat → Int32) = (pF t.1 d (0) ((lo + 4294967296 * hg) / 256) 0) := (pF_0 _ _ _ _).symm
        have hP : va_P D vwCl (rw0 b cA cJ N f (ro z ob) ((pF t.1 d (0) ((lo + 4294967296 * hg) / 256) 0), 1, nI e, nI u, nI d, t.2.2.2.2.2) nd (lN (lo + 4294967296 * hg)) 1 th) _ := Eq.mp (congrArg (fun zz9 : Nat → Int32 => va_P D vwCl (rw0 b cA cJ N f (ro z ob) (zz9, 1, nI e, nI u, nI d, t.2.2.2.2.2) nd (lN (lo + 4294967296 * hg)) 1 th) _) e7) hP
        have hD : va_D A (rw0 b cA cJ N f (ro z ob) ((pF t.1 d (0) ((lo + 4294967296 * hg) / 256) 0), 1, nI e, nI u, nI d, t.2.2.2.2.2) nd (lN (lo + 4294967296 * hg)) 1 th) := Eq.mp (congrArg (fun zz9 : Nat → Int32 => va_D A (rw0 b cA cJ N f (ro z ob) (zz9, 1, nI e, nI u, nI d, t.2.2.2.2.2) nd (lN (lo + 4294967296 * hg)) 1 th)) e7) hD
        have lp : ∀ (nn k : Nat) (ls : Array Slot) (H : Heap) (locs : List Loc), va_P D vwCl (rw0 b cA cJ N f (ro z ob) ((pF t.1 d (k) ((lo + 4294967296 * hg) / 256) 0), 1, nI e, nI u, nI d, t.2.2.2.2.2) nd (lN (lo + 4294967296 * hg)) 1 th) H → va_D A (rw0 b cA cJ N f (ro z ob) ((pF t.1 d (k) ((lo + 4294967296 * hg) / 256) 0), 1, nI e, nI u, nI d, t.2.2.2.2.2) nd (lN (lo + 4294967296 * hg)) 1 th) → va_S A s.heap H locs → k + nn = sn fi → lv_has ls 4 [(0, .ref (b 0)), (1, .int (nI fi)), (2, .int (nI (sn fi))), (3, .int (nI (k)))] → W p l ev ({ frames := 4, cells := 0, slots := 0, locals := 97 } : Room) s m ([.ref (b 0), .int (nI fi)]).toArray below meth c H locs 0 0 Q (F0 m 74 ls []) := by
          intro nn
          induction nn with
          | zero =>
            intro k ls H locs hP hD hS hk_lp  hl
            have hk0_lp : k = sn fi := by omega
            refine lv_iload_n hx hb dX5_writeSegment_74 rfl (lv_at hl 3 rfl) ?_
            refine lv_iload_n hx hb dX5_writeSegment_75 rfl (lv_at hl 2 rfl) ?_
            refine lv_icmp_ge (tgt := 106) hx hb dX5_writeSegment_76 (by decide) (fun _ => ?_) (fun hno => absurd (by rw [hk0_lp]; exact nI_le (Nat.le_refl _) (by omega)) hno)
            have e8 : ((pF t.1 d (k) ((lo + 4294967296 * hg) / 256) 0) : Nat → Int32) = (pF t.1 d (sn fi) ((lo + 4294967296 * hg) / 256) 0) := by rw [hk0_lp]
            have hP : va_P D vwCl (rw0 b cA cJ N f (ro z ob) ((pF t.1 d (sn fi) ((lo + 4294967296 * hg) / 256) 0), 1, nI e, nI u, nI d, t.2.2.2.2.2) nd (lN (lo + 4294967296 * hg)) 1 th) _ := Eq.mp (congrArg (fun zz9 : Nat → Int32 => va_P D vwCl (rw0 b cA cJ N f (ro z ob) (zz9, 1, nI e, nI u, nI d, t.2.2.2.2.2) nd (lN (lo + 4294967296 * hg)) 1 th) _) e8) hP
            have hD : va_D A (rw0 b cA cJ N f (ro z ob) ((pF t.1 d (sn fi) ((lo + 4294967296 * hg) / 256) 0), 1, nI e, nI u, nI d, t.2.2.2.2.2) nd (lN (lo + 4294967296 * hg)) 1 th) := Eq.mp (congrArg (fun zz9 : Nat → Int32 => va_D A (rw0 b cA cJ N f (ro z ob) (zz9, 1, nI e, nI u, nI d, t.2.2.2.2.2) nd (lN (lo + 4294967296 * hg)) 1 th)) e8) hD
            have hH9 : (tr_add tr d (sn fi) ((lo + 4294967296 * hg) / 256)).1 = (pF t.1 d (sn fi) ((lo + 4294967296 * hg) / 256) 0) := by rw [hrh]; rfl
            have hBH : isB (pF t.1 d (sn fi) ((lo + 4294967296 * hg) / 256) 0) := isB_pF hBh _ _ _ _
            have hN9 : trN (tr_add tr d (sn fi) ((lo + 4294967296 * hg) / 256)) e (d + sn fi) ad := ⟨he, hsm9, hN1, rfl, hN3, had⟩
            have hrel9 : rel (tr_add tr d (sn fi) ((lo + 4294967296 * hg) / 256)) ((pF t.1 d (sn fi) ((lo + 4294967296 * hg) / 256) 0), 1, nI e, nI u, nI (d + sn fi), t.2.2.2.2.2) e (d + sn fi) ad := ⟨hH9.symm, Or.inr ⟨hg1, Or.inl ⟨hw1, rfl⟩, rfl, hadd, ⟨u, hu2, rfl, htu⟩, rfl, htk⟩⟩
            refine lv_aload_n hx hb dX5_writeSegment_106 rfl (lv_at hl 0 rfl) ?_
            refine lv_dup hx hb dX5_writeSegment_107 rfl ?_
            refine va_get (D := D) (ci := 5) (v := .int (nI d)) (fs := [.int th, .int N, .ref (b 1), .ref (b 2), .ref (b 3), .ref (b 4), .ref (b 5), .ref (b 6), .int 22, .int 95, .int nd.1, .int nd.2.2.1, .int nd.2.1, .long nd.2.2.2, .int 1, .int (nI e), .int (nI u), .int (nI d), .int t.2.2.2.2.2, .ref (b 7), .long (lN (lo + 4294967296 * hg)), .int 1, .ref (b 8), .ref (b 9), .ref (b 10), .int ((ro z ob).2.2.2.1), .int ((ro z ob).2.2.2.2)]) (C := RX5) (T := TX5) (N := 27) hx hb htb inX5 hown hK hP 0 rfl rfl 17 (by decide) (htb _ kF_X5_137) (fun _ h9 => h9) rfl dX5_writeSegment_108 ?_
            refine lv_iload_n hx hb dX5_writeSegment_111 rfl (lv_at hl 2 rfl) ?_
            refine lv_iadd hx hb dX5_writeSegment_112 ?_
            refine zb_ti (nI_add d (sn fi)) ?_
            refine va_put (D := D) (ci := 5) (v := .int (nI (d + (sn fi)))) (fs := [.int th, .int N, .ref (b 1), .ref (b 2), .ref (b 3), .ref (b 4), .ref (b 5), .ref (b 6), .int 22, .int 95, .int nd.1, .int nd.2.2.1, .int nd.2.1, .long nd.2.2.2, .int 1, .int (nI e), .int (nI u), .int (nI d), .int t.2.2.2.2.2, .ref (b 7), .long (lN (lo + 4294967296 * hg)), .int 1, .ref (b 8), .ref (b 9), .ref (b 10), .int ((ro z ob).2.2.2.1), .int ((ro z ob).2.2.2.2)]) (ty := .int) (C := RX5) (T := TX5) (N := 27) hx hb htb inX5 tyX5 tyX5_ok nmX5 hown hK hP hD hS 0 rfl rfl 17 (by decide) (htb _ kF_X5_137) (fun _ h9 => h9) rfl (by decide +kernel) rfl rfl (Nat.le_of_ble_eq_true rfl) dX5_writeSegment_113 (fun H locs hP hD hS => ?_)
            have hP : va_P D vwCl (rw0 b cA cJ N f (ro z ob) ((pF t.1 d (sn fi) ((lo + 4294967296 * hg) / 256) 0), 1, nI e, nI u, nI (d + (sn fi)), t.2.2.2.2.2) nd (lN (lo + 4294967296 * hg)) 1 th) H := hP
            have hD : va_D A (rw0 b cA cJ N f (ro z ob) ((pF t.1 d (sn fi) ((lo + 4294967296 * hg) / 256) 0), 1, nI e, nI u, nI (d + (sn fi)), t.2.2.2.2.2) nd (lN (lo + 4294967296 * hg)) 1 th) := hD
            refine lv_iload_n hx hb dX5_writeSegment_116 rfl (lv_at hl 1 rfl) ?_
            refine lv_iconst (v := 1) hx hb dX5_writeSegment_117 (by decide) ?_
            refine lv_iand hx hb dX5_writeSegment_118 ?_
            refine lv_if_eq (tgt := 126) hx hb dX5_writeSegment_119 (by decide) (fun hc9 => ?_) (fun hc9 => ?_)
            · refine lv_iconst (v := 0) hx hb dX5_writeSegment_126 (by decide) ?_
              refine lv_istore_n hx hb dX5_writeSegment_127 rfl hl (by decide) rfl (fun ls hl => ?_)
              have hl : lv_has ls 4 [(3, .int 0), (0, .ref (b 0)), (1, .int (nI fi)), (2, .int (nI (sn fi)))] := hl
              refine lv_iload_n hx hb dX5_writeSegment_128 rfl (lv_at hl 0 rfl) ?_
              refine lv_if_eq (tgt := 156) hx hb dX5_writeSegment_129 (by decide) (fun _ => ?_) (fun hno => absurd (by decide) hno)
              refine lv_iload_n hx hb dX5_writeSegment_156 rfl (lv_at hl 0 rfl) ?_
              refine lv_if_eq (tgt := 177) hx hb dX5_writeSegment_157 (by decide) (fun _ => ?_) (fun hno => absurd (by decide) hno)
              refine lv_aload_n hx hb dX5_writeSegment_177 rfl (lv_at hl 1 rfl) ?_
              refine lv_bipush (v := 32) hx hb dX5_writeSegment_178 (by decide) ?_
              refine lv_iload_n hx hb dX5_writeSegment_180 rfl (lv_at hl 2 rfl) ?_
              refine lv_bipush (v := 16) hx hb dX5_writeSegment_181 (by decide) ?_
              refine lv_iand hx hb dX5_writeSegment_183 ?_
              refine lv_iadd hx hb dX5_writeSegment_184 ?_
              refine zb_ti (y := nI (32 + fi / 16 % 2 * 16)) (a32 fi hfi) ?_
              refine lv_iconst (v := 0) hx hb dX5_writeSegment_185 (by decide) ?_
              refine lv_iconst (v := 0) hx hb dX5_writeSegment_186 (by decide) ?_
              refine lv_iconst (v := 0) hx hb dX5_writeSegment_187 (by decide) ?_
              refine zb_cv (va_runV (As := [.int (nI (32 + fi / 16 % 2 * 16)), .int 0, .int 0, .int 0]) (rest := []) ⟨hx, hb, hml, hown, htb⟩ (r_answer l D b cA cJ N f z ob ((pF t.1 d (sn fi) ((lo + 4294967296 * hg) / 256) 0), 1, nI e, nI u, nI (d + (sn fi)), t.2.2.2.2.2) nd (lN (lo + 4294967296 * hg)) 1 th _ (32 + fi / 16 % 2 * 16) 0 0 0 ho (by omega) (by decide) (by decide) (by decide)) (cwV 4 htb (wb_V kM_X5_131 kI_X5_answer kS_X5_answer kN_X5 kD_X5_answer) rfl rfl rfl (by decide +kernel) ⟨Nat.le_of_ble_eq_true rfl, Nat.le_of_ble_eq_true rfl⟩) (zp_VW 0 rfl rfl hP hD hK hSt hS hA hnw) rfl rfl hl.1 rfl (lv_room (Nat.le_of_ble_eq_true rfl)) dX5_writeSegment_188 ⟨Nat.le_of_ble_eq_true rfl, Nat.le_of_ble_eq_true rfl⟩) hD hS hA (fun H locs hP hD hS => ?_)
              have hP : va_P D vwCl (rw0 b cA cJ N f (ro z (kAns N ob (32 + fi / 16 % 2 * 16) (0 + 65536 * 0) 0)) ((pF t.1 d (sn fi) ((lo + 4294967296 * hg) / 256) 0), 1, nI e, nI u, nI (d + (sn fi)), t.2.2.2.2.2) nd (lN (lo + 4294967296 * hg)) 1 th) H := hP
              have hD : va_D A (rw0 b cA cJ N f (ro z (kAns N ob (32 + fi / 16 % 2 * 16) (0 + 65536 * 0) 0)) ((pF t.1 d (sn fi) ((lo + 4294967296 * hg) / 256) 0), 1, nI e, nI u, nI (d + (sn fi)), t.2.2.2.2.2) nd (lN (lo + 4294967296 * hg)) 1 th) := hD
              refine lv_aload_n hx hb dX5_writeSegment_191 rfl (lv_at hl 1 rfl) ?_
              refine lv_iconst (v := 1) hx hb dX5_writeSegment_192 (by decide) ?_
              refine lv_aload_n hx hb dX5_writeSegment_193 rfl (lv_at hl 1 rfl) ?_
              refine va_get (D := D) (ci := 5) (v := .int (nI u)) (fs := [.int th, .int N, .ref (b 1), .ref (b 2), .ref (b 3), .ref (b 4), .ref (b 5), .ref (b 6), .int 22, .int 95, .int nd.1, .int nd.2.2.1, .int nd.2.1, .long nd.2.2.2, .int 1, .int (nI e), .int (nI u), .int (nI (d + (sn fi))), .int t.2.2.2.2.2, .ref (b 7), .long (lN (lo + 4294967296 * hg)), .int 1, .ref (b 8), .ref (b 9), .ref (b 10), .int ((ro z (kAns N ob (32 + fi / 16 % 2 * 16) (0 + 65536 * 0) 0)).2.2.2.1), .int ((ro z (kAns N ob (32 + fi / 16 % 2 * 16) (0 + 65536 * 0) 0)).2.2.2.2)]) (C := RX5) (T := TX5) (N := 27) hx hb htb inX5 hown hK hP 0 rfl rfl 16 (by decide) (htb _ kF_X5_134) (fun _ h9 => h9) rfl dX5_writeSegment_194 ?_
              refine lv_isub hx hb dX5_writeSegment_197 ?_
              refine va_put (D := D) (ci := 5) (v := .int (1 - (nI u))) (fs := [.int th, .int N, .ref (b 1), .ref (b 2), .ref (b 3), .ref (b 4), .ref (b 5), .ref (b 6), .int 22, .int 95, .int nd.1, .int nd.2.2.1, .int nd.2.1, .long nd.2.2.2, .int 1, .int (nI e), .int (nI u), .int (nI (d + (sn fi))), .int t.2.2.2.2.2, .ref (b 7), .long (lN (lo + 4294967296 * hg)), .int 1, .ref (b 8), .ref (b 9), .ref (b 10), .int ((ro z (kAns N ob (32 + fi / 16 % 2 * 16) (0 + 65536 * 0) 0)).2.2.2.1), .int ((ro z (kAns N ob (32 + fi / 16 % 2 * 16) (0 + 65536 * 0) 0)).2.2.2.2)]) (ty := .int) (C := RX5) (T := TX5) (N := 27) hx hb htb inX5 tyX5 tyX5_ok nmX5 hown hK hP hD hS 0 rfl rfl 16 (by decide) (htb _ kF_X5_134) (fun _ h9 => h9) rfl (by decide +kernel) rfl rfl (Nat.le_of_ble_eq_true rfl) dX5_writeSegment_198 (fun H locs hP hD hS => ?_)
              have hP : va_P D vwCl (rw0 b cA cJ N f (ro z (kAns N ob (32 + fi / 16 % 2 * 16) (0 + 65536 * 0) 0)) ((pF t.1 d (sn fi) ((lo + 4294967296 * hg) / 256) 0), 1, nI e, 1 - (nI u), nI (d + (sn fi)), t.2.2.2.2.2) nd (lN (lo + 4294967296 * hg)) 1 th) H := hP
              have hD : va_D A (rw0 b cA cJ N f (ro z (kAns N ob (32 + fi / 16 % 2 * 16) (0 + 65536 * 0) 0)) ((pF t.1 d (sn fi) ((lo + 4294967296 * hg) / 256) 0), 1, nI e, 1 - (nI u), nI (d + (sn fi)), t.2.2.2.2.2) nd (lN (lo + 4294967296 * hg)) 1 th) := hD
              refine lv_aload_n hx hb dX5_writeSegment_201 rfl (lv_at hl 1 rfl) ?_
              refine lv_iconst (v := 0) hx hb dX5_writeSegment_202 (by decide) ?_
              refine va_put (D := D) (ci := 5) (v := .int 0) (fs := [.int th, .int N, .ref (b 1), .ref (b 2), .ref (b 3), .ref (b 4), .ref (b 5), .ref (b 6), .int 22, .int 95, .int nd.1, .int nd.2.2.1, .int nd.2.1, .long nd.2.2.2, .int 1, .int (nI e), .int (1 - (nI u)), .int (nI (d + (sn fi))), .int t.2.2.2.2.2, .ref (b 7), .long (lN (lo + 4294967296 * hg)), .int 1, .ref (b 8), .ref (b 9), .ref (b 10), .int ((ro z (kAns N ob (32 + fi / 16 % 2 * 16) (0 + 65536 * 0) 0)).2.2.2.1), .int ((ro z (kAns N ob (32 + fi / 16 % 2 * 16) (0 + 65536 * 0) 0)).2.2.2.2)]) (ty := .int) (C := RX5) (T := TX5) (N := 27) hx hb htb inX5 tyX5 tyX5_ok nmX5 hown hK hP hD hS 0 rfl rfl 18 (by decide) (htb _ kF_X5_94) (fun _ h9 => h9) rfl (by decide +kernel) rfl rfl (Nat.le_of_ble_eq_true rfl) dX5_writeSegment_203 (fun H locs hP hD hS => ?_)
              have hP : va_P D vwCl (rw0 b cA cJ N f (ro z (kAns N ob (32 + fi / 16 % 2 * 16) (0 + 65536 * 0) 0)) ((pF t.1 d (sn fi) ((lo + 4294967296 * hg) / 256) 0), 1, nI e, 1 - (nI u), nI (d + (sn fi)), 0) nd (lN (lo + 4294967296 * hg)) 1 th) H := hP
              have hD : va_D A (rw0 b cA cJ N f (ro z (kAns N ob (32 + fi / 16 % 2 * 16) (0 + 65536 * 0) 0)) ((pF t.1 d (sn fi) ((lo + 4294967296 * hg) / 256) 0), 1, nI e, 1 - (nI u), nI (d + (sn fi)), 0) nd (lN (lo + 4294967296 * hg)) 1 th) := hD
              have hs9 : sF tr fi 1 = 0 := sF_0 hg1 hw1 hfi hu2 htu hc5
              have hK9 : kWSeg N f ob tr nd fi ((lo + 4294967296 * hg) / 256) e d ad = (f, (kAns N ob (32 + fi / 16 % 2 * 16) (0 + 65536 * 0) 0), tr_next (tr_add tr d (sn fi) ((lo + 4294967296 * hg) / 256)), nd) := by simp only [kWSeg, hs9, if_pos (show nI 0 = 0 from rfl), if_pos hsn9, if_pos hc9, Nat.mul_zero, Nat.add_zero]
              rw [hQ]
              have hw9 : (rw0 b cA cJ N f (ro z (kAns N ob (32 + fi / 16 % 2 * 16) (0 + 65536 * 0) 0)) ((pF t.1 d (sn fi) ((lo + 4294967296 * hg) / 256) 0), 1, nI e, 1 - (nI u), nI (d + (sn fi)), 0) nd (lN (lo + 4294967296 * hg)) 1 th) = r4 b cA cJ N z th (kWSeg N f ob tr nd fi ((lo + 4294967296 * hg) / 256) e d ad) (((pF t.1 d (sn fi) ((lo + 4294967296 * hg) / 256) 0), 1, nI e, 1 - (nI u), nI (d + (sn fi)), 0), (lN (lo + 4294967296 * hg)), 1) := by rw [hK9]; rfl
              have hr9 : rel2 (kWSeg N f ob tr nd fi ((lo + 4294967296 * hg) / 256) e d ad).2.2.1 ((pF t.1 d (sn fi) ((lo + 4294967296 * hg) / 256) 0), 1, nI e, 1 - (nI u), nI (d + (sn fi)), 0) := by rw [hK9]; exact rel_next (tr := (tr_add tr d (sn fi) ((lo + 4294967296 * hg) / 256))) he hsm9 hN1 rfl (by rw [hrh]; rfl) hN3 had hadd hg1 (Or.inl ⟨hw1, rfl⟩) hu2 htu rfl
              exact W.vret hx hb hr (fun t9 ht hW => ⟨rfl, (((pF t.1 d (sn fi) ((lo + 4294967296 * hg) / 256) 0), 1, nI e, 1 - (nI u), nI (d + (sn fi)), 0), (lN (lo + 4294967296 * hg)), 1), hr9, by rw [ht, ← hw9]; exact hP, by rw [← hw9]; exact hD, hS.F ht⟩) hS.2.2 dX5_writeSegment_206
            refine lv_iconst (v := 1) hx hb dX5_writeSegment_122 (by decide) ?_
            refine lv_goto (tgt := 127) hx hb dX5_writeSegment_123 (by decide) ?_
            refine lv_istore_n hx hb dX5_writeSegment_127 rfl hl (by decide) rfl (fun ls hl => ?_)
            have hl : lv_has ls 4 [(3, .int 1), (0, .ref (b 0)), (1, .int (nI fi)), (2, .int (nI (sn fi)))] := hl
            refine lv_iload_n hx hb dX5_writeSegment_128 rfl (lv_at hl 0 rfl) ?_
            refine lv_if_eq (tgt := 156) hx hb dX5_writeSegment_129 (by decide) (fun hno => absurd hno (by decide)) (fun _ => ?_)
            refine lv_aload_n hx hb dX5_writeSegment_132 rfl (lv_at hl 1 rfl) ?_
            refine va_get (D := D) (ci := 5) (v := .int (nI (d + (sn fi)))) (fs := [.int th, .int N, .ref (b 1), .ref (b 2), .ref (b 3), .ref (b 4), .ref (b 5), .ref (b 6), .int 22, .int 95, .int nd.1, .int nd.2.2.1, .int nd.2.1, .long nd.2.2.2, .int 1, .int (nI e), .int (nI u), .int (nI (d + (sn fi))), .int t.2.2.2.2.2, .ref (b 7), .long (lN (lo + 4294967296 * hg)), .int 1, .ref (b 8), .ref (b 9), .ref (b 10), .int ((ro z ob).2.2.2.1), .int ((ro z ob).2.2.2.2)]) (C := RX5) (T := TX5) (N := 27) hx hb htb inX5 hown hK hP 0 rfl rfl 17 (by decide) (htb _ kF_X5_137) (fun _ h9 => h9) rfl dX5_writeSegment_133 ?_
            refine lv_aload_n hx hb dX5_writeSegment_136 rfl (lv_at hl 1 rfl) ?_
            refine va_get (D := D) (ci := 5) (v := .ref (b 3)) (fs := [.int th, .int N, .ref (b 1), .ref (b 2), .ref (b 3), .ref (b 4), .ref (b 5), .ref (b 6), .int 22, .int 95, .int nd.1, .int nd.2.2.1, .int nd.2.1, .long nd.2.2.2, .int 1, .int (nI e), .int (nI u), .int (nI (d + (sn fi))), .int t.2.2.2.2.2, .ref (b 7), .long (lN (lo + 4294967296 * hg)), .int 1, .ref (b 8), .ref (b 9), .ref (b 10), .int ((ro z ob).2.2.2.1), .int ((ro z ob).2.2.2.2)]) (C := RX5) (T := TX5) (N := 27) hx hb htb inX5 hown hK hP 0 rfl rfl 4 (by decide) (htb _ kF_X5_16) (fun _ h9 => h9) rfl dX5_writeSegment_137 ?_
            refine lv_aload_n hx hb dX5_writeSegment_140 rfl (lv_at hl 1 rfl) ?_
            refine va_get (D := D) (ci := 5) (v := .int (nI e)) (fs := [.int th, .int N, .ref (b 1), .ref (b 2), .ref (b 3), .ref (b 4), .ref (b 5), .ref (b 6), .int 22, .int 95, .int nd.1, .int nd.2.2.1, .int nd.2.1, .long nd.2.2.2, .int 1, .int (nI e), .int (nI u), .int (nI (d + (sn fi))), .int t.2.2.2.2.2, .ref (b 7), .long (lN (lo + 4294967296 * hg)), .int 1, .ref (b 8), .ref (b 9), .ref (b 10), .int ((ro z ob).2.2.2.1), .int ((ro z ob).2.2.2.2)]) (C := RX5) (T := TX5) (N := 27) hx hb htb inX5 hown hK hP 0 rfl rfl 15 (by decide) (htb _ kF_X5_128) (fun _ h9 => h9) rfl dX5_writeSegment_141 ?_
            refine va_iald (i := nI e) hx hb hK hP 3 0 rfl rfl (vp_in_nI (by omega) (by decide)) dX5_writeSegment_144 ?_
            refine zb_ti (y := nI (xZ e)) (by rw [nI_clamp (by omega)]) ?_
            refine lv_icmp_ge (tgt := 156) hx hb dX5_writeSegment_145 (by decide) (fun hc10 => ?_) (fun hc10 => ?_)
            · refine lv_iload_n hx hb dX5_writeSegment_156 rfl (lv_at hl 0 rfl) ?_
              refine lv_if_eq (tgt := 177) hx hb dX5_writeSegment_157 (by decide) (fun hno => absurd hno (by decide)) (fun _ => ?_)
              have hfl9 : xZ e = d + sn fi := Nat.le_antisymm ((nI_leI (by omega) (by omega)).mp hc10) hsm9
              have hV9 : min (d + sn fi) 4 = min (xZ e) 4 := by rw [← hfl9]
              by_cases hc11 : nI (stF nd.1 f e (sm (pF t.1 d (sn fi) ((lo + 4294967296 * hg) / 256) 0) 0 (min (xZ e) 4))) = 0
              · refine lv_aload_n hx hb dX5_writeSegment_160 rfl (lv_at hl 1 rfl) ?_
                refine lv_aload_n hx hb dX5_writeSegment_161 rfl (lv_at hl 1 rfl) ?_
                refine va_get (D := D) (ci := 5) (v := .int (nI e)) (fs := [.int th, .int N, .ref (b 1), .ref (b 2), .ref (b 3), .ref (b 4), .ref (b 5), .ref (b 6), .int 22, .int 95, .int nd.1, .int nd.2.2.1, .int nd.2.1, .long nd.2.2.2, .int 1, .int (nI e), .int (nI u), .int (nI (d + (sn fi))), .int t.2.2.2.2.2, .ref (b 7), .long (lN (lo + 4294967296 * hg)), .int 1, .ref (b 8), .ref (b 9), .ref (b 10), .int ((ro z ob).2.2.2.1), .int ((ro z ob).2.2.2.2)]) (C := RX5) (T := TX5) (N := 27) hx hb htb inX5 hown hK hP 0 rfl rfl 15 (by decide) (htb _ kF_X5_128) (fun _ h9 => h9) rfl dX5_writeSegment_162 ?_
                refine zb_cvi (va_runV (As := [.int (nI e)]) (rest := []) ⟨hx, hb, hml, hown, htb⟩ (r_storeOk l D b cA cJ N f z ob ((pF t.1 d (sn fi) ((lo + 4294967296 * hg) / 256) 0), 1, nI e, nI u, nI (d + (sn fi)), t.2.2.2.2.2) nd (lN (lo + 4294967296 * hg)) 1 th _ e hB hBH he hc11) (cwV 1 htb (wb_V kM_X5_168 kI_X5_store kS_X5_store kN_X5 kD_X5_store) rfl rfl rfl (by decide +kernel) ⟨Nat.le_of_ble_eq_true rfl, Nat.le_of_ble_eq_true rfl⟩) (zp_VW 0 rfl rfl hP hD hK hSt hS hA hnw) rfl rfl hl.1 rfl (lv_room (Nat.le_of_ble_eq_true rfl)) dX5_writeSegment_165 ⟨Nat.le_of_ble_eq_true rfl, Nat.le_of_ble_eq_true rfl⟩) hD hS hA (fun H locs hP hD hS => ?_)
                have hP : va_P D vwCl (rw0 b cA cJ N (fSto f (pF t.1 d (sn fi) ((lo + 4294967296 * hg) / 256) 0) e) (ro z ob) ((pF t.1 d (sn fi) ((lo + 4294967296 * hg) / 256) 0), 1, nI e, nI u, nI (d + (sn fi)), t.2.2.2.2.2) (nSto e nd) (lN (lo + 4294967296 * hg)) 1 th) H := hP
                have hD : va_D A (rw0 b cA cJ N (fSto f (pF t.1 d (sn fi) ((lo + 4294967296 * hg) / 256) 0) e) (ro z ob) ((pF t.1 d (sn fi) ((lo + 4294967296 * hg) / 256) 0), 1, nI e, nI u, nI (d + (sn fi)), t.2.2.2.2.2) (nSto e nd) (lN (lo + 4294967296 * hg)) 1 th) := hD
                refine lv_if_ne (tgt := 172) hx hb dX5_writeSegment_168 (by decide) (fun _ => ?_) (fun hno => absurd hno (by decide))
                refine lv_aload_n hx hb dX5_writeSegment_172 rfl (lv_at hl 1 rfl) ?_
                refine lv_iconst (v := 0) hx hb dX5_writeSegment_173 (by decide) ?_
                refine va_put (D := D) (ci := 5) (v := .int 0) (fs := [.int th, .int N, .ref (b 1), .ref (b 2), .ref (b 3), .ref (b 4), .ref (b 5), .ref (b 6), .int 22, .int 95, .int ((nSto e nd).1), .int ((nSto e nd).2.2.1), .int ((nSto e nd).2.1), .long ((nSto e nd).2.2.2), .int 1, .int (nI e), .int (nI u), .int (nI (d + (sn fi))), .int t.2.2.2.2.2, .ref (b 7), .long (lN (lo + 4294967296 * hg)), .int 1, .ref (b 8), .ref (b 9), .ref (b 10), .int ((ro z ob).2.2.2.1), .int ((ro z ob).2.2.2.2)]) (ty := .int) (C := RX5) (T := TX5) (N := 27) hx hb htb inX5 tyX5 tyX5_ok nmX5 hown hK hP hD hS 0 rfl rfl 14 (by decide) (htb _ kF_X5_85) (fun _ h9 => h9) rfl (by decide +kernel) rfl rfl (Nat.le_of_ble_eq_true rfl) dX5_writeSegment_174 (fun H locs hP hD hS => ?_)
                have hP : va_P D vwCl (rw0 b cA cJ N (fSto f (pF t.1 d (sn fi) ((lo + 4294967296 * hg) / 256) 0) e) (ro z ob) ((pF t.1 d (sn fi) ((lo + 4294967296 * hg) / 256) 0), 0, nI e, nI u, nI (d + (sn fi)), t.2.2.2.2.2) (nSto e nd) (lN (lo + 4294967296 * hg)) 1 th) H := hP
                have hD : va_D A (rw0 b cA cJ N (fSto f (pF t.1 d (sn fi) ((lo + 4294967296 * hg) / 256) 0) e) (ro z ob) ((pF t.1 d (sn fi) ((lo + 4294967296 * hg) / 256) 0), 0, nI e, nI u, nI (d + (sn fi)), t.2.2.2.2.2) (nSto e nd) (lN (lo + 4294967296 * hg)) 1 th) := hD
                refine lv_aload_n hx hb dX5_writeSegment_177 rfl (lv_at hl 1 rfl) ?_
                refine lv_bipush (v := 32) hx hb dX5_writeSegment_178 (by decide) ?_
                refine lv_iload_n hx hb dX5_writeSegment_180 rfl (lv_at hl 2 rfl) ?_
                refine lv_bipush (v := 16) hx hb dX5_writeSegment_181 (by decide) ?_
                refine lv_iand hx hb dX5_writeSegment_183 ?_
                refine lv_iadd hx hb dX5_writeSegment_184 ?_
                refine zb_ti (y := nI (32 + fi / 16 % 2 * 16)) (a32 fi hfi) ?_
                refine lv_iconst (v := 0) hx hb dX5_writeSegment_185 (by decide) ?_
                refine lv_iconst (v := 0) hx hb dX5_writeSegment_186 (by decide) ?_
                refine lv_iconst (v := 0) hx hb dX5_writeSegment_187 (by decide) ?_
                refine zb_cv (va_runV (As := [.int (nI (32 + fi / 16 % 2 * 16)), .int 0, .int 0, .int 0]) (rest := []) ⟨hx, hb, hml, hown, htb⟩ (r_answer l D b cA cJ N (fSto f (pF t.1 d (sn fi) ((lo + 4294967296 * hg) / 256) 0) e) z ob ((pF t.1 d (sn fi) ((lo + 4294967296 * hg) / 256) 0), 0, nI e, nI u, nI (d + (sn fi)), t.2.2.2.2.2) (nSto e nd) (lN (lo + 4294967296 * hg)) 1 th _ (32 + fi / 16 % 2 * 16) 0 0 0 ho (by omega) (by decide) (by decide) (by decide)) (cwV 4 htb (wb_V kM_X5_131 kI_X5_answer kS_X5_answer kN_X5 kD_X5_answer) rfl rfl rfl (by decide +kernel) ⟨Nat.le_of_ble_eq_true rfl, Nat.le_of_ble_eq_true rfl⟩) (zp_VW 0 rfl rfl hP hD hK hSt hS hA hnw) rfl rfl hl.1 rfl (lv_room (Nat.le_of_ble_eq_true rfl)) dX5_writeSegment_188 ⟨Nat.le_of_ble_eq_true rfl, Nat.le_of_ble_eq_true rfl⟩) hD hS hA (fun H locs hP hD hS => ?_)
                have hP : va_P D vwCl (rw0 b cA cJ N (fSto f (pF t.1 d (sn fi) ((lo + 4294967296 * hg) / 256) 0) e) (ro z (kAns N ob (32 + fi / 16 % 2 * 16) (0 + 65536 * 0) 0)) ((pF t.1 d (sn fi) ((lo + 4294967296 * hg) / 256) 0), 0, nI e, nI u, nI (d + (sn fi)), t.2.2.2.2.2) (nSto e nd) (lN (lo + 4294967296 * hg)) 1 th) H := hP
                have hD : va_D A (rw0 b cA cJ N (fSto f (pF t.1 d (sn fi) ((lo + 4294967296 * hg) / 256) 0) e) (ro z (kAns N ob (32 + fi / 16 % 2 * 16) (0 + 65536 * 0) 0)) ((pF t.1 d (sn fi) ((lo + 4294967296 * hg) / 256) 0), 0, nI e, nI u, nI (d + (sn fi)), t.2.2.2.2.2) (nSto e nd) (lN (lo + 4294967296 * hg)) 1 th) := hD
                refine lv_aload_n hx hb dX5_writeSegment_191 rfl (lv_at hl 1 rfl) ?_
                refine lv_iconst (v := 1) hx hb dX5_writeSegment_192 (by decide) ?_
                refine lv_aload_n hx hb dX5_writeSegment_193 rfl (lv_at hl 1 rfl) ?_
                refine va_get (D := D) (ci := 5) (v := .int (nI u)) (fs := [.int th, .int N, .ref (b 1), .ref (b 2), .ref (b 3), .ref (b 4), .ref (b 5), .ref (b 6), .int 22, .int 95, .int ((nSto e nd).1), .int ((nSto e nd).2.2.1), .int ((nSto e nd).2.1), .long ((nSto e nd).2.2.2), .int 0, .int (nI e), .int (nI u), .int (nI (d + (sn fi))), .int t.2.2.2.2.2, .ref (b 7), .long (lN (lo + 4294967296 * hg)), .int 1, .ref (b 8), .ref (b 9), .ref (b 10), .int ((ro z (kAns N ob (32 + fi / 16 % 2 * 16) (0 + 65536 * 0) 0)).2.2.2.1), .int ((ro z (kAns N ob (32 + fi / 16 % 2 * 16) (0 + 65536 * 0) 0)).2.2.2.2)]) (C := RX5) (T := TX5) (N := 27) hx hb htb inX5 hown hK hP 0 rfl rfl 16 (by decide) (htb _ kF_X5_134) (fun _ h9 => h9) rfl dX5_writeSegment_194 ?_
                refine lv_isub hx hb dX5_writeSegment_197 ?_
                refine va_put (D := D) (ci := 5) (v := .int (1 - (nI u))) (fs := [.int th, .int N, .ref (b 1), .ref (b 2), .ref (b 3), .ref (b 4), .ref (b 5), .ref (b 6), .int 22, .int 95, .int ((nSto e nd).1), .int ((nSto e nd).2.2.1), .int ((nSto e nd).2.1), .long ((nSto e nd).2.2.2), .int 0, .int (nI e), .int (nI u), .int (nI (d + (sn fi))), .int t.2.2.2.2.2, .ref (b 7), .long (lN (lo + 4294967296 * hg)), .int 1, .ref (b 8), .ref (b 9), .ref (b 10), .int ((ro z (kAns N ob (32 + fi / 16 % 2 * 16) (0 + 65536 * 0) 0)).2.2.2.1), .int ((ro z (kAns N ob (32 + fi / 16 % 2 * 16) (0 + 65536 * 0) 0)).2.2.2.2)]) (ty := .int) (C := RX5) (T := TX5) (N := 27) hx hb htb inX5 tyX5 tyX5_ok nmX5 hown hK hP hD hS 0 rfl rfl 16 (by decide) (htb _ kF_X5_134) (fun _ h9 => h9) rfl (by decide +kernel) rfl rfl (Nat.le_of_ble_eq_true rfl) dX5_writeSegment_198 (fun H locs hP hD hS => ?_)
                have hP : va_P D vwCl (rw0 b cA cJ N (fSto f (pF t.1 d (sn fi) ((lo + 4294967296 * hg) / 256) 0) e) (ro z (kAns N ob (32 + fi / 16 % 2 * 16) (0 + 65536 * 0) 0)) ((pF t.1 d (sn fi) ((lo + 4294967296 * hg) / 256) 0), 0, nI e, 1 - (nI u), nI (d + (sn fi)), t.2.2.2.2.2) (nSto e nd) (lN (lo + 4294967296 * hg)) 1 th) H := hP
                have hD : va_D A (rw0 b cA cJ N (fSto f (pF t.1 d (sn fi) ((lo + 4294967296 * hg) / 256) 0) e) (ro z (kAns N ob (32 + fi / 16 % 2 * 16) (0 + 65536 * 0) 0)) ((pF t.1 d (sn fi) ((lo + 4294967296 * hg) / 256) 0), 0, nI e, 1 - (nI u), nI (d + (sn fi)), t.2.2.2.2.2) (nSto e nd) (lN (lo + 4294967296 * hg)) 1 th) := hD
                refine lv_aload_n hx hb dX5_writeSegment_201 rfl (lv_at hl 1 rfl) ?_
                refine lv_iconst (v := 0) hx hb dX5_writeSegment_202 (by decide) ?_
                refine va_put (D := D) (ci := 5) (v := .int 0) (fs := [.int th, .int N, .ref (b 1), .ref (b 2), .ref (b 3), .ref (b 4), .ref (b 5), .ref (b 6), .int 22, .int 95, .int ((nSto e nd).1), .int ((nSto e nd).2.2.1), .int ((nSto e nd).2.1), .long ((nSto e nd).2.2.2), .int 0, .int (nI e), .int (1 - (nI u)), .int (nI (d + (sn fi))), .int t.2.2.2.2.2, .ref (b 7), .long (lN (lo + 4294967296 * hg)), .int 1, .ref (b 8), .ref (b 9), .ref (b 10), .int ((ro z (kAns N ob (32 + fi / 16 % 2 * 16) (0 + 65536 * 0) 0)).2.2.2.1), .int ((ro z (kAns N ob (32 + fi / 16 % 2 * 16) (0 + 65536 * 0) 0)).2.2.2.2)]) (ty := .int) (C := RX5) (T := TX5) (N := 27) hx hb htb inX5 tyX5 tyX5_ok nmX5 hown hK hP hD hS 0 rfl rfl 18 (by decide) (htb _ kF_X5_94) (fun _ h9 => h9) rfl (by decide +kernel) rfl rfl (Nat.le_of_ble_eq_true rfl) dX5_writeSegment_203 (fun H locs hP hD hS => ?_)
                have hP : va_P D vwCl (rw0 b cA cJ N (fSto f (pF t.1 d (sn fi) ((lo + 4294967296 * hg) / 256) 0) e) (ro z (kAns N ob (32 + fi / 16 % 2 * 16) (0 + 65536 * 0) 0)) ((pF t.1 d (sn fi) ((lo + 4294967296 * hg) / 256) 0), 0, nI e, 1 - (nI u), nI (d + (sn fi)), 0) (nSto e nd) (lN (lo + 4294967296 * hg)) 1 th) H := hP
                have hD : va_D A (rw0 b cA cJ N (fSto f (pF t.1 d (sn fi) ((lo + 4294967296 * hg) / 256) 0) e) (ro z (kAns N ob (32 + fi / 16 % 2 * 16) (0 + 65536 * 0) 0)) ((pF t.1 d (sn fi) ((lo + 4294967296 * hg) / 256) 0), 0, nI e, 1 - (nI u), nI (d + (sn fi)), 0) (nSto e nd) (lN (lo + 4294967296 * hg)) 1 th) := hD
                have hs9 : sF tr fi 1 = 0 := sF_0 hg1 hw1 hfi hu2 htu hc5
                have hK9 : kWSeg N f ob tr nd fi ((lo + 4294967296 * hg) / 256) e d ad = ((fSto f (pF t.1 d (sn fi) ((lo + 4294967296 * hg) / 256) 0) e), (kAns N ob (32 + fi / 16 % 2 * 16) (0 + 65536 * 0) 0), tr_end (tr_add tr d (sn fi) ((lo + 4294967296 * hg) / 256)), (nSto e nd)) := by simp only [kWSeg, hs9, if_pos (show nI 0 = 0 from rfl), if_pos hsn9, if_neg hc9, if_pos (show nI (xZ e - (d + sn fi)) ≤ 0 by rw [show xZ e - (d + sn fi) = 0 by omega]; decide), hH9, hV9, if_pos hc11, Nat.mul_zero, Nat.add_zero]
                rw [hQ]
                have hw9 : (rw0 b cA cJ N (fSto f (pF t.1 d (sn fi) ((lo + 4294967296 * hg) / 256) 0) e) (ro z (kAns N ob (32 + fi / 16 % 2 * 16) (0 + 65536 * 0) 0)) ((pF t.1 d (sn fi) ((lo + 4294967296 * hg) / 256) 0), 0, nI e, 1 - (nI u), nI (d + (sn fi)), 0) (nSto e nd) (lN (lo + 4294967296 * hg)) 1 th) = r4 b cA cJ N z th (kWSeg N f ob tr nd fi ((lo + 4294967296 * hg) / 256) e d ad) (((pF t.1 d (sn fi) ((lo + 4294967296 * hg) / 256) 0), 0, nI e, 1 - (nI u), nI (d + (sn fi)), 0), (lN (lo + 4294967296 * hg)), 1) := by rw [hK9]; rfl
                have hr9 : rel2 (kWSeg N f ob tr nd fi ((lo + 4294967296 * hg) / 256) e d ad).2.2.1 ((pF t.1 d (sn fi) ((lo + 4294967296 * hg) / 256) 0), 0, nI e, 1 - (nI u), nI (d + (sn fi)), 0) := by rw [hK9]; exact rel_off (tr := (tr_add tr d (sn fi) ((lo + 4294967296 * hg) / 256))) he hsm9 hN1 rfl (by rw [hrh]; rfl) _
                exact W.vret hx hb hr (fun t9 ht hW => ⟨rfl, (((pF t.1 d (sn fi) ((lo + 4294967296 * hg) / 256) 0), 0, nI e, 1 - (nI u), nI (d + (sn fi)), 0), (lN (lo + 4294967296 * hg)), 1), hr9, by rw [ht, ← hw9]; exact hP, by rw [← hw9]; exact hD, hS.F ht⟩) hS.2.2 dX5_writeSegment_206
              · refine lv_aload_n hx hb dX5_writeSegment_160 rfl (lv_at hl 1 rfl) ?_
                refine lv_aload_n hx hb dX5_writeSegment_161 rfl (lv_at hl 1 rfl) ?_
                refine va_get (D := D) (ci := 5) (v := .int (nI e)) (fs := [.int th, .int N, .ref (b 1), .ref (b 2), .ref (b 3), .ref (b 4), .ref (b 5), .ref (b 6), .int 22, .int 95, .int nd.1, .int nd.2.2.1, .int nd.2.1, .long nd.2.2.2, .int 1, .int (nI e), .int (nI u), .int (nI (d + (sn fi))), .int t.2.2.2.2.2, .ref (b 7), .long (lN (lo + 4294967296 * hg)), .int 1, .ref (b 8), .ref (b 9), .ref (b 10), .int ((ro z ob).2.2.2.1), .int ((ro z ob).2.2.2.2)]) (C := RX5) (T := TX5) (N := 27) hx hb htb inX5 hown hK hP 0 rfl rfl 15 (by decide) (htb _ kF_X5_128) (fun _ h9 => h9) rfl dX5_writeSegment_162 ?_
                refine zb_cvi (va_runV (As := [.int (nI e)]) (rest := []) ⟨hx, hb, hml, hown, htb⟩ (r_storeNo1 l D b cA cJ N f z ob ((pF t.1 d (sn fi) ((lo + 4294967296 * hg) / 256) 0), 1, nI e, nI u, nI (d + (sn fi)), t.2.2.2.2.2) nd (lo + 4294967296 * hg) th _ e ad hB hBH he ho (tr_add tr d (sn fi) ((lo + 4294967296 * hg) / 256)) e (d + sn fi) hN9 hrel9 hc11) (cwV 1 htb (wb_V kM_X5_168 kI_X5_store kS_X5_store kN_X5 kD_X5_store) rfl rfl rfl (by decide +kernel) ⟨Nat.le_of_ble_eq_true rfl, Nat.le_of_ble_eq_true rfl⟩) (zp_VW 0 rfl rfl hP hD hK hSt hS hA hnw) rfl rfl hl.1 rfl (lv_room (Nat.le_of_ble_eq_true rfl)) dX5_writeSegment_165 ⟨Nat.le_of_ble_eq_true rfl, Nat.le_of_ble_eq_true rfl⟩) hD hS hA (fun H locs hP hD hS => ?_)
                have hP : va_P D vwCl (rw0 b cA cJ N f (ro z (kAns N ob 128 ad (stF nd.1 f e (sm (pF t.1 d (sn fi) ((lo + 4294967296 * hg) / 256) 0) 0 (min (xZ e) 4))))) ((pF t.1 d (sn fi) ((lo + 4294967296 * hg) / 256) 0), 0, nI e, nI u, nI (d + (sn fi)), t.2.2.2.2.2) nd (lN (lo + 4294967296 * hg)) 1 th) H := hP
                have hD : va_D A (rw0 b cA cJ N f (ro z (kAns N ob 128 ad (stF nd.1 f e (sm (pF t.1 d (sn fi) ((lo + 4294967296 * hg) / 256) 0) 0 (min (xZ e) 4))))) ((pF t.1 d (sn fi) ((lo + 4294967296 * hg) / 256) 0), 0, nI e, nI u, nI (d + (sn fi)), t.2.2.2.2.2) nd (lN (lo + 4294967296 * hg)) 1 th) := hD
                refine lv_if_ne (tgt := 172) hx hb dX5_writeSegment_168 (by decide) (fun hno => absurd (by decide) hno) (fun _ => ?_)
                have hs9 : sF tr fi 1 = 0 := sF_0 hg1 hw1 hfi hu2 htu hc5
                have hK9 : kWSeg N f ob tr nd fi ((lo + 4294967296 * hg) / 256) e d ad = (f, (kAns N ob 128 ad (stF nd.1 f e (sm (pF t.1 d (sn fi) ((lo + 4294967296 * hg) / 256) 0) 0 (min (xZ e) 4)))), tr_end (tr_add tr d (sn fi) ((lo + 4294967296 * hg) / 256)), nd) := by simp only [kWSeg, hs9, if_pos (show nI 0 = 0 from rfl), if_pos hsn9, if_neg hc9, if_pos (show nI (xZ e - (d + sn fi)) ≤ 0 by rw [show xZ e - (d + sn fi) = 0 by omega]; decide), hH9, hV9, if_neg hc11]; rfl
                rw [hQ]
                have hw9 : (rw0 b cA cJ N f (ro z (kAns N ob 128 ad (stF nd.1 f e (sm (pF t.1 d (sn fi) ((lo + 4294967296 * hg) / 256) 0) 0 (min (xZ e) 4))))) ((pF t.1 d (sn fi) ((lo + 4294967296 * hg) / 256) 0), 0, nI e, nI u, nI (d + (sn fi)), t.2.2.2.2.2) nd (lN (lo + 4294967296 * hg)) 1 th) = r4 b cA cJ N z th (kWSeg N f ob tr nd fi ((lo + 4294967296 * hg) / 256) e d ad) (((pF t.1 d (sn fi) ((lo + 4294967296 * hg) / 256) 0), 0, nI e, nI u, nI (d + (sn fi)), t.2.2.2.2.2), (lN (lo + 4294967296 * hg)), 1) := by rw [hK9]; rfl
                have hr9 : rel2 (kWSeg N f ob tr nd fi ((lo + 4294967296 * hg) / 256) e d ad).2.2.1 ((pF t.1 d (sn fi) ((lo + 4294967296 * hg) / 256) 0), 0, nI e, nI u, nI (d + (sn fi)), t.2.2.2.2.2) := by rw [hK9]; exact rel_off (tr := (tr_add tr d (sn fi) ((lo + 4294967296 * hg) / 256))) he hsm9 hN1 rfl (by rw [hrh]; rfl) _
                exact W.vret hx hb hr (fun t9 ht hW => ⟨rfl, (((pF t.1 d (sn fi) ((lo + 4294967296 * hg) / 256) 0), 0, nI e, nI u, nI (d + (sn fi)), t.2.2.2.2.2), (lN (lo + 4294967296 * hg)), 1), hr9, by rw [ht, ← hw9]; exact hP, by rw [← hw9]; exact hD, hS.F ht⟩) hS.2.2 dX5_writeSegment_171
            refine lv_aload_n hx hb dX5_writeSegment_148 rfl (lv_at hl 1 rfl) ?_
            refine lv_ldc (v := 101122067) hx hb hown (htb _ kK_X5_163) dX5_writeSegment_149 ?_
            refine lv_iconst (v := 1) hx hb dX5_writeSegment_151 (by decide) ?_
            refine zb_cv (va_runV (As := [.int 101122067, .int 1]) (rest := []) ⟨hx, hb, hml, hown, htb⟩ (r_abort1 l D b cA cJ N f z ob ((pF t.1 d (sn fi) ((lo + 4294967296 * hg) / 256) 0), 1, nI e, nI u, nI (d + (sn fi)), t.2.2.2.2.2) nd (lo + 4294967296 * hg) 1 th _ (tr_add tr d (sn fi) ((lo + 4294967296 * hg) / 256)) e (d + sn fi) ad 101122067 ho hN9 hrel9 (by decide)) (cwV 2 htb (wb_V kM_X5_152 kI_X5_abort kS_X5_abort kN_X5 kD_X5_abort) rfl rfl rfl (by decide +kernel) ⟨Nat.le_of_ble_eq_true rfl, Nat.le_of_ble_eq_true rfl⟩) (zp_VW 0 rfl rfl hP hD hK hSt hS hA hnw) rfl rfl hl.1 rfl (lv_room (Nat.le_of_ble_eq_true rfl)) dX5_writeSegment_152 ⟨Nat.le_of_ble_eq_true rfl, Nat.le_of_ble_eq_true rfl⟩) hD hS hA (fun H locs hP hD hS => ?_)
            have hP : va_P D vwCl (rw0 b cA cJ N f (ro z (kAns N ob 128 ad 101122067)) ((pF t.1 d (sn fi) ((lo + 4294967296 * hg) / 256) 0), 0, nI e, nI u, nI (d + (sn fi)), t.2.2.2.2.2) nd (lN (lo + 4294967296 * hg)) 1 th) H := hP
            have hD : va_D A (rw0 b cA cJ N f (ro z (kAns N ob 128 ad 101122067)) ((pF t.1 d (sn fi) ((lo + 4294967296 * hg) / 256) 0), 0, nI e, nI u, nI (d + (sn fi)), t.2.2.2.2.2) nd (lN (lo + 4294967296 * hg)) 1 th) := hD
            have hs9 : sF tr fi 1 = 0 := sF_0 hg1 hw1 hfi hu2 htu hc5
            have hK9 : kWSeg N f ob tr nd fi ((lo + 4294967296 * hg) / 256) e d ad = (f, (kAns N ob 128 ad 101122067), tr_end (tr_add tr d (sn fi) ((lo + 4294967296 * hg) / 256)), nd) := by simp only [kWSeg, hs9, if_pos (show nI 0 = 0 from rfl), if_pos hsn9, if_neg hc9, if_neg (show ¬ nI (xZ e - (d + sn fi)) ≤ 0 from nI_ge (a := 0) (by have h9 : ¬ xZ e ≤ d + sn fi := fun h => hc10 (nI_le h (by omega)); omega) (by omega))]; rfl
            rw [hQ]
            have hw9 : (rw0 b cA cJ N f (ro z (kAns N ob 128 ad 101122067)) ((pF t.1 d (sn fi) ((lo + 4294967296 * hg) / 256) 0), 0, nI e, nI u, nI (d + (sn fi)), t.2.2.2.2.2) nd (lN (lo + 4294967296 * hg)) 1 th) = r4 b cA cJ N z th (kWSeg N f ob tr nd fi ((lo + 4294967296 * hg) / 256) e d ad) (((pF t.1 d (sn fi) ((lo + 4294967296 * hg) / 256) 0), 0, nI e, nI u, nI (d + (sn fi)), t.2.2.2.2.2), (lN (lo + 4294967296 * hg)), 1) := by rw [hK9]; rfl
            have hr9 : rel2 (kWSeg N f ob tr nd fi ((lo + 4294967296 * hg) / 256) e d ad).2.2.1 ((pF t.1 d (sn fi) ((lo + 4294967296 * hg) / 256) 0), 0, nI e, nI u, nI (d + (sn fi)), t.2.2.2.2.2) := by rw [hK9]; exact rel_off (tr := (tr_add tr d (sn fi) ((lo + 4294967296 * hg) / 256))) he hsm9 hN1 rfl (by rw [hrh]; rfl) _
            exact W.vret hx hb hr (fun t9 ht hW => ⟨rfl, (((pF t.1 d (sn fi) ((lo + 4294967296 * hg) / 256) 0), 0, nI e, nI u, nI (d + (sn fi)), t.2.2.2.2.2), (lN (lo + 4294967296 * hg)), 1), hr9, by rw [ht, ← hw9]; exact hP, by rw [← hw9]; exact hD, hS.F ht⟩) hS.2.2 dX5_writeSegment_155
          | succ nn ih_lp =>
            intro k ls H locs hP hD hS hk_lp  hl
            have hk1_lp : k < sn fi := by omega
            refine lv_iload_n hx hb dX5_writeSegment_74 rfl (lv_at hl 3 rfl) ?_
            refine lv_iload_n hx hb dX5_writeSegment_75 rfl (lv_at hl 2 rfl) ?_
            refine lv_icmp_ge (tgt := 106) hx hb dX5_writeSegment_76 (by decide) (fun hno => absurd hno (nI_ge (a := k) (b := sn fi) hk1_lp (by omega))) (fun _ => ?_)
            refine lv_aload_n hx hb dX5_writeSegment_79 rfl (lv_at hl 0 rfl) ?_
            refine va_get (D := D) (ci := 5) (v := .ref (b 7)) (fs := [.int th, .int N, .ref (b 1), .ref (b 2), .ref (b 3), .ref (b 4), .ref (b 5), .ref (b 6), .int 22, .int 95, .int nd.1, .int nd.2.2.1, .int nd.2.1, .long nd.2.2.2, .int 1, .int (nI e), .int (nI u), .int (nI d), .int t.2.2.2.2.2, .ref (b 7), .long (lN (lo + 4294967296 * hg)), .int 1, .ref (b 8), .ref (b 9), .ref (b 10), .int ((ro z ob).2.2.2.1), .int ((ro z ob).2.2.2.2)]) (C := RX5) (T := TX5) (N := 27) hx hb htb inX5 hown hK hP 0 rfl rfl 19 (by decide) (htb _ kF_X5_28) (fun _ h9 => h9) rfl dX5_writeSegment_80 ?_
            refine lv_aload_n hx hb dX5_writeSegment_83 rfl (lv_at hl 0 rfl) ?_
            refine va_get (D := D) (ci := 5) (v := .int (nI d)) (fs := [.int th, .int N, .ref (b 1), .ref (b 2), .ref (b 3), .ref (b 4), .ref (b 5), .ref (b 6), .int 22, .int 95, .int nd.1, .int nd.2.2.1, .int nd.2.1, .long nd.2.2.2, .int 1, .int (nI e), .int (nI u), .int (nI d), .int t.2.2.2.2.2, .ref (b 7), .long (lN (lo + 4294967296 * hg)), .int 1, .ref (b 8), .ref (b 9), .ref (b 10), .int ((ro z ob).2.2.2.1), .int ((ro z ob).2.2.2.2)]) (C := RX5) (T := TX5) (N := 27) hx hb htb inX5 hown hK hP 0 rfl rfl 17 (by decide) (htb _ kF_X5_137) (fun _ h9 => h9) rfl dX5_writeSegment_84 ?_
            refine lv_iload_n hx hb dX5_writeSegment_87 rfl (lv_at hl 3 rfl) ?_
            refine lv_iadd hx hb dX5_writeSegment_88 ?_
            refine zb_ti (nI_add d (k)) ?_
            refine lv_aload_n hx hb dX5_writeSegment_89 rfl (lv_at hl 0 rfl) ?_
            refine va_get (D := D) (ci := 5) (v := .long (lN (lo + 4294967296 * hg))) (fs := [.int th, .int N, .ref (b 1), .ref (b 2), .ref (b 3), .ref (b 4), .ref (b 5), .ref (b 6), .int 22, .int 95, .int nd.1, .int nd.2.2.1, .int nd.2.1, .long nd.2.2.2, .int 1, .int (nI e), .int (nI u), .int (nI d), .int t.2.2.2.2.2, .ref (b 7), .long (lN (lo + 4294967296 * hg)), .int 1, .ref (b 8), .ref (b 9), .ref (b 10), .int ((ro z ob).2.2.2.1), .int ((ro z ob).2.2.2.2)]) (C := RX5) (T := TX5) (N := 27) hx hb htb inX5 hown hK hP 0 rfl rfl 20 (by decide) (htb _ kF_X5_123) (fun _ h9 => h9) rfl dX5_writeSegment_90 ?_
            refine lv_iconst (v := 1) hx hb dX5_writeSegment_93 (by decide) ?_
            refine lv_iload_n hx hb dX5_writeSegment_94 rfl (lv_at hl 3 rfl) ?_
            refine lv_iadd hx hb dX5_writeSegment_95 ?_
            refine zb_ti (nI_add 1 (k)) ?_
            refine zb_ci (va_runS (As := [.long (lN (lo + 4294967296 * hg)), .int (nI (1 + (k)))]) (rest := [.int (nI (d + (k))), .ref (b 7)]) ⟨hx, hb, hml, hown, htb⟩ (r_byteOf l D b cA cJ N f (ro z ob) ((pF t.1 d (k) ((lo + 4294967296 * hg) / 256) 0), 1, nI e, nI u, nI d, t.2.2.2.2.2) nd (lN (lo + 4294967296 * hg)) 1 th (lo + 4294967296 * hg) (1 + (k)) (by omega)) (va_cwS 2 htb (wb_S kM_X5_119 kZ_X5_byteOf kN_X5 kD_X5_byteOf) rfl rfl rfl (by decide +kernel) ⟨Nat.le_of_ble_eq_true rfl, Nat.le_of_ble_eq_true rfl⟩) (zp_S hP hK hSt hS hnw) rfl rfl hl.1 rfl (lv_room (Nat.le_of_ble_eq_true rfl)) dX5_writeSegment_96 ⟨Nat.le_of_ble_eq_true rfl, Nat.le_of_ble_eq_true rfl⟩) ?_
            refine zb_ti (y := nI (bN ((lo + 4294967296 * hg) / 256) (0 + k))) (by rw [show (lo + 4294967296 * hg) / 256 = (lo + 4294967296 * hg) / 2 ^ (8 * 1) from rfl, bN_sh, Nat.zero_add]) ?_
            refine va_iast (i := nI (d + (k))) (x := nI (bN ((lo + 4294967296 * hg) / 256) (0 + k))) hx hb hK hP hD hS 7 0 rfl rfl (vp_in_nI (by omega) (by decide)) dX5_writeSegment_99 (fun H locs hP hD hS => ?_)
            rw [nI_clamp (by omega)] at hP hD
            have hP : va_P D vwCl (rw0 b cA cJ N f (ro z ob) (upd (pF t.1 d (k) ((lo + 4294967296 * hg) / 256) 0) (d + (k)) (nI (bN ((lo + 4294967296 * hg) / 256) (0 + k))), 1, nI e, nI u, nI d, t.2.2.2.2.2) nd (lN (lo + 4294967296 * hg)) 1 th) H := hP
            have hD : va_D A (rw0 b cA cJ N f (ro z ob) (upd (pF t.1 d (k) ((lo + 4294967296 * hg) / 256) 0) (d + (k)) (nI (bN ((lo + 4294967296 * hg) / 256) (0 + k))), 1, nI e, nI u, nI d, t.2.2.2.2.2) nd (lN (lo + 4294967296 * hg)) 1 th) := hD
            rw [pF_up] at hP hD
            have hP : va_P D vwCl (rw0 b cA cJ N f (ro z ob) ((pF t.1 d (k + 1) ((lo + 4294967296 * hg) / 256) 0), 1, nI e, nI u, nI d, t.2.2.2.2.2) nd (lN (lo + 4294967296 * hg)) 1 th) H := hP
            have hD : va_D A (rw0 b cA cJ N f (ro z ob) ((pF t.1 d (k + 1) ((lo + 4294967296 * hg) / 256) 0), 1, nI e, nI u, nI d, t.2.2.2.2.2) nd (lN (lo + 4294967296 * hg)) 1 th) := hD
            refine lv_iinc (k := 3) (v := nI ((k) + 1)) hx hb dX5_writeSegment_100 hl rfl (nI_1 (k)) (by decide) rfl (fun ls hl => ?_)
            have hl : lv_has ls 4 [(3, .int (nI ((k) + 1))), (0, .ref (b 0)), (1, .int (nI fi)), (2, .int (nI (sn fi)))] := hl
            refine lv_goto (tgt := 74) hx hb dX5_writeSegment_103 (by decide) ?_
            exact ih_lp (k + 1) ls _ _ hP hD hS (by omega) (lv_sub hl [1, 2, 3, 0] rfl)
        exact lp (sn fi - 0) (0) ls _ _ hP hD hS (by omega) (lv_sub hl [2, 3, 1, 0] rfl)
      refine lv_aload_n hx hb dX5_writeSegment_64 rfl (lv_at hl 1 rfl) ?_
      refine lv_ldc (v := 101122066) hx hb hown (htb _ kK_X5_162) dX5_writeSegment_65 ?_
      refine lv_iconst (v := 1) hx hb dX5_writeSegment_67 (by decide) ?_
      refine zb_cv (va_runV (As := [.int 101122066, .int 1]) (rest := []) ⟨hx, hb, hml, hown, htb⟩ (r_abort1 l D b cA cJ N f z ob (t.1, 1, nI e, nI u, nI d, t.2.2.2.2.2) nd (lo + 4294967296 * hg) 1 th _ tr e d ad 101122066 ho hN (by rw [← hw2, ← hen, ← hdu, ← hdn]; exact hrel0) (by decide)) (cwV 2 htb (wb_V kM_X5_152 kI_X5_abort kS_X5_abort kN_X5 kD_X5_abort) rfl rfl rfl (by decide +kernel) ⟨Nat.le_of_ble_eq_true rfl, Nat.le_of_ble_eq_true rfl⟩) (zp_VW 0 rfl rfl hP hD hK hSt hS hA hnw) rfl rfl hl.1 rfl (lv_room (Nat.le_of_ble_eq_true rfl)) dX5_writeSegment_68 ⟨Nat.le_of_ble_eq_true rfl, Nat.le_of_ble_eq_true rfl⟩) hD hS hA (fun H locs hP hD hS => ?_)
      have hP : va_P D vwCl (rw0 b cA cJ N f (ro z (kAns N ob 128 ad 101122066)) (t.1, 0, nI e, nI u, nI d, t.2.2.2.2.2) nd (lN (lo + 4294967296 * hg)) 1 th) H := hP
      have hD : va_D A (rw0 b cA cJ N f (ro z (kAns N ob 128 ad 101122066)) (t.1, 0, nI e, nI u, nI d, t.2.2.2.2.2) nd (lN (lo + 4294967296 * hg)) 1 th) := hD
      have hs9 : sF tr fi 1 = 0 := sF_0 hg1 hw1 hfi hu2 htu hc5
      have hK9 : kWSeg N f ob tr nd fi ((lo + 4294967296 * hg) / 256) e d ad = (f, (kAns N ob 128 ad 101122066), tr_end tr, nd) := by simp only [kWSeg, hs9, if_pos (show nI 0 = 0 from rfl), if_neg (show ¬ sn fi ≤ xZ e - d by have h9 : ¬ d + sn fi ≤ xZ e := fun h => hc6 (nI_le h (by omega)); omega)]; rfl
      rw [hQ]
      have hw9 : (rw0 b cA cJ N f (ro z (kAns N ob 128 ad 101122066)) (t.1, 0, nI e, nI u, nI d, t.2.2.2.2.2) nd (lN (lo + 4294967296 * hg)) 1 th) = r4 b cA cJ N z th (kWSeg N f ob tr nd fi ((lo + 4294967296 * hg) / 256) e d ad) ((t.1, 0, nI e, nI u, nI d, t.2.2.2.2.2), (lN (lo + 4294967296 * hg)), 1) := by rw [hK9]; rfl
      have hr9 : rel2 (kWSeg N f ob tr nd fi ((lo + 4294967296 * hg) / 256) e d ad).2.2.1 (t.1, 0, nI e, nI u, nI d, t.2.2.2.2.2) := by rw [hK9]; exact rel_off he hd hN1 hN2 hrh _
      exact W.vret hx hb hr (fun t9 ht hW => ⟨rfl, ((t.1, 0, nI e, nI u, nI d, t.2.2.2.2.2), (lN (lo + 4294967296 * hg)), 1), hr9, by rw [ht, ← hw9]; exact hP, by rw [← hw9]; exact hD, hS.F ht⟩) hS.2.2 dX5_writeSegment_71
    refine lv_aload_n hx hb dX5_writeSegment_28 rfl (lv_at hl 0 rfl) ?_
    refine lv_ldc (v := 84082688) hx hb hown (htb _ kK_X5_173) dX5_writeSegment_29 ?_
    refine lv_iconst (v := 1) hx hb dX5_writeSegment_31 (by decide) ?_
    refine zb_cv (va_runV (As := [.int 84082688, .int 1]) (rest := []) ⟨hx, hb, hml, hown, htb⟩ (r_abort1 l D b cA cJ N f z ob (t.1, 1, nI e, nI u, nI d, t.2.2.2.2.2) nd (lo + 4294967296 * hg) 1 th _ tr e d ad 84082688 ho hN (by rw [← hw2, ← hen, ← hdu, ← hdn]; exact hrel0) (by decide)) (cwV 2 htb (wb_V kM_X5_152 kI_X5_abort kS_X5_abort kN_X5 kD_X5_abort) rfl rfl rfl (by decide +kernel) ⟨Nat.le_of_ble_eq_true rfl, Nat.le_of_ble_eq_true rfl⟩) (zp_VW 0 rfl rfl hP hD hK hSt hS hA hnw) rfl rfl hl.1 rfl (lv_room (Nat.le_of_ble_eq_true rfl)) dX5_writeSegment_32 ⟨Nat.le_of_ble_eq_true rfl, Nat.le_of_ble_eq_true rfl⟩) hD hS hA (fun H locs hP hD hS => ?_)
    have hP : va_P D vwCl (rw0 b cA cJ N f (ro z (kAns N ob 128 ad 84082688)) (t.1, 0, nI e, nI u, nI d, t.2.2.2.2.2) nd (lN (lo + 4294967296 * hg)) 1 th) H := hP
    have hD : va_D A (rw0 b cA cJ N f (ro z (kAns N ob 128 ad 84082688)) (t.1, 0, nI e, nI u, nI d, t.2.2.2.2.2) nd (lN (lo + 4294967296 * hg)) 1 th) := hD
    have hs9 : sF tr fi 1 = 84082688 := sF_t hg1 hw1 hfi hu2 htu hc5
    have hK9 : kWSeg N f ob tr nd fi ((lo + 4294967296 * hg) / 256) e d ad = (f, (kAns N ob 128 ad 84082688), tr_end tr, nd) := by simp only [kWSeg, hs9]; rfl
    rw [hQ]
    have hw9 : (rw0 b cA cJ N f (ro z (kAns N ob 128 ad 84082688)) (t.1, 0, nI e, nI u, nI d, t.2.2.2.2.2) nd (lN (lo + 4294967296 * hg)) 1 th) = r4 b cA cJ N z th (kWSeg N f ob tr nd fi ((lo + 4294967296 * hg) / 256) e d ad) ((t.1, 0, nI e, nI u, nI d, t.2.2.2.2.2), (lN (lo + 4294967296 * hg)), 1) := by rw [hK9]; rfl
    have hr9 : rel2 (kWSeg N f ob tr nd fi ((lo + 4294967296 * hg) / 256) e d ad).2.2.1 (t.1, 0, nI e, nI u, nI d, t.2.2.2.2.2) := by rw [hK9]; exact rel_off he hd hN1 hN2 hrh _
    exact W.vret hx hb hr (fun t9 ht hW => ⟨rfl, ((t.1, 0, nI e, nI u, nI d, t.2.2.2.2.2), (lN (lo + 4294967296 * hg)), 1), hr9, by rw [ht, ← hw9]; exact hP, by rw [← hw9]; exact hD, hS.F ht⟩) hS.2.2 dX5_writeSegment_35
  · refine lv_aload_n hx hb dX5_writeSegment_0 rfl (lv_at hl 0 rfl) ?_
    refine va_get (D := D) (ci := 5) (v := .int t.2.1) (fs := [.int th, .int N, .ref (b 1), .ref (b 2), .ref (b 3), .ref (b 4), .ref (b 5), .ref (b 6), .int 22, .int 95, .int nd.1, .int nd.2.2.1, .int nd.2.1, .long nd.2.2.2, .int t.2.1, .int t.2.2.1, .int t.2.2.2.1, .int t.2.2.2.2.1, .int t.2.2.2.2.2, .ref (b 7), .long (lN (lo + 4294967296 * hg)), .int 1, .ref (b 8), .ref (b 9), .ref (b 10), .int ((ro z ob).2.2.2.1), .int ((ro z ob).2.2.2.2)]) (C := RX5) (T := TX5) (N := 27) hx hb htb inX5 hown hK hP 0 rfl rfl 14 (by decide) (htb _ kF_X5_85) (fun _ h9 => h9) rfl dX5_writeSegment_1 ?_
    refine lv_iconst (v := 1) hx hb dX5_writeSegment_4 (by decide) ?_
    refine lv_icmp_eq (tgt := 16) hx hb dX5_writeSegment_5 (by decide) (fun hno => absurd hno (by rw [hw2]; decide)) (fun _ => ?_)
    refine lv_aload_n hx hb dX5_writeSegment_8 rfl (lv_at hl 0 rfl) ?_
    refine lv_ldc (v := 84148225) hx hb hown (htb _ kK_X5_172) dX5_writeSegment_9 ?_
    refine lv_iconst (v := 1) hx hb dX5_writeSegment_11 (by decide) ?_
    refine zb_cv (va_runV (As := [.int 84148225, .int 1]) (rest := []) ⟨hx, hb, hml, hown, htb⟩ (r_abort1 l D b cA cJ N f z ob t nd (lo + 4294967296 * hg) 1 th _ tr e d ad 84148225 ho hN (hrel0) (by decide)) (cwV 2 htb (wb_V kM_X5_152 kI_X5_abort kS_X5_abort kN_X5 kD_X5_abort) rfl rfl rfl (by decide +kernel) ⟨Nat.le_of_ble_eq_true rfl, Nat.le_of_ble_eq_true rfl⟩) (zp_VW 0 rfl rfl hP hD hK hSt hS hA hnw) rfl rfl hl.1 rfl (lv_room (Nat.le_of_ble_eq_true rfl)) dX5_writeSegment_12 ⟨Nat.le_of_ble_eq_true rfl, Nat.le_of_ble_eq_true rfl⟩) hD hS hA (fun H locs hP hD hS => ?_)
    have hP : va_P D vwCl (rw0 b cA cJ N f (ro z (kAns N ob 128 ad 84148225)) (t.1, 0, t.2.2.1, t.2.2.2.1, t.2.2.2.2.1, t.2.2.2.2.2) nd (lN (lo + 4294967296 * hg)) 1 th) H := hP
    have hD : va_D A (rw0 b cA cJ N f (ro z (kAns N ob 128 ad 84148225)) (t.1, 0, t.2.2.1, t.2.2.2.1, t.2.2.2.2.1, t.2.2.2.2.2) nd (lN (lo + 4294967296 * hg)) 1 th) := hD
    have hs9 : sF tr fi 1 = 84148225 := sF_w hg1 (by rw [hw1]; decide)
    have hK9 : kWSeg N f ob tr nd fi ((lo + 4294967296 * hg) / 256) e d ad = (f, (kAns N ob 128 ad 84148225), tr_end tr, nd) := by simp only [kWSeg, hs9]; rfl
    rw [hQ]
    have hw9 : (rw0 b cA cJ N f (ro z (kAns N ob 128 ad 84148225)) (t.1, 0, t.2.2.1, t.2.2.2.1, t.2.2.2.2.1, t.2.2.2.2.2) nd (lN (lo + 4294967296 * hg)) 1 th) = r4 b cA cJ N z th (kWSeg N f ob tr nd fi ((lo + 4294967296 * hg) / 256) e d ad) ((t.1, 0, t.2.2.1, t.2.2.2.1, t.2.2.2.2.1, t.2.2.2.2.2), (lN (lo + 4294967296 * hg)), 1) := by rw [hK9]; rfl
    have hr9 : rel2 (kWSeg N f ob tr nd fi ((lo + 4294967296 * hg) / 256) e d ad).2.2.1 (t.1, 0, t.2.2.1, t.2.2.2.1, t.2.2.2.2.1, t.2.2.2.2.2) := by rw [hK9]; exact rel_off he hd hN1 hN2 hrh _
    exact W.vret hx hb hr (fun t9 ht hW => ⟨rfl, ((t.1, 0, t.2.2.1, t.2.2.2.1, t.2.2.2.2.1, t.2.2.2.2.2), (lN (lo + 4294967296 * hg)), 1), hr9, by rw [ht, ← hw9]; exact hP, by rw [← hw9]; exact hD, hS.F ht⟩) hS.2.2 dX5_writeSegment_15
set_option maxHeartbeats 4000000 in
set_option maxRecDepth 100000 in
theorem r_rseg (l : Launch) (D : va_G) (b : Nat → Nat) (cA cJ : ClassId) (N : Int32) (f : Nat → Int32) (z : Int32) (ob : OB) (t : RT) (nd : ND) (lo hg : Nat) (th : Int32) (sz : Nat) (tr : TR) (fi e d ad : Nat) (hB : isB f) (hBh : isB t.1) (ho : obK ob) (hlo : lo < 2 ^ 32) (hhg : hg < 2 ^ 32) (hfi : fi < 256) (hN : trN tr e d ad) (hrel : rel tr t e d ad) : Met l yX5_readSegment (wX5_readSegment :: wb) ({ frames := 3, cells := 0, slots := 0, locals := 72 } : Room) (va_Pc [.ref (b 0), .int (nI fi)] (zPre D [(cA, .int), (cJ, .long)] (rw0 b cA cJ N f (ro z ob) t nd (lN (lo + 4294967296 * hg)) 1 th) sz)) (zb_E none D vwCl (r4 b cA cJ N z th (kRSeg N f ob tr nd fi e d ad)) (fun y => rel2 (kRSeg N f ob tr nd fi e d ad).2.2.1 y.1) (va_A (rw0 b cA cJ N f (ro z ob) t nd (lN (lo + 4294967296 * hg)) 1 th) sz)) 0 0 (va_A (rw0 b cA cJ N f (ro z ob) t nd (lN (lo + 4294967296 * hg)) 1 th) sz) := by
  refine Met.ofW (cc := cX5_readSegment) (maxL := 6) (ret := none) (by decide) rfl ?_
  intro p ev s m args below meth c s₁ B hml hv
  obtain ⟨rfl, hsz, hP, hK, hD0, hSt, hnw⟩ := hv
  have hx := B.exec
  have hb := B.bytes
  have hr := B.returns
  have hts := atoms_spec (ws := wX5_readSegment :: wb) B.pre
  have htb : ∀ w ∈ wb, w.before ([.ref (b 0), .int (nI fi)]).toArray s = true := fun w h => hts w (List.mem_cons_of_mem _ h)
  have hown : s.vm.findClass RX5 = some m.cls := findClass_of_methodNamed B.named
  have hlocks := B.notSynchronized
  subst hsz
  have hD := hD0.self (sz := s.heap.size)
  clear hD0
  generalize hAe : va_A (rw0 b cA cJ N f (ro z ob) t nd (lN (lo + 4294967296 * hg)) 1 th) s.heap.size = A at hD hSt ⊢
  have hA : ∀ q : Nat, s.heap.size ≤ q → A q := fun q h => by rw [← hAe]; exact Or.inr h
  have hS : va_S A s.heap s.heap [] := va_S.rf
  obtain ⟨⟨tt, ff, hZT, hTT, hZF, hTF⟩, hXS⟩ := id hSt
  have hl := lv_entry ([.ref (b 0), .int (nI fi)]) (n := 6) (Nat.le_of_ble_eq_true rfl)
  rw [lg_entry_eq]
  generalize (lg_sl ([.ref (b 0), .int (nI fi)]) ++ List.replicate (6 - (lg_sl ([.ref (b 0), .int (nI fi)])).length) Slot.unset).toArray = ls at hl ⊢
  have hl : lv_has ls 6 [(0, .ref (b 0)), (1, .int (nI fi))] := hl
  refine zb_abs (fun Q hQ => ?_)
  obtain ⟨kp, hkp32, hkp⟩ := id ho
  have hrel0 := hrel
  obtain ⟨hrh, ⟨hg0, ht0, hz0⟩ | ⟨hg1, ⟨hw1, hw2⟩ | ⟨hw1, hw2⟩, hen, hadd, ⟨u, hu2, hdu, htu⟩, hdn, htk⟩⟩ := hrel
  all_goals obtain ⟨he, hd, hN1, hN2, hN3, had⟩ := id hN
  all_goals have hft := x_fit e he
  · refine lv_aload_n hx hb dX5_readSegment_0 rfl (lv_at hl 0 rfl) ?_
    refine va_get (D := D) (ci := 5) (v := .int t.2.1) (fs := [.int th, .int N, .ref (b 1), .ref (b 2), .ref (b 3), .ref (b 4), .ref (b 5), .ref (b 6), .int 22, .int 95, .int nd.1, .int nd.2.2.1, .int nd.2.1, .long nd.2.2.2, .int t.2.1, .int t.2.2.1, .int t.2.2.2.1, .int t.2.2.2.2.1, .int t.2.2.2.2.2, .ref (b 7), .long (lN (lo + 4294967296 * hg)), .int 1, .ref (b 8), .ref (b 9), .ref (b 10), .int ((ro z ob).2.2.2.1), .int ((ro z ob).2.2.2.2)]) (C := RX5) (T := TX5) (N := 27) hx hb htb inX5 hown hK hP 0 rfl rfl 14 (by decide) (htb _ kF_X5_85) (fun _ h9 => h9) rfl dX5_readSegment_1 ?_
    refine lv_iconst (v := 2) hx hb dX5_readSegment_4 (by decide) ?_
    refine lv_icmp_eq (tgt := 16) hx hb dX5_readSegment_5 (by decide) (fun hno => absurd hno (by rw [ht0]; decide)) (fun _ => ?_)
    refine lv_aload_n hx hb dX5_readSegment_8 rfl (lv_at hl 0 rfl) ?_
    refine lv_ldc (v := 84148225) hx hb hown (htb _ kK_X5_172) dX5_readSegment_9 ?_
    refine lv_iconst (v := 1) hx hb dX5_readSegment_11 (by decide) ?_
    refine zb_cv (va_runV (As := [.int 84148225, .int 1]) (rest := []) ⟨hx, hb, hml, hown, htb⟩ (r_abort1 l D b cA cJ N f z ob t nd (lo + 4294967296 * hg) 1 th _ tr e d ad 84148225 ho hN (hrel0) (by decide)) (cwV 2 htb (wb_V kM_X5_152 kI_X5_abort kS_X5_abort kN_X5 kD_X5_abort) rfl rfl rfl (by decide +kernel) ⟨Nat.le_of_ble_eq_true rfl, Nat.le_of_ble_eq_true rfl⟩) (zp_VW 0 rfl rfl hP hD hK hSt hS hA hnw) rfl rfl hl.1 rfl (lv_room (Nat.le_of_ble_eq_true rfl)) dX5_readSegment_12 ⟨Nat.le_of_ble_eq_true rfl, Nat.le_of_ble_eq_true rfl⟩) hD hS hA (fun H locs hP hD hS => ?_)
    have hP : va_P D vwCl (rw0 b cA cJ N f (ro z (kAns N ob 128 ad 84148225)) (t.1, 0, t.2.2.1, t.2.2.2.1, t.2.2.2.2.1, t.2.2.2.2.2) nd (lN (lo + 4294967296 * hg)) 1 th) H := hP
    have hD : va_D A (rw0 b cA cJ N f (ro z (kAns N ob 128 ad 84148225)) (t.1, 0, t.2.2.1, t.2.2.2.1, t.2.2.2.2.1, t.2.2.2.2.2) nd (lN (lo + 4294967296 * hg)) 1 th) := hD
    have hs9 : sF tr fi 0 = 84148225 := sF_n hg0
    have hK9 : kRSeg N f ob tr nd fi e d ad = (f, (kAns N ob 128 ad 84148225), tr_end tr, nd) := by simp only [kRSeg, hs9]; rfl
    rw [hQ]
    have hw9 : (rw0 b cA cJ N f (ro z (kAns N ob 128 ad 84148225)) (t.1, 0, t.2.2.1, t.2.2.2.1, t.2.2.2.2.1, t.2.2.2.2.2) nd (lN (lo + 4294967296 * hg)) 1 th) = r4 b cA cJ N z th (kRSeg N f ob tr nd fi e d ad) ((t.1, 0, t.2.2.1, t.2.2.2.1, t.2.2.2.2.1, t.2.2.2.2.2), (lN (lo + 4294967296 * hg)), 1) := by rw [hK9]; rfl
    have hr9 : rel2 (kRSeg N f ob tr nd fi e d ad).2.2.1 (t.1, 0, t.2.2.1, t.2.2.2.1, t.2.2.2.2.1, t.2.2.2.2.2) := by rw [hK9]; exact rel_off he hd hN1 hN2 hrh _
    exact W.vret hx hb hr (fun t9 ht hW => ⟨rfl, ((t.1, 0, t.2.2.1, t.2.2.2.1, t.2.2.2.2.1, t.2.2.2.2.2), (lN (lo + 4294967296 * hg)), 1), hr9, by rw [ht, ← hw9]; exact hP, by rw [← hw9]; exact hD, hS.F ht⟩) hS.2.2 dX5_readSegment_15
  · refine lv_aload_n hx hb dX5_readSegment_0 rfl (lv_at hl 0 rfl) ?_
    refine va_get (D := D) (ci := 5) (v := .int t.2.1) (fs := [.int th, .int N, .ref (b 1), .ref (b 2), .ref (b 3), .ref (b 4), .ref (b 5), .ref (b 6), .int 22, .int 95, .int nd.1, .int nd.2.2.1, .int nd.2.1, .long nd.2.2.2, .int t.2.1, .int t.2.2.1, .int t.2.2.2.1, .int t.2.2.2.2.1, .int t.2.2.2.2.2, .ref (b 7), .long (lN (lo + 4294967296 * hg)), .int 1, .ref (b 8), .ref (b 9), .ref (b 10), .int ((ro z ob).2.2.2.1), .int ((ro z ob).2.2.2.2)]) (C := RX5) (T := TX5) (N := 27) hx hb htb inX5 hown hK hP 0 rfl rfl 14 (by decide) (htb _ kF_X5_85) (fun _ h9 => h9) rfl dX5_readSegment_1 ?_
    refine lv_iconst (v := 2) hx hb dX5_readSegment_4 (by decide) ?_
    refine lv_icmp_eq (tgt := 16) hx hb dX5_readSegment_5 (by decide) (fun hno => absurd hno (by rw [hw2]; decide)) (fun _ => ?_)
    refine lv_aload_n hx hb dX5_readSegment_8 rfl (lv_at hl 0 rfl) ?_
    refine lv_ldc (v := 84148225) hx hb hown (htb _ kK_X5_172) dX5_readSegment_9 ?_
    refine lv_iconst (v := 1) hx hb dX5_readSegment_11 (by decide) ?_
    refine zb_cv (va_runV (As := [.int 84148225, .int 1]) (rest := []) ⟨hx, hb, hml, hown, htb⟩ (r_abort1 l D b cA cJ N f z ob t nd (lo + 4294967296 * hg) 1 th _ tr e d ad 84148225 ho hN (hrel0) (by decide)) (cwV 2 htb (wb_V kM_X5_152 kI_X5_abort kS_X5_abort kN_X5 kD_X5_abort) rfl rfl rfl (by decide +kernel) ⟨Nat.le_of_ble_eq_true rfl, Nat.le_of_ble_eq_true rfl⟩) (zp_VW 0 rfl rfl hP hD hK hSt hS hA hnw) rfl rfl hl.1 rfl (lv_room (Nat.le_of_ble_eq_true rfl)) dX5_readSegment_12 ⟨Nat.le_of_ble_eq_true rfl, Nat.le_of_ble_eq_true rfl⟩) hD hS hA (fun H locs hP hD hS => ?_)
    have hP : va_P D vwCl (rw0 b cA cJ N f (ro z (kAns N ob 128 ad 84148225)) (t.1, 0, t.2.2.1, t.2.2.2.1, t.2.2.2.2.1, t.2.2.2.2.2) nd (lN (lo + 4294967296 * hg)) 1 th) H := hP
    have hD : va_D A (rw0 b cA cJ N f (ro z (kAns N ob 128 ad 84148225)) (t.1, 0, t.2.2.1, t.2.2.2.1, t.2.2.2.2.1, t.2.2.2.2.2) nd (lN (lo + 4294967296 * hg)) 1 th) := hD
    have hs9 : sF tr fi 0 = 84148225 := sF_w hg1 (by rw [hw1]; decide)
    have hK9 : kRSeg N f ob tr nd fi e d ad = (f, (kAns N ob 128 ad 84148225), tr_end tr, nd) := by simp only [kRSeg, hs9]; rfl
    rw [hQ]
    have hw9 : (rw0 b cA cJ N f (ro z (kAns N ob 128 ad 84148225)) (t.1, 0, t.2.2.1, t.2.2.2.1, t.2.2.2.2.1, t.2.2.2.2.2) nd (lN (lo + 4294967296 * hg)) 1 th) = r4 b cA cJ N z th (kRSeg N f ob tr nd fi e d ad) ((t.1, 0, t.2.2.1, t.2.2.2.1, t.2.2.2.2.1, t.2.2.2.2.2), (lN (lo + 4294967296 * hg)), 1) := by rw [hK9]; rfl
    have hr9 : rel2 (kRSeg N f ob tr nd fi e d ad).2.2.1 (t.1, 0, t.2.2.1, t.2.2.2.1, t.2.2.2.2.1, t.2.2.2.2.2) := by rw [hK9]; exact rel_off he hd hN1 hN2 hrh _
    exact W.vret hx hb hr (fun t9 ht hW => ⟨rfl, ((t.1, 0, t.2.2.1, t.2.2.2.1, t.2.2.2.2.1, t.2.2.2.2.2), (lN (lo + 4294967296 * hg)), 1), hr9, by rw [ht, ← hw9]; exact hP, by rw [← hw9]; exact hD, hS.F ht⟩) hS.2.2 dX5_readSegment_15
  · have e1 : (t.2.1 : Int32) = 2 := hw2
    have hP : va_P D vwCl (rw0 b cA cJ N f (ro z ob) (t.1, 2, t.2.2.1, t.2.2.2.1, t.2.2.2.2.1, t.2.2.2.2.2) nd (lN (lo + 4294967296 * hg)) 1 th) _ := Eq.mp (congrArg (fun zz9 : Int32 => va_P D vwCl (rw0 b cA cJ N f (ro z ob) (t.1, zz9, t.2.2.1, t.2.2.2.1, t.2.2.2.2.1, t.2.2.2.2.2) nd (lN (lo + 4294967296 * hg)) 1 th) _) e1) hP
    have hD : va_D A (rw0 b cA cJ N f (ro z ob) (t.1, 2, t.2.2.1, t.2.2.2.1, t.2.2.2.2.1, t.2.2.2.2.2) nd (lN (lo + 4294967296 * hg)) 1 th) := Eq.mp (congrArg (fun zz9 : Int32 => va_D A (rw0 b cA cJ N f (ro z ob) (t.1, zz9, t.2.2.1, t.2.2.2.1, t.2.2.2.2.1, t.2.2.2.2.2) nd (lN (lo + 4294967296 * hg)) 1 th)) e1) hD
    have e2 : (t.2.2.1 : Int32) = nI e := hen
    have hP : va_P D vwCl (rw0 b cA cJ N f (ro z ob) (t.1, 2, nI e, t.2.2.2.1, t.2.2.2.2.1, t.2.2.2.2.2) nd (lN (lo + 4294967296 * hg)) 1 th) _ := Eq.mp (congrArg (fun zz9 : Int32 => va_P D vwCl (rw0 b cA cJ N f (ro z ob) (t.1, 2, zz9, t.2.2.2.1, t.2.2.2.2.1, t.2.2.2.2.2) nd (lN (lo + 4294967296 * hg)) 1 th) _) e2) hP
    have hD : va_D A (rw0 b cA cJ N f (ro z ob) (t.1, 2, nI e, t.2.2.2.1, t.2.2.2.2.1, t.2.2.2.2.2) nd (lN (lo + 4294967296 * hg)) 1 th) := Eq.mp (congrArg (fun zz9 : Int32 => va_D A (rw0 b cA cJ N f (ro z ob) (t.1, 2, zz9, t.2.2.2.1, t.2.2.2.2.1, t.2.2.2.2.2) nd (lN (lo + 4294967296 * hg)) 1 th)) e2) hD
    have e3 : (t.2.2.2.1 : Int32) = nI u := hdu
    have hP : va_P D vwCl (rw0 b cA cJ N f (ro z ob) (t.1, 2, nI e, nI u, t.2.2.2.2.1, t.2.2.2.2.2) nd (lN (lo + 4294967296 * hg)) 1 th) _ := Eq.mp (congrArg (fun zz9 : Int32 => va_P D vwCl (rw0 b cA cJ N f (ro z ob) (t.1, 2, nI e, zz9, t.2.2.2.2.1, t.2.2.2.2.2) nd (lN (lo + 4294967296 * hg)) 1 th) _) e3) hP
    have hD : va_D A (rw0 b cA cJ N f (ro z ob) (t.1, 2, nI e, nI u, t.2.2.2.2.1, t.2.2.2.2.2) nd (lN (lo + 4294967296 * hg)) 1 th) := Eq.mp (congrArg (fun zz9 : Int32 => va_D A (rw0 b cA cJ N f (ro z ob) (t.1, 2, nI e, zz9, t.2.2.2.2.1, t.2.2.2.2.2) nd (lN (lo + 4294967296 * hg)) 1 th)) e3) hD
    have e4 : (t.2.2.2.2.1 : Int32) = nI d := hdn
    have hP : va_P D vwCl (rw0 b cA cJ N f (ro z ob) (t.1, 2, nI e, nI u, nI d, t.2.2.2.2.2) nd (lN (lo + 4294967296 * hg)) 1 th) _ := Eq.mp (congrArg (fun zz9 : Int32 => va_P D vwCl (rw0 b cA cJ N f (ro z ob) (t.1, 2, nI e, nI u, zz9, t.2.2.2.2.2) nd (lN (lo + 4294967296 * hg)) 1 th) _) e4) hP
    have hD : va_D A (rw0 b cA cJ N f (ro z ob) (t.1, 2, nI e, nI u, nI d, t.2.2.2.2.2) nd (lN (lo + 4294967296 * hg)) 1 th) := Eq.mp (congrArg (fun zz9 : Int32 => va_D A (rw0 b cA cJ N f (ro z ob) (t.1, 2, nI e, nI u, zz9, t.2.2.2.2.2) nd (lN (lo + 4294967296 * hg)) 1 th)) e4) hD
    refine lv_aload_n hx hb dX5_readSegment_0 rfl (lv_at hl 0 rfl) ?_
    refine va_get (D := D) (ci := 5) (v := .int 2) (fs := [.int th, .int N, .ref (b 1), .ref (b 2), .ref (b 3), .ref (b 4), .ref (b 5), .ref (b 6), .int 22, .int 95, .int nd.1, .int nd.2.2.1, .int nd.2.1, .long nd.2.2.2, .int 2, .int (nI e), .int (nI u), .int (nI d), .int t.2.2.2.2.2, .ref (b 7), .long (lN (lo + 4294967296 * hg)), .int 1, .ref (b 8), .ref (b 9), .ref (b 10), .int ((ro z ob).2.2.2.1), .int ((ro z ob).2.2.2.2)]) (C := RX5) (T := TX5) (N := 27) hx hb htb inX5 hown hK hP 0 rfl rfl 14 (by decide) (htb _ kF_X5_85) (fun _ h9 => h9) rfl dX5_readSegment_1 ?_
    refine lv_iconst (v := 2) hx hb dX5_readSegment_4 (by decide) ?_
    refine lv_icmp_eq (tgt := 16) hx hb dX5_readSegment_5 (by decide) (fun _ => ?_) (fun hno => absurd (by decide) hno)
    refine lv_iload_n hx hb dX5_readSegment_16 rfl (lv_at hl 1 rfl) ?_
    refine lv_iconst (v := 4) hx hb dX5_readSegment_17 (by decide) ?_
    refine lv_ishr hx hb dX5_readSegment_18 ?_
    refine lv_iconst (v := 1) hx hb dX5_readSegment_19 (by decide) ?_
    refine lv_iand hx hb dX5_readSegment_20 ?_
    refine zb_ti (y := nI (fi / 16 % 2)) (f41 fi hfi) ?_
    refine lv_aload_n hx hb dX5_readSegment_21 rfl (lv_at hl 0 rfl) ?_
    refine va_get (D := D) (ci := 5) (v := .int (nI u)) (fs := [.int th, .int N, .ref (b 1), .ref (b 2), .ref (b 3), .ref (b 4), .ref (b 5), .ref (b 6), .int 22, .int 95, .int nd.1, .int nd.2.2.1, .int nd.2.1, .long nd.2.2.2, .int 2, .int (nI e), .int (nI u), .int (nI d), .int t.2.2.2.2.2, .ref (b 7), .long (lN (lo + 4294967296 * hg)), .int 1, .ref (b 8), .ref (b 9), .ref (b 10), .int ((ro z ob).2.2.2.1), .int ((ro z ob).2.2.2.2)]) (C := RX5) (T := TX5) (N := 27) hx hb htb inX5 hown hK hP 0 rfl rfl 16 (by decide) (htb _ kF_X5_134) (fun _ h9 => h9) rfl dX5_readSegment_22 ?_
    refine lv_icmp_eq (tgt := 36) hx hb dX5_readSegment_25 (by decide) (fun hc5 => ?_) (fun hc5 => ?_)
    · refine lv_aload_n hx hb dX5_readSegment_36 rfl (lv_at hl 0 rfl) ?_
      refine va_get (D := D) (ci := 5) (v := .ref (b 3)) (fs := [.int th, .int N, .ref (b 1), .ref (b 2), .ref (b 3), .ref (b 4), .ref (b 5), .ref (b 6), .int 22, .int 95, .int nd.1, .int nd.2.2.1, .int nd.2.1, .long nd.2.2.2, .int 2, .int (nI e), .int (nI u), .int (nI d), .int t.2.2.2.2.2, .ref (b 7), .long (lN (lo + 4294967296 * hg)), .int 1, .ref (b 8), .ref (b 9), .ref (b 10), .int ((ro z ob).2.2.2.1), .int ((ro z ob).2.2.2.2)]) (C := RX5) (T := TX5) (N := 27) hx hb htb inX5 hown hK hP 0 rfl rfl 4 (by decide) (htb _ kF_X5_16) (fun _ h9 => h9) rfl dX5_readSegment_37 ?_
      refine lv_aload_n hx hb dX5_readSegment_40 rfl (lv_at hl 0 rfl) ?_
      refine va_get (D := D) (ci := 5) (v := .int (nI e)) (fs := [.int th, .int N, .ref (b 1), .ref (b 2), .ref (b 3), .ref (b 4), .ref (b 5), .ref (b 6), .int 22, .int 95, .int nd.1, .int nd.2.2.1, .int nd.2.1, .long nd.2.2.2, .int 2, .int (nI e), .int (nI u), .int (nI d), .int t.2.2.2.2.2, .ref (b 7), .long (lN (lo + 4294967296 * hg)), .int 1, .ref (b 8), .ref (b 9), .ref (b 10), .int ((ro z ob).2.2.2.1), .int ((ro z ob).2.2.2.2)]) (C := RX5) (T := TX5) (N := 27) hx hb htb inX5 hown hK hP 0 rfl rfl 15 (by decide) (htb _ kF_X5_128) (fun _ h9 => h9) rfl dX5_readSegment_41 ?_
      refine va_iald (i := nI e) hx hb hK hP 3 0 rfl rfl (vp_in_nI (by omega) (by decide)) dX5_readSegment_44 ?_
      refine zb_ti (y := nI (xZ e)) (by rw [nI_clamp (by omega)]) ?_
      refine lv_aload_n hx hb dX5_readSegment_45 rfl (lv_at hl 0 rfl) ?_
      refine va_get (D := D) (ci := 5) (v := .int (nI d)) (fs := [.int th, .int N, .ref (b 1), .ref (b 2), .ref (b 3), .ref (b 4), .ref (b 5), .ref (b 6), .int 22, .int 95, .int nd.1, .int nd.2.2.1, .int nd.2.1, .long nd.2.2.2, .int 2, .int (nI e), .int (nI u), .int (nI d), .int t.2.2.2.2.2, .ref (b 7), .long (lN (lo + 4294967296 * hg)), .int 1, .ref (b 8), .ref (b 9), .ref (b 10), .int ((ro z ob).2.2.2.1), .int ((ro z ob).2.2.2.2)]) (C := RX5) (T := TX5) (N := 27) hx hb htb inX5 hown hK hP 0 rfl rfl 17 (by decide) (htb _ kF_X5_137) (fun _ h9 => h9) rfl dX5_readSegment_46 ?_
      refine lv_isub hx hb dX5_readSegment_49 ?_
      refine zb_ti (y := nI (xZ e - d)) (pk_sub hd) ?_
      refine lv_bipush (v := 7) hx hb dX5_readSegment_50 (by decide) ?_
      refine lv_icmp_ge (tgt := 72) hx hb dX5_readSegment_52 (by decide) (fun hc6 => ?_) (fun hc6 => ?_)
      · refine lv_bipush (v := 7) hx hb dX5_readSegment_72 (by decide) ?_
        have hrc7 : rc e d ≤ 7 := Nat.min_le_left _ _
        have hrc9 : d + rc e d ≤ xZ e := by unfold rc; omega
        refine zb_ti (y := nI (rc e d)) (by unfold rc; rw [Nat.min_eq_left ((nI_leI (a := 7) (by decide) (by omega)).mp hc6)]; rfl) ?_
        refine lv_istore_n hx hb dX5_readSegment_74 rfl hl (by decide) rfl (fun ls hl => ?_)
        have hl : lv_has ls 6 [(2, .int (nI (rc e d))), (0, .ref (b 0)), (1, .int (nI fi))] := hl
        refine lv_lconst (v := 0) hx hb dX5_readSegment_75 (by decide) ?_
        refine lv_lstore_n hx hb dX5_readSegment_76 rfl hl (by decide) rfl (fun ls hl => ?_)
        have hl : lv_has ls 6 [(3, .long 0), (2, .int (nI (rc e d))), (0, .ref (b 0)), (1, .int (nI fi))] := hl
        refine lv_iconst (v := 0) hx hb dX5_readSegment_77 (by decide) ?_
        refine lv_istore hx hb dX5_readSegment_78 hl (by decide) rfl (fun ls hl => ?_)
        have hl : lv_has ls 6 [(5, .int 0), (3, .long 0), (2, .int (nI (rc e d))), (0, .ref (b 0)), (1, .int (nI fi))] := hl
        have e7 : (0 : Int64) = lN (sm f (xP e + d) (0) * 256) := rfl
        have hl : lv_has ls 6 [(5, .int 0), (3, .long (lN (sm f (xP e + d) (0) * 256))), (2, .int (nI (rc e d))), (0, .ref (b 0)), (1, .int (nI fi))] := Eq.mp (congrArg (fun zz9 : Int64 => lv_has ls 6 [(5, .int 0), (3, .long zz9), (2, .int (nI (rc e d))), (0, .ref (b 0)), (1, .int (nI fi))]) e7) hl
        have lp : ∀ (nn k : Nat) (ls : Array Slot) (H : Heap) (locs : List Loc), va_P D vwCl (rw0 b cA cJ N f (ro z ob) (t.1, 2, nI e, nI u, nI d, t.2.2.2.2.2) nd (lN (lo + 4294967296 * hg)) 1 th) H → va_D A (rw0 b cA cJ N f (ro z ob) (t.1, 2, nI e, nI u, nI d, t.2.2.2.2.2) nd (lN (lo + 4294967296 * hg)) 1 th) → va_S A s.heap H locs → k + nn = rc e d → lv_has ls 6 [(0, .ref (b 0)), (1, .int (nI fi)), (2, .int (nI (rc e d))), (3, .long (lN (sm f (xP e + d) (k) * 256))), (5, .int (nI (k)))] → W p l ev ({ frames := 3, cells := 0, slots := 0, locals := 72 } : Room) s m ([.ref (b 0), .int (nI fi)]).toArray below meth c H locs 0 0 Q (F0 m 80 ls []) := by
          intro nn
          induction nn with
          | zero =>
            intro k ls H locs hP hD hS hk_lp  hl
            have hk0_lp : k = rc e d := by omega
            refine lv_iload hx hb dX5_readSegment_80 (lv_at hl 4 rfl) ?_
            refine lv_iload_n hx hb dX5_readSegment_82 rfl (lv_at hl 2 rfl) ?_
            refine lv_icmp_ge (tgt := 126) hx hb dX5_readSegment_83 (by decide) (fun _ => ?_) (fun hno => absurd (by rw [hk0_lp]; exact nI_le (Nat.le_refl _) (by omega)) hno)
            have e8 : (lN (sm f (xP e + d) (k) * 256) : Int64) = lN (sm f (xP e + d) (rc e d) * 256) := by rw [hk0_lp]
            have hl : lv_has ls 6 [(0, .ref (b 0)), (1, .int (nI fi)), (2, .int (nI (rc e d))), (3, .long (lN (sm f (xP e + d) (rc e d) * 256))), (5, .int (nI (k)))] := Eq.mp (congrArg (fun zz9 : Int64 => lv_has ls 6 [(0, .ref (b 0)), (1, .int (nI fi)), (2, .int (nI (rc e d))), (3, .long zz9), (5, .int (nI (k)))]) e8) hl
            refine lv_aload_n hx hb dX5_readSegment_126 rfl (lv_at hl 0 rfl) ?_
            refine lv_dup hx hb dX5_readSegment_127 rfl ?_
            refine va_get (D := D) (ci := 5) (v := .int (nI d)) (fs := [.int th, .int N, .ref (b 1), .ref (b 2), .ref (b 3), .ref (b 4), .ref (b 5), .ref (b 6), .int 22, .int 95, .int nd.1, .int nd.2.2.1, .int nd.2.1, .long nd.2.2.2, .int 2, .int (nI e), .int (nI u), .int (nI d), .int t.2.2.2.2.2, .ref (b 7), .long (lN (lo + 4294967296 * hg)), .int 1, .ref (b 8), .ref (b 9), .ref (b 10), .int ((ro z ob).2.2.2.1), .int ((ro z ob).2.2.2.2)]) (C := RX5) (T := TX5) (N := 27) hx hb htb inX5 hown hK hP 0 rfl rfl 17 (by decide) (htb _ kF_X5_137) (fun _ h9 => h9) rfl dX5_readSegment_128 ?_
            refine lv_iload_n hx hb dX5_readSegment_131 rfl (lv_at hl 2 rfl) ?_
            refine lv_iadd hx hb dX5_readSegment_132 ?_
            refine zb_ti (nI_add d (rc e d)) ?_
            refine va_put (D := D) (ci := 5) (v := .int (nI (d + (rc e d)))) (fs := [.int th, .int N, .ref (b 1), .ref (b 2), .ref (b 3), .ref (b 4), .ref (b 5), .ref (b 6), .int 22, .int 95, .int nd.1, .int nd.2.2.1, .int nd.2.1, .long nd.2.2.2, .int 2, .int (nI e), .int (nI u), .int (nI d), .int t.2.2.2.2.2, .ref (b 7), .long (lN (lo + 4294967296 * hg)), .int 1, .ref (b 8), .ref (b 9), .ref (b 10), .int ((ro z ob).2.2.2.1), .int ((ro z ob).2.2.2.2)]) (ty := .int) (C := RX5) (T := TX5) (N := 27) hx hb htb inX5 tyX5 tyX5_ok nmX5 hown hK hP hD hS 0 rfl rfl 17 (by decide) (htb _ kF_X5_137) (fun _ h9 => h9) rfl (by decide +kernel) rfl rfl (Nat.le_of_ble_eq_true rfl) dX5_readSegment_133 (fun H locs hP hD hS => ?_)
            have hP : va_P D vwCl (rw0 b cA cJ N f (ro z ob) (t.1, 2, nI e, nI u, nI (d + (rc e d)), t.2.2.2.2.2) nd (lN (lo + 4294967296 * hg)) 1 th) H := hP
            have hD : va_D A (rw0 b cA cJ N f (ro z ob) (t.1, 2, nI e, nI u, nI (d + (rc e d)), t.2.2.2.2.2) nd (lN (lo + 4294967296 * hg)) 1 th) := hD
            refine lv_aload_n hx hb dX5_readSegment_136 rfl (lv_at hl 0 rfl) ?_
            refine va_get (D := D) (ci := 5) (v := .int (nI (d + (rc e d)))) (fs := [.int th, .int N, .ref (b 1), .ref (b 2), .ref (b 3), .ref (b 4), .ref (b 5), .ref (b 6), .int 22, .int 95, .int nd.1, .int nd.2.2.1, .int nd.2.1, .long nd.2.2.2, .int 2, .int (nI e), .int (nI u), .int (nI (d + (rc e d))), .int t.2.2.2.2.2, .ref (b 7), .long (lN (lo + 4294967296 * hg)), .int 1, .ref (b 8), .ref (b 9), .ref (b 10), .int ((ro z ob).2.2.2.1), .int ((ro z ob).2.2.2.2)]) (C := RX5) (T := TX5) (N := 27) hx hb htb inX5 hown hK hP 0 rfl rfl 17 (by decide) (htb _ kF_X5_137) (fun _ h9 => h9) rfl dX5_readSegment_137 ?_
            refine lv_aload_n hx hb dX5_readSegment_140 rfl (lv_at hl 0 rfl) ?_
            refine va_get (D := D) (ci := 5) (v := .ref (b 3)) (fs := [.int th, .int N, .ref (b 1), .ref (b 2), .ref (b 3), .ref (b 4), .ref (b 5), .ref (b 6), .int 22, .int 95, .int nd.1, .int nd.2.2.1, .int nd.2.1, .long nd.2.2.2, .int 2, .int (nI e), .int (nI u), .int (nI (d + (rc e d))), .int t.2.2.2.2.2, .ref (b 7), .long (lN (lo + 4294967296 * hg)), .int 1, .ref (b 8), .ref (b 9), .ref (b 10), .int ((ro z ob).2.2.2.1), .int ((ro z ob).2.2.2.2)]) (C := RX5) (T := TX5) (N := 27) hx hb htb inX5 hown hK hP 0 rfl rfl 4 (by decide) (htb _ kF_X5_16) (fun _ h9 => h9) rfl dX5_readSegment_141 ?_
            refine lv_aload_n hx hb dX5_readSegment_144 rfl (lv_at hl 0 rfl) ?_
            refine va_get (D := D) (ci := 5) (v := .int (nI e)) (fs := [.int th, .int N, .ref (b 1), .ref (b 2), .ref (b 3), .ref (b 4), .ref (b 5), .ref (b 6), .int 22, .int 95, .int nd.1, .int nd.2.2.1, .int nd.2.1, .long nd.2.2.2, .int 2, .int (nI e), .int (nI u), .int (nI (d + (rc e d))), .int t.2.2.2.2.2, .ref (b 7), .long (lN (lo + 4294967296 * hg)), .int 1, .ref (b 8), .ref (b 9), .ref (b 10), .int ((ro z ob).2.2.2.1), .int ((ro z ob).2.2.2.2)]) (C := RX5) (T := TX5) (N := 27) hx hb htb inX5 hown hK hP 0 rfl rfl 15 (by decide) (htb _ kF_X5_128) (fun _ h9 => h9) rfl dX5_readSegment_145 ?_
            refine va_iald (i := nI e) hx hb hK hP 3 0 rfl rfl (vp_in_nI (by omega) (by decide)) dX5_readSegment_148 ?_
            refine zb_ti (y := nI (xZ e)) (by rw [nI_clamp (by omega)]) ?_
            refine lv_icmp_ne (tgt := 156) hx hb dX5_readSegment_149 (by decide) (fun hc9 => ?_) (fun hc9 => ?_)
            · refine lv_iconst (v := 0) hx hb dX5_readSegment_156 (by decide) ?_
              refine lv_istore hx hb dX5_readSegment_157 hl (by decide) rfl (fun ls hl => ?_)
              have hl : lv_has ls 6 [(5, .int 0), (0, .ref (b 0)), (1, .int (nI fi)), (2, .int (nI (rc e d))), (3, .long (lN (sm f (xP e + d) (rc e d) * 256)))] := hl
              refine lv_aload_n hx hb dX5_readSegment_159 rfl (lv_at hl 1 rfl) ?_
              refine lv_sipush (v := 1408) hx hb dX5_readSegment_160 (by decide) ?_
              refine lv_aload_n hx hb dX5_readSegment_163 rfl (lv_at hl 1 rfl) ?_
              refine va_get (D := D) (ci := 5) (v := .int N) (fs := [.int th, .int N, .ref (b 1), .ref (b 2), .ref (b 3), .ref (b 4), .ref (b 5), .ref (b 6), .int 22, .int 95, .int nd.1, .int nd.2.2.1, .int nd.2.1, .long nd.2.2.2, .int 2, .int (nI e), .int (nI u), .int (nI (d + (rc e d))), .int t.2.2.2.2.2, .ref (b 7), .long (lN (lo + 4294967296 * hg)), .int 1, .ref (b 8), .ref (b 9), .ref (b 10), .int ((ro z ob).2.2.2.1), .int ((ro z ob).2.2.2.2)]) (C := RX5) (T := TX5) (N := 27) hx hb htb inX5 hown hK hP 0 rfl rfl 1 (by decide) (htb _ kF_X5_41) (fun _ h9 => h9) rfl dX5_readSegment_164 ?_
              refine lv_iadd hx hb dX5_readSegment_167 ?_
              refine lv_bipush (v := 8) hx hb dX5_readSegment_168 (by decide) ?_
              refine lv_lload_n hx hb dX5_readSegment_170 rfl (lv_at hl 4 rfl) ?_
              refine lv_iload_n hx hb dX5_readSegment_171 rfl (lv_at hl 2 rfl) ?_
              refine lv_bipush (v := 16) hx hb dX5_readSegment_172 (by decide) ?_
              refine lv_iand hx hb dX5_readSegment_174 ?_
              refine lv_iconst (v := 2) hx hb dX5_readSegment_175 (by decide) ?_
              refine lv_bipush (v := 7) hx hb dX5_readSegment_176 (by decide) ?_
              refine lv_iload_n hx hb dX5_readSegment_178 rfl (lv_at hl 3 rfl) ?_
              refine lv_isub hx hb dX5_readSegment_179 ?_
              refine lv_imul hx hb dX5_readSegment_180 ?_
              refine lv_iadd hx hb dX5_readSegment_181 ?_
              refine lv_iload hx hb dX5_readSegment_182 (lv_at hl 0 rfl) ?_
              refine lv_if_eq (tgt := 191) hx hb dX5_readSegment_184 (by decide) (fun _ => ?_) (fun hno => absurd (by decide) hno)
              refine lv_iconst (v := 0) hx hb dX5_readSegment_191 (by decide) ?_
              refine lv_iadd hx hb dX5_readSegment_192 ?_
              refine zb_ti (y := nI (fi / 16 % 2 * 16 + 2 * (7 - rc e d) + 0)) (by rw [hd16 hfi hrc7]; exact nI_add _ 0) ?_
              have h8r := sm_lt hB (xP e + d) (rc e d)
              have h9r : 2 ^ (8 * rc e d) ≤ 2 ^ 56 := Nat.pow_le_pow_right (by decide) (by omega)
              refine lv_i2l hx hb dX5_readSegment_193 rfl ?_
              refine lv_lor hx hb dX5_readSegment_194 ?_
              refine zb_tl (y := lN (rx f fi e d 0)) (rx_or2 (b := fi / 16 % 2 * 16 + 2 * (7 - rc e d) + 0) (by omega) (by omega)) ?_
              refine zb_cv (va_runV (As := [.int (1408 + N), .int 8, .long (lN (rx f fi e d 0))]) (rest := []) ⟨hx, hb, hml, hown, htb⟩ (r_send l D b cA cJ N f z ob (t.1, 2, nI e, nI u, nI (d + (rc e d)), t.2.2.2.2.2) nd (lN (lo + 4294967296 * hg)) 1 th _ kp (1408 + N) 8 (rx f fi e d 0) hkp hkp32 (by unfold rx; omega)) (cwV 3 htb (wb_V kM_X5_78 kI_X5_send kS_X5_send kN_X5 kD_X5_send) rfl rfl rfl (by decide +kernel) ⟨Nat.le_of_ble_eq_true rfl, Nat.le_of_ble_eq_true rfl⟩) (zp_VW 0 rfl rfl hP hD hK hSt hS hA hnw) rfl rfl hl.1 rfl (lv_room (Nat.le_of_ble_eq_true rfl)) dX5_readSegment_195 ⟨Nat.le_of_ble_eq_true rfl, Nat.le_of_ble_eq_true rfl⟩) hD hS hA (fun H locs hP hD hS => ?_)
              have hP : va_P D vwCl (rw0 b cA cJ N f (ro z (ob_send ob (1408 + N) 8 (rx f fi e d 0))) (t.1, 2, nI e, nI u, nI (d + (rc e d)), t.2.2.2.2.2) nd (lN (lo + 4294967296 * hg)) 1 th) H := hP
              have hD : va_D A (rw0 b cA cJ N f (ro z (ob_send ob (1408 + N) 8 (rx f fi e d 0))) (t.1, 2, nI e, nI u, nI (d + (rc e d)), t.2.2.2.2.2) nd (lN (lo + 4294967296 * hg)) 1 th) := hD
              refine lv_aload_n hx hb dX5_readSegment_198 rfl (lv_at hl 1 rfl) ?_
              refine lv_iload hx hb dX5_readSegment_199 (lv_at hl 0 rfl) ?_
              refine lv_if_eq (tgt := 208) hx hb dX5_readSegment_201 (by decide) (fun _ => ?_) (fun hno => absurd (by decide) hno)
              refine lv_iconst (v := 2) hx hb dX5_readSegment_208 (by decide) ?_
              refine va_put (D := D) (ci := 5) (v := .int 2) (fs := [.int th, .int N, .ref (b 1), .ref (b 2), .ref (b 3), .ref (b 4), .ref (b 5), .ref (b 6), .int 22, .int 95, .int nd.1, .int nd.2.2.1, .int nd.2.1, .long nd.2.2.2, .int 2, .int (nI e), .int (nI u), .int (nI (d + (rc e d))), .int t.2.2.2.2.2, .ref (b 7), .long (lN (lo + 4294967296 * hg)), .int 1, .ref (b 8), .ref (b 9), .ref (b 10), .int ((ro z (ob_send ob (1408 + N) 8 (rx f fi e d 0))).2.2.2.1), .int ((ro z (ob_send ob (1408 + N) 8 (rx f fi e d 0))).2.2.2.2)]) (ty := .int) (C := RX5) (T := TX5) (N := 27) hx hb htb inX5 tyX5 tyX5_ok nmX5 hown hK hP hD hS 0 rfl rfl 14 (by decide) (htb _ kF_X5_85) (fun _ h9 => h9) rfl (by decide +kernel) rfl rfl (Nat.le_of_ble_eq_true rfl) dX5_readSegment_209 (fun H locs hP hD hS => ?_)
              have hP : va_P D vwCl (rw0 b cA cJ N f (ro z (ob_send ob (1408 + N) 8 (rx f fi e d 0))) (t.1, 2, nI e, nI u, nI (d + (rc e d)), t.2.2.2.2.2) nd (lN (lo + 4294967296 * hg)) 1 th) H := hP
              have hD : va_D A (rw0 b cA cJ N f (ro z (ob_send ob (1408 + N) 8 (rx f fi e d 0))) (t.1, 2, nI e, nI u, nI (d + (rc e d)), t.2.2.2.2.2) nd (lN (lo + 4294967296 * hg)) 1 th) := hD
              refine lv_aload_n hx hb dX5_readSegment_212 rfl (lv_at hl 1 rfl) ?_
              refine lv_iconst (v := 1) hx hb dX5_readSegment_213 (by decide) ?_
              refine lv_aload_n hx hb dX5_readSegment_214 rfl (lv_at hl 1 rfl) ?_
              refine va_get (D := D) (ci := 5) (v := .int (nI u)) (fs := [.int th, .int N, .ref (b 1), .ref (b 2), .ref (b 3), .ref (b 4), .ref (b 5), .ref (b 6), .int 22, .int 95, .int nd.1, .int nd.2.2.1, .int nd.2.1, .long nd.2.2.2, .int 2, .int (nI e), .int (nI u), .int (nI (d + (rc e d))), .int t.2.2.2.2.2, .ref (b 7), .long (lN (lo + 4294967296 * hg)), .int 1, .ref (b 8), .ref (b 9), .ref (b 10), .int ((ro z (ob_send ob (1408 + N) 8 (rx f fi e d 0))).2.2.2.1), .int ((ro z (ob_send ob (1408 + N) 8 (rx f fi e d 0))).2.2.2.2)]) (C := RX5) (T := TX5) (N := 27) hx hb htb inX5 hown hK hP 0 rfl rfl 16 (by decide) (htb _ kF_X5_134) (fun _ h9 => h9) rfl dX5_readSegment_215 ?_
              refine lv_isub hx hb dX5_readSegment_218 ?_
              refine va_put (D := D) (ci := 5) (v := .int (1 - (nI u))) (fs := [.int th, .int N, .ref (b 1), .ref (b 2), .ref (b 3), .ref (b 4), .ref (b 5), .ref (b 6), .int 22, .int 95, .int nd.1, .int nd.2.2.1, .int nd.2.1, .long nd.2.2.2, .int 2, .int (nI e), .int (nI u), .int (nI (d + (rc e d))), .int t.2.2.2.2.2, .ref (b 7), .long (lN (lo + 4294967296 * hg)), .int 1, .ref (b 8), .ref (b 9), .ref (b 10), .int ((ro z (ob_send ob (1408 + N) 8 (rx f fi e d 0))).2.2.2.1), .int ((ro z (ob_send ob (1408 + N) 8 (rx f fi e d 0))).2.2.2.2)]) (ty := .int) (C := RX5) (T := TX5) (N := 27) hx hb htb inX5 tyX5 tyX5_ok nmX5 hown hK hP hD hS 0 rfl rfl 16 (by decide) (htb _ kF_X5_134) (fun _ h9 => h9) rfl (by decide +kernel) rfl rfl (Nat.le_of_ble_eq_true rfl) dX5_readSegment_219 (fun H locs hP hD hS => ?_)
              have hP : va_P D vwCl (rw0 b cA cJ N f (ro z (ob_send ob (1408 + N) 8 (rx f fi e d 0))) (t.1, 2, nI e, 1 - (nI u), nI (d + (rc e d)), t.2.2.2.2.2) nd (lN (lo + 4294967296 * hg)) 1 th) H := hP
              have hD : va_D A (rw0 b cA cJ N f (ro z (ob_send ob (1408 + N) 8 (rx f fi e d 0))) (t.1, 2, nI e, 1 - (nI u), nI (d + (rc e d)), t.2.2.2.2.2) nd (lN (lo + 4294967296 * hg)) 1 th) := hD
              refine lv_aload_n hx hb dX5_readSegment_222 rfl (lv_at hl 1 rfl) ?_
              refine lv_iconst (v := 0) hx hb dX5_readSegment_223 (by decide) ?_
              refine va_put (D := D) (ci := 5) (v := .int 0) (fs := [.int th, .int N, .ref (b 1), .ref (b 2), .ref (b 3), .ref (b 4), .ref (b 5), .ref (b 6), .int 22, .int 95, .int nd.1, .int nd.2.2.1, .int nd.2.1, .long nd.2.2.2, .int 2, .int (nI e), .int (1 - (nI u)), .int (nI (d + (rc e d))), .int t.2.2.2.2.2, .ref (b 7), .long (lN (lo + 4294967296 * hg)), .int 1, .ref (b 8), .ref (b 9), .ref (b 10), .int ((ro z (ob_send ob (1408 + N) 8 (rx f fi e d 0))).2.2.2.1), .int ((ro z (ob_send ob (1408 + N) 8 (rx f fi e d 0))).2.2.2.2)]) (ty := .int) (C := RX5) (T := TX5) (N := 27) hx hb htb inX5 tyX5 tyX5_ok nmX5 hown hK hP hD hS 0 rfl rfl 18 (by decide) (htb _ kF_X5_94) (fun _ h9 => h9) rfl (by decide +kernel) rfl rfl (Nat.le_of_ble_eq_true rfl) dX5_readSegment_224 (fun H locs hP hD hS => ?_)
              have hP : va_P D vwCl (rw0 b cA cJ N f (ro z (ob_send ob (1408 + N) 8 (rx f fi e d 0))) (t.1, 2, nI e, 1 - (nI u), nI (d + (rc e d)), 0) nd (lN (lo + 4294967296 * hg)) 1 th) H := hP
              have hD : va_D A (rw0 b cA cJ N f (ro z (ob_send ob (1408 + N) 8 (rx f fi e d 0))) (t.1, 2, nI e, 1 - (nI u), nI (d + (rc e d)), 0) nd (lN (lo + 4294967296 * hg)) 1 th) := hD
              have hs9 : sF tr fi 0 = 0 := sF_0 hg1 hw1 hfi hu2 htu hc5
              have hK9 : kRSeg N f ob tr nd fi e d ad = (f, (ob_send ob (1408 + N) 8 (rx f fi e d 0)), tr_next (trR tr e d), nd) := by simp only [kRSeg, hs9, if_pos (show nI 0 = 0 from rfl), if_neg (show ¬ nI (xZ e - (d + rc e d)) = 0 from fun h => hc9 (by rw [show d + rc e d = xZ e by have := (nI_eq (b := 0) (by omega) (by decide)).mp h; omega]))]
              rw [hQ]
              have hw9 : (rw0 b cA cJ N f (ro z (ob_send ob (1408 + N) 8 (rx f fi e d 0))) (t.1, 2, nI e, 1 - (nI u), nI (d + (rc e d)), 0) nd (lN (lo + 4294967296 * hg)) 1 th) = r4 b cA cJ N z th (kRSeg N f ob tr nd fi e d ad) ((t.1, 2, nI e, 1 - (nI u), nI (d + (rc e d)), 0), (lN (lo + 4294967296 * hg)), 1) := by rw [hK9]; rfl
              have hr9 : rel2 (kRSeg N f ob tr nd fi e d ad).2.2.1 (t.1, 2, nI e, 1 - (nI u), nI (d + (rc e d)), 0) := by rw [hK9]; exact rel_next (tr := (trR tr e d)) he hrc9 hN1 rfl hrh hN3 had hadd hg1 (Or.inr ⟨hw1, rfl⟩) hu2 htu rfl
              exact W.vret hx hb hr (fun t9 ht hW => ⟨rfl, ((t.1, 2, nI e, 1 - (nI u), nI (d + (rc e d)), 0), (lN (lo + 4294967296 * hg)), 1), hr9, by rw [ht, ← hw9]; exact hP, by rw [← hw9]; exact hD, hS.F ht⟩) hS.2.2 dX5_readSegment_227
            refine lv_iconst (v := 1) hx hb dX5_readSegment_152 (by decide) ?_
            refine lv_goto (tgt := 157) hx hb dX5_readSegment_153 (by decide) ?_
            refine lv_istore hx hb dX5_readSegment_157 hl (by decide) rfl (fun ls hl => ?_)
            have hl : lv_has ls 6 [(5, .int 1), (0, .ref (b 0)), (1, .int (nI fi)), (2, .int (nI (rc e d))), (3, .long (lN (sm f (xP e + d) (rc e d) * 256)))] := hl
            refine lv_aload_n hx hb dX5_readSegment_159 rfl (lv_at hl 1 rfl) ?_
            refine lv_sipush (v := 1408) hx hb dX5_readSegment_160 (by decide) ?_
            refine lv_aload_n hx hb dX5_readSegment_163 rfl (lv_at hl 1 rfl) ?_
            refine va_get (D := D) (ci := 5) (v := .int N) (fs := [.int th, .int N, .ref (b 1), .ref (b 2), .ref (b 3), .ref (b 4), .ref (b 5), .ref (b 6), .int 22, .int 95, .int nd.1, .int nd.2.2.1, .int nd.2.1, .long nd.2.2.2, .int 2, .int (nI e), .int (nI u), .int (nI (d + (rc e d))), .int t.2.2.2.2.2, .ref (b 7), .long (lN (lo + 4294967296 * hg)), .int 1, .ref (b 8), .ref (b 9), .ref (b 10), .int ((ro z ob).2.2.2.1), .int ((ro z ob).2.2.2.2)]) (C := RX5) (T := TX5) (N := 27) hx hb htb inX5 hown hK hP 0 rfl rfl 1 (by decide) (htb _ kF_X5_41) (fun _ h9 => h9) rfl dX5_readSegment_164 ?_
            refine lv_iadd hx hb dX5_readSegment_167 ?_
            refine lv_bipush (v := 8) hx hb dX5_readSegment_168 (by decide) ?_
            refine lv_lload_n hx hb dX5_readSegment_170 rfl (lv_at hl 4 rfl) ?_
            refine lv_iload_n hx hb dX5_readSegment_171 rfl (lv_at hl 2 rfl) ?_
            refine lv_bipush (v := 16) hx hb dX5_readSegment_172 (by decide) ?_
            refine lv_iand hx hb dX5_readSegment_174 ?_
            refine lv_iconst (v := 2) hx hb dX5_readSegment_175 (by decide) ?_
            refine lv_bipush (v := 7) hx hb dX5_readSegment_176 (by decide) ?_
            refine lv_iload_n hx hb dX5_readSegment_178 rfl (lv_at hl 3 rfl) ?_
            refine lv_isub hx hb dX5_readSegment_179 ?_
            refine lv_imul hx hb dX5_readSegment_180 ?_
            refine lv_iadd hx hb dX5_readSegment_181 ?_
            refine lv_iload hx hb dX5_readSegment_182 (lv_at hl 0 rfl) ?_
            refine lv_if_eq (tgt := 191) hx hb dX5_readSegment_184 (by decide) (fun hno => absurd hno (by decide)) (fun _ => ?_)
            refine lv_iconst (v := 1) hx hb dX5_readSegment_187 (by decide) ?_
            refine lv_goto (tgt := 192) hx hb dX5_readSegment_188 (by decide) ?_
            refine lv_iadd hx hb dX5_readSegment_192 ?_
            refine zb_ti (y := nI (fi / 16 % 2 * 16 + 2 * (7 - rc e d) + 1)) (by rw [hd16 hfi hrc7]; exact nI_add _ 1) ?_
            have h8r := sm_lt hB (xP e + d) (rc e d)
            have h9r : 2 ^ (8 * rc e d) ≤ 2 ^ 56 := Nat.pow_le_pow_right (by decide) (by omega)
            refine lv_i2l hx hb dX5_readSegment_193 rfl ?_
            refine lv_lor hx hb dX5_readSegment_194 ?_
            refine zb_tl (y := lN (rx f fi e d 1)) (rx_or2 (b := fi / 16 % 2 * 16 + 2 * (7 - rc e d) + 1) (by omega) (by omega)) ?_
            refine zb_cv (va_runV (As := [.int (1408 + N), .int 8, .long (lN (rx f fi e d 1))]) (rest := []) ⟨hx, hb, hml, hown, htb⟩ (r_send l D b cA cJ N f z ob (t.1, 2, nI e, nI u, nI (d + (rc e d)), t.2.2.2.2.2) nd (lN (lo + 4294967296 * hg)) 1 th _ kp (1408 + N) 8 (rx f fi e d 1) hkp hkp32 (by unfold rx; omega)) (cwV 3 htb (wb_V kM_X5_78 kI_X5_send kS_X5_send kN_X5 kD_X5_send) rfl rfl rfl (by decide +kernel) ⟨Nat.le_of_ble_eq_true rfl, Nat.le_of_ble_eq_true rfl⟩) (zp_VW 0 rfl rfl hP hD hK hSt hS hA hnw) rfl rfl hl.1 rfl (lv_room (Nat.le_of_ble_eq_true rfl)) dX5_readSegment_195 ⟨Nat.le_of_ble_eq_true rfl, Nat.le_of_ble_eq_true rfl⟩) hD hS hA (fun H locs hP hD hS => ?_)
            have hP : va_P D vwCl (rw0 b cA cJ N f (ro z (ob_send ob (1408 + N) 8 (rx f fi e d 1))) (t.1, 2, nI e, nI u, nI (d + (rc e d)), t.2.2.2.2.2) nd (lN (lo + 4294967296 * hg)) 1 th) H := hP
            have hD : va_D A (rw0 b cA cJ N f (ro z (ob_send ob (1408 + N) 8 (rx f fi e d 1))) (t.1, 2, nI e, nI u, nI (d + (rc e d)), t.2.2.2.2.2) nd (lN (lo + 4294967296 * hg)) 1 th) := hD
            refine lv_aload_n hx hb dX5_readSegment_198 rfl (lv_at hl 1 rfl) ?_
            refine lv_iload hx hb dX5_readSegment_199 (lv_at hl 0 rfl) ?_
            refine lv_if_eq (tgt := 208) hx hb dX5_readSegment_201 (by decide) (fun hno => absurd hno (by decide)) (fun _ => ?_)
            refine lv_iconst (v := 0) hx hb dX5_readSegment_204 (by decide) ?_
            refine lv_goto (tgt := 209) hx hb dX5_readSegment_205 (by decide) ?_
            refine va_put (D := D) (ci := 5) (v := .int 0) (fs := [.int th, .int N, .ref (b 1), .ref (b 2), .ref (b 3), .ref (b 4), .ref (b 5), .ref (b 6), .int 22, .int 95, .int nd.1, .int nd.2.2.1, .int nd.2.1, .long nd.2.2.2, .int 2, .int (nI e), .int (nI u), .int (nI (d + (rc e d))), .int t.2.2.2.2.2, .ref (b 7), .long (lN (lo + 4294967296 * hg)), .int 1, .ref (b 8), .ref (b 9), .ref (b 10), .int ((ro z (ob_send ob (1408 + N) 8 (rx f fi e d 1))).2.2.2.1), .int ((ro z (ob_send ob (1408 + N) 8 (rx f fi e d 1))).2.2.2.2)]) (ty := .int) (C := RX5) (T := TX5) (N := 27) hx hb htb inX5 tyX5 tyX5_ok nmX5 hown hK hP hD hS 0 rfl rfl 14 (by decide) (htb _ kF_X5_85) (fun _ h9 => h9) rfl (by decide +kernel) rfl rfl (Nat.le_of_ble_eq_true rfl) dX5_readSegment_209 (fun H locs hP hD hS => ?_)
            have hP : va_P D vwCl (rw0 b cA cJ N f (ro z (ob_send ob (1408 + N) 8 (rx f fi e d 1))) (t.1, 0, nI e, nI u, nI (d + (rc e d)), t.2.2.2.2.2) nd (lN (lo + 4294967296 * hg)) 1 th) H := hP
            have hD : va_D A (rw0 b cA cJ N f (ro z (ob_send ob (1408 + N) 8 (rx f fi e d 1))) (t.1, 0, nI e, nI u, nI (d + (rc e d)), t.2.2.2.2.2) nd (lN (lo + 4294967296 * hg)) 1 th) := hD
            refine lv_aload_n hx hb dX5_readSegment_212 rfl (lv_at hl 1 rfl) ?_
            refine lv_iconst (v := 1) hx hb dX5_readSegment_213 (by decide) ?_
            refine lv_aload_n hx hb dX5_readSegment_214 rfl (lv_at hl 1 rfl) ?_
            refine va_get (D := D) (ci := 5) (v := .int (nI u)) (fs := [.int th, .int N, .ref (b 1), .ref (b 2), .ref (b 3), .ref (b 4), .ref (b 5), .ref (b 6), .int 22, .int 95, .int nd.1, .int nd.2.2.1, .int nd.2.1, .long nd.2.2.2, .int 0, .int (nI e), .int (nI u), .int (nI (d + (rc e d))), .int t.2.2.2.2.2, .ref (b 7), .long (lN (lo + 4294967296 * hg)), .int 1, .ref (b 8), .ref (b 9), .ref (b 10), .int ((ro z (ob_send ob (1408 + N) 8 (rx f fi e d 1))).2.2.2.1), .int ((ro z (ob_send ob (1408 + N) 8 (rx f fi e d 1))).2.2.2.2)]) (C := RX5) (T := TX5) (N := 27) hx hb htb inX5 hown hK hP 0 rfl rfl 16 (by decide) (htb _ kF_X5_134) (fun _ h9 => h9) rfl dX5_readSegment_215 ?_
            refine lv_isub hx hb dX5_readSegment_218 ?_
            refine va_put (D := D) (ci := 5) (v := .int (1 - (nI u))) (fs := [.int th, .int N, .ref (b 1), .ref (b 2), .ref (b 3), .ref (b 4), .ref (b 5), .ref (b 6), .int 22, .int 95, .int nd.1, .int nd.2.2.1, .int nd.2.1, .long nd.2.2.2, .int 0, .int (nI e), .int (nI u), .int (nI (d + (rc e d))), .int t.2.2.2.2.2, .ref (b 7), .long (lN (lo + 4294967296 * hg)), .int 1, .ref (b 8), .ref (b 9), .ref (b 10), .int ((ro z (ob_send ob (1408 + N) 8 (rx f fi e d 1))).2.2.2.1), .int ((ro z (ob_send ob (1408 + N) 8 (rx f fi e d 1))).2.2.2.2)]) (ty := .int) (C := RX5) (T := TX5) (N := 27) hx hb htb inX5 tyX5 tyX5_ok nmX5 hown hK hP hD hS 0 rfl rfl 16 (by decide) (htb _ kF_X5_134) (fun _ h9 => h9) rfl (by decide +kernel) rfl rfl (Nat.le_of_ble_eq_true rfl) dX5_readSegment_219 (fun H locs hP hD hS => ?_)
            have hP : va_P D vwCl (rw0 b cA cJ N f (ro z (ob_send ob (1408 + N) 8 (rx f fi e d 1))) (t.1, 0, nI e, 1 - (nI u), nI (d + (rc e d)), t.2.2.2.2.2) nd (lN (lo + 4294967296 * hg)) 1 th) H := hP
            have hD : va_D A (rw0 b cA cJ N f (ro z (ob_send ob (1408 + N) 8 (rx f fi e d 1))) (t.1, 0, nI e, 1 - (nI u), nI (d + (rc e d)), t.2.2.2.2.2) nd (lN (lo + 4294967296 * hg)) 1 th) := hD
            refine lv_aload_n hx hb dX5_readSegment_222 rfl (lv_at hl 1 rfl) ?_
            refine lv_iconst (v := 0) hx hb dX5_readSegment_223 (by decide) ?_
            refine va_put (D := D) (ci := 5) (v := .int 0) (fs := [.int th, .int N, .ref (b 1), .ref (b 2), .ref (b 3), .ref (b 4), .ref (b 5), .ref (b 6), .int 22, .int 95, .int nd.1, .int nd.2.2.1, .int nd.2.1, .long nd.2.2.2, .int 0, .int (nI e), .int (1 - (nI u)), .int (nI (d + (rc e d))), .int t.2.2.2.2.2, .ref (b 7), .long (lN (lo + 4294967296 * hg)), .int 1, .ref (b 8), .ref (b 9), .ref (b 10), .int ((ro z (ob_send ob (1408 + N) 8 (rx f fi e d 1))).2.2.2.1), .int ((ro z (ob_send ob (1408 + N) 8 (rx f fi e d 1))).2.2.2.2)]) (ty := .int) (C := RX5) (T := TX5) (N := 27) hx hb htb inX5 tyX5 tyX5_ok nmX5 hown hK hP hD hS 0 rfl rfl 18 (by decide) (htb _ kF_X5_94) (fun _ h9 => h9) rfl (by decide +kernel) rfl rfl (Nat.le_of_ble_eq_true rfl) dX5_readSegment_224 (fun H locs hP hD hS => ?_)
            have hP : va_P D vwCl (rw0 b cA cJ N f (ro z (ob_send ob (1408 + N) 8 (rx f fi e d 1))) (t.1, 0, nI e, 1 - (nI u), nI (d + (rc e d)), 0) nd (lN (lo + 4294967296 * hg)) 1 th) H := hP
            have hD : va_D A (rw0 b cA cJ N f (ro z (ob_send ob (1408 + N) 8 (rx f fi e d 1))) (t.1, 0, nI e, 1 - (nI u), nI (d + (rc e d)), 0) nd (lN (lo + 4294967296 * hg)) 1 th) := hD
            have hs9 : sF tr fi 0 = 0 := sF_0 hg1 hw1 hfi hu2 htu hc5
            have hK9 : kRSeg N f ob tr nd fi e d ad = (f, (ob_send ob (1408 + N) 8 (rx f fi e d 1)), tr_end (trR tr e d), nd) := by simp only [kRSeg, hs9, if_pos (show nI 0 = 0 from rfl), if_pos (show nI (xZ e - (d + rc e d)) = 0 by rw [show xZ e - (d + rc e d) = 0 by have := (nI_eq (by omega) (by omega)).mp hc9; omega]; rfl)]
            rw [hQ]
            have hw9 : (rw0 b cA cJ N f (ro z (ob_send ob (1408 + N) 8 (rx f fi e d 1))) (t.1, 0, nI e, 1 - (nI u), nI (d + (rc e d)), 0) nd (lN (lo + 4294967296 * hg)) 1 th) = r4 b cA cJ N z th (kRSeg N f ob tr nd fi e d ad) ((t.1, 0, nI e, 1 - (nI u), nI (d + (rc e d)), 0), (lN (lo + 4294967296 * hg)), 1) := by rw [hK9]; rfl
            have hr9 : rel2 (kRSeg N f ob tr nd fi e d ad).2.2.1 (t.1, 0, nI e, 1 - (nI u), nI (d + (rc e d)), 0) := by rw [hK9]; exact rel_off (tr := (trR tr e d)) he hrc9 hN1 rfl hrh _
            exact W.vret hx hb hr (fun t9 ht hW => ⟨rfl, ((t.1, 0, nI e, 1 - (nI u), nI (d + (rc e d)), 0), (lN (lo + 4294967296 * hg)), 1), hr9, by rw [ht, ← hw9]; exact hP, by rw [← hw9]; exact hD, hS.F ht⟩) hS.2.2 dX5_readSegment_227
          | succ nn ih_lp =>
            intro k ls H locs hP hD hS hk_lp  hl
            have hk1_lp : k < rc e d := by omega
            refine lv_iload hx hb dX5_readSegment_80 (lv_at hl 4 rfl) ?_
            refine lv_iload_n hx hb dX5_readSegment_82 rfl (lv_at hl 2 rfl) ?_
            refine lv_icmp_ge (tgt := 126) hx hb dX5_readSegment_83 (by decide) (fun hno => absurd hno (nI_ge (a := k) (b := rc e d) hk1_lp (by omega))) (fun _ => ?_)
            refine lv_lload_n hx hb dX5_readSegment_86 rfl (lv_at hl 3 rfl) ?_
            refine lv_aload_n hx hb dX5_readSegment_87 rfl (lv_at hl 0 rfl) ?_
            refine va_get (D := D) (ci := 5) (v := .ref (b 6)) (fs := [.int th, .int N, .ref (b 1), .ref (b 2), .ref (b 3), .ref (b 4), .ref (b 5), .ref (b 6), .int 22, .int 95, .int nd.1, .int nd.2.2.1, .int nd.2.1, .long nd.2.2.2, .int 2, .int (nI e), .int (nI u), .int (nI d), .int t.2.2.2.2.2, .ref (b 7), .long (lN (lo + 4294967296 * hg)), .int 1, .ref (b 8), .ref (b 9), .ref (b 10), .int ((ro z ob).2.2.2.1), .int ((ro z ob).2.2.2.2)]) (C := RX5) (T := TX5) (N := 27) hx hb htb inX5 hown hK hP 0 rfl rfl 7 (by decide) (htb _ kF_X5_25) (fun _ h9 => h9) rfl dX5_readSegment_88 ?_
            refine lv_aload_n hx hb dX5_readSegment_91 rfl (lv_at hl 0 rfl) ?_
            refine va_get (D := D) (ci := 5) (v := .ref (b 5)) (fs := [.int th, .int N, .ref (b 1), .ref (b 2), .ref (b 3), .ref (b 4), .ref (b 5), .ref (b 6), .int 22, .int 95, .int nd.1, .int nd.2.2.1, .int nd.2.1, .long nd.2.2.2, .int 2, .int (nI e), .int (nI u), .int (nI d), .int t.2.2.2.2.2, .ref (b 7), .long (lN (lo + 4294967296 * hg)), .int 1, .ref (b 8), .ref (b 9), .ref (b 10), .int ((ro z ob).2.2.2.1), .int ((ro z ob).2.2.2.2)]) (C := RX5) (T := TX5) (N := 27) hx hb htb inX5 hown hK hP 0 rfl rfl 6 (by decide) (htb _ kF_X5_22) (fun _ h9 => h9) rfl dX5_readSegment_92 ?_
            refine lv_aload_n hx hb dX5_readSegment_95 rfl (lv_at hl 0 rfl) ?_
            refine va_get (D := D) (ci := 5) (v := .int (nI e)) (fs := [.int th, .int N, .ref (b 1), .ref (b 2), .ref (b 3), .ref (b 4), .ref (b 5), .ref (b 6), .int 22, .int 95, .int nd.1, .int nd.2.2.1, .int nd.2.1, .long nd.2.2.2, .int 2, .int (nI e), .int (nI u), .int (nI d), .int t.2.2.2.2.2, .ref (b 7), .long (lN (lo + 4294967296 * hg)), .int 1, .ref (b 8), .ref (b 9), .ref (b 10), .int ((ro z ob).2.2.2.1), .int ((ro z ob).2.2.2.2)]) (C := RX5) (T := TX5) (N := 27) hx hb htb inX5 hown hK hP 0 rfl rfl 15 (by decide) (htb _ kF_X5_128) (fun _ h9 => h9) rfl dX5_readSegment_96 ?_
            refine va_iald (i := nI e) hx hb hK hP 5 0 rfl rfl (vp_in_nI (by omega) (by decide)) dX5_readSegment_99 ?_
            refine zb_ti (y := nI (xP e)) (by rw [nI_clamp (by omega)]) ?_
            refine lv_aload_n hx hb dX5_readSegment_100 rfl (lv_at hl 0 rfl) ?_
            refine va_get (D := D) (ci := 5) (v := .int (nI d)) (fs := [.int th, .int N, .ref (b 1), .ref (b 2), .ref (b 3), .ref (b 4), .ref (b 5), .ref (b 6), .int 22, .int 95, .int nd.1, .int nd.2.2.1, .int nd.2.1, .long nd.2.2.2, .int 2, .int (nI e), .int (nI u), .int (nI d), .int t.2.2.2.2.2, .ref (b 7), .long (lN (lo + 4294967296 * hg)), .int 1, .ref (b 8), .ref (b 9), .ref (b 10), .int ((ro z ob).2.2.2.1), .int ((ro z ob).2.2.2.2)]) (C := RX5) (T := TX5) (N := 27) hx hb htb inX5 hown hK hP 0 rfl rfl 17 (by decide) (htb _ kF_X5_137) (fun _ h9 => h9) rfl dX5_readSegment_101 ?_
            refine lv_iadd hx hb dX5_readSegment_104 ?_
            refine zb_ti (nI_add (xP e) d) ?_
            refine lv_iload hx hb dX5_readSegment_105 (lv_at hl 4 rfl) ?_
            refine lv_iadd hx hb dX5_readSegment_107 ?_
            refine zb_ti (nI_add ((xP e) + d) (k)) ?_
            refine va_iald (i := nI (((xP e) + d) + (k))) hx hb hK hP 6 0 rfl rfl (vp_in_nI (by omega) (by decide)) dX5_readSegment_108 ?_
            refine zb_ti (y := f (((xP e) + d) + (k))) (by rw [nI_clamp (by omega)]) ?_
            refine lv_i2l hx hb dX5_readSegment_109 rfl ?_
            refine lv_bipush (v := 8) hx hb dX5_readSegment_110 (by decide) ?_
            refine lv_iload hx hb dX5_readSegment_112 (lv_at hl 4 rfl) ?_
            refine lv_iconst (v := 1) hx hb dX5_readSegment_114 (by decide) ?_
            refine lv_iadd hx hb dX5_readSegment_115 ?_
            refine zb_ti (nI_add (k) 1) ?_
            refine lv_imul hx hb dX5_readSegment_116 ?_
            refine zb_ti (pk_mul 8 ((k) + 1)) ?_
            refine lv_lshl hx hb dX5_readSegment_117 rfl ?_
            refine lv_lor hx hb dX5_readSegment_118 ?_
            refine zb_tl (y := lN (sm f (xP e + d) (k + 1) * 256)) (rs_j hB (by omega)) ?_
            refine lv_lstore_n hx hb dX5_readSegment_119 rfl hl (by decide) rfl (fun ls hl => ?_)
            have hl : lv_has ls 6 [(3, .long (lN (sm f (xP e + d) (k + 1) * 256))), (0, .ref (b 0)), (1, .int (nI fi)), (2, .int (nI (rc e d))), (5, .int (nI (k)))] := hl
            refine lv_iinc (k := 4) (v := nI ((k) + 1)) hx hb dX5_readSegment_120 hl rfl (nI_1 (k)) (by decide) rfl (fun ls hl => ?_)
            have hl : lv_has ls 6 [(5, .int (nI ((k) + 1))), (3, .long (lN (sm f (xP e + d) (k + 1) * 256))), (0, .ref (b 0)), (1, .int (nI fi)), (2, .int (nI (rc e d)))] := hl
            refine lv_goto (tgt := 80) hx hb dX5_readSegment_123 (by decide) ?_
            exact ih_lp (k + 1) ls _ _ hP hD hS (by omega) (lv_sub hl [2, 3, 4, 1, 0] rfl)
        exact lp (rc e d - 0) (0) ls _ _ hP hD hS (by omega) (lv_sub hl [3, 4, 2, 1, 0] rfl)
      refine lv_aload_n hx hb dX5_readSegment_55 rfl (lv_at hl 0 rfl) ?_
      refine va_get (D := D) (ci := 5) (v := .ref (b 3)) (fs := [.int th, .int N, .ref (b 1), .ref (b 2), .ref (b 3), .ref (b 4), .ref (b 5), .ref (b 6), .int 22, .int 95, .int nd.1, .int nd.2.2.1, .int nd.2.1, .long nd.2.2.2, .int 2, .int (nI e), .int (nI u), .int (nI d), .int t.2.2.2.2.2, .ref (b 7), .long (lN (lo + 4294967296 * hg)), .int 1, .ref (b 8), .ref (b 9), .ref (b 10), .int ((ro z ob).2.2.2.1), .int ((ro z ob).2.2.2.2)]) (C := RX5) (T := TX5) (N := 27) hx hb htb inX5 hown hK hP 0 rfl rfl 4 (by decide) (htb _ kF_X5_16) (fun _ h9 => h9) rfl dX5_readSegment_56 ?_
      refine lv_aload_n hx hb dX5_readSegment_59 rfl (lv_at hl 0 rfl) ?_
      refine va_get (D := D) (ci := 5) (v := .int (nI e)) (fs := [.int th, .int N, .ref (b 1), .ref (b 2), .ref (b 3), .ref (b 4), .ref (b 5), .ref (b 6), .int 22, .int 95, .int nd.1, .int nd.2.2.1, .int nd.2.1, .long nd.2.2.2, .int 2, .int (nI e), .int (nI u), .int (nI d), .int t.2.2.2.2.2, .ref (b 7), .long (lN (lo + 4294967296 * hg)), .int 1, .ref (b 8), .ref (b 9), .ref (b 10), .int ((ro z ob).2.2.2.1), .int ((ro z ob).2.2.2.2)]) (C := RX5) (T := TX5) (N := 27) hx hb htb inX5 hown hK hP 0 rfl rfl 15 (by decide) (htb _ kF_X5_128) (fun _ h9 => h9) rfl dX5_readSegment_60 ?_
      refine va_iald (i := nI e) hx hb hK hP 3 0 rfl rfl (vp_in_nI (by omega) (by decide)) dX5_readSegment_63 ?_
      refine zb_ti (y := nI (xZ e)) (by rw [nI_clamp (by omega)]) ?_
      refine lv_aload_n hx hb dX5_readSegment_64 rfl (lv_at hl 0 rfl) ?_
      refine va_get (D := D) (ci := 5) (v := .int (nI d)) (fs := [.int th, .int N, .ref (b 1), .ref (b 2), .ref (b 3), .ref (b 4), .ref (b 5), .ref (b 6), .int 22, .int 95, .int nd.1, .int nd.2.2.1, .int nd.2.1, .long nd.2.2.2, .int 2, .int (nI e), .int (nI u), .int (nI d), .int t.2.2.2.2.2, .ref (b 7), .long (lN (lo + 4294967296 * hg)), .int 1, .ref (b 8), .ref (b 9), .ref (b 10), .int ((ro z ob).2.2.2.1), .int ((ro z ob).2.2.2.2)]) (C := RX5) (T := TX5) (N := 27) hx hb htb inX5 hown hK hP 0 rfl rfl 17 (by decide) (htb _ kF_X5_137) (fun _ h9 => h9) rfl dX5_readSegment_65 ?_
      refine lv_isub hx hb dX5_readSegment_68 ?_
      refine zb_ti (y := nI (xZ e - d)) (pk_sub hd) ?_
      refine lv_goto (tgt := 74) hx hb dX5_readSegment_69 (by decide) ?_
      have hrc7 : rc e d ≤ 7 := Nat.min_le_left _ _
      have hrc9 : d + rc e d ≤ xZ e := by unfold rc; omega
      refine zb_ti (y := nI (rc e d)) (by unfold rc; rw [Nat.min_eq_right (by have h9 : ¬ 7 ≤ xZ e - d := fun h => hc6 (nI_le (a := 7) h (by omega)); omega)]) ?_
      refine lv_istore_n hx hb dX5_readSegment_74 rfl hl (by decide) rfl (fun ls hl => ?_)
      have hl : lv_has ls 6 [(2, .int (nI (rc e d))), (0, .ref (b 0)), (1, .int (nI fi))] := hl
      refine lv_lconst (v := 0) hx hb dX5_readSegment_75 (by decide) ?_
      refine lv_lstore_n hx hb dX5_readSegment_76 rfl hl (by decide) rfl (fun ls hl => ?_)
      have hl : lv_has ls 6 [(3, .long 0), (2, .int (nI (rc e d))), (0, .ref (b 0)), (1, .int (nI fi))] := hl
      refine lv_iconst (v := 0) hx hb dX5_readSegment_77 (by decide) ?_
      refine lv_istore hx hb dX5_readSegment_78 hl (by decide) rfl (fun ls hl => ?_)
      have hl : lv_has ls 6 [(5, .int 0), (3, .long 0), (2, .int (nI (rc e d))), (0, .ref (b 0)), (1, .int (nI fi))] := hl
      have e10 : (0 : Int64) = lN (sm f (xP e + d) (0) * 256) := rfl
      have hl : lv_has ls 6 [(5, .int 0), (3, .long (lN (sm f (xP e + d) (0) * 256))), (2, .int (nI (rc e d))), (0, .ref (b 0)), (1, .int (nI fi))] := Eq.mp (congrArg (fun zz9 : Int64 => lv_has ls 6 [(5, .int 0), (3, .long zz9), (2, .int (nI (rc e d))), (0, .ref (b 0)), (1, .int (nI fi))]) e10) hl
      have lp : ∀ (nn k : Nat) (ls : Array Slot) (H : Heap) (locs : List Loc), va_P D vwCl (rw0 b cA cJ N f (ro z ob) (t.1, 2, nI e, nI u, nI d, t.2.2.2.2.2) nd (lN (lo + 4294967296 * hg)) 1 th) H → va_D A (rw0 b cA cJ N f (ro z ob) (t.1, 2, nI e, nI u, nI d, t.2.2.2.2.2) nd (lN (lo + 4294967296 * hg)) 1 th) → va_S A s.heap H locs → k + nn = rc e d → lv_has ls 6 [(0, .ref (b 0)), (1, .int (nI fi)), (2, .int (nI (rc e d))), (3, .long (lN (sm f (xP e + d) (k) * 256))), (5, .int (nI (k)))] → W p l ev ({ frames := 3, cells := 0, slots := 0, locals := 72 } : Room) s m ([.ref (b 0), .int (nI fi)]).toArray below meth c H locs 0 0 Q (F0 m 80 ls []) := by
        intro nn
        induction nn with
        | zero =>
          intro k ls H locs hP hD hS hk_lp  hl
          have hk0_lp : k = rc e d := by omega
          refine lv_iload hx hb dX5_readSegment_80 (lv_at hl 4 rfl) ?_
          refine lv_iload_n hx hb dX5_readSegment_82 rfl (lv_at hl 2 rfl) ?_
          refine lv_icmp_ge (tgt := 126) hx hb dX5_readSegment_83 (by decide) (fun _ => ?_) (fun hno => absurd (by rw [hk0_lp]; exact nI_le (Nat.le_refl _) (by omega)) hno)
          have e11 : (lN (sm f (xP e + d) (k) * 256) : Int64) = lN (sm f (xP e + d) (rc e d) * 256) := by rw [hk0_lp]
          have hl : lv_has ls 6 [(0, .ref (b 0)), (1, .int (nI fi)), (2, .int (nI (rc e d))), (3, .long (lN (sm f (xP e + d) (rc e d) * 256))), (5, .int (nI (k)))] := Eq.mp (congrArg (fun zz9 : Int64 => lv_has ls 6 [(0, .ref (b 0)), (1, .int (nI fi)), (2, .int (nI (rc e d))), (3, .long zz9), (5, .int (nI (k)))]) e11) hl
          refine lv_aload_n hx hb dX5_readSegment_126 rfl (lv_at hl 0 rfl) ?_
          refine lv_dup hx hb dX5_readSegment_127 rfl ?_
          refine va_get (D := D) (ci := 5) (v := .int (nI d)) (fs := [.int th, .int N, .ref (b 1), .ref (b 2), .ref (b 3), .ref (b 4), .ref (b 5), .ref (b 6), .int 22, .int 95, .int nd.1, .int nd.2.2.1, .int nd.2.1, .long nd.2.2.2, .int 2, .int (nI e), .int (nI u), .int (nI d), .int t.2.2.2.2.2, .ref (b 7), .long (lN (lo + 4294967296 * hg)), .int 1, .ref (b 8), .ref (b 9), .ref (b 10), .int ((ro z ob).2.2.2.1), .int ((ro z ob).2.2.2.2)]) (C := RX5) (T := TX5) (N := 27) hx hb htb inX5 hown hK hP 0 rfl rfl 17 (by decide) (htb _ kF_X5_137) (fun _ h9 => h9) rfl dX5_readSegment_128 ?_
          refine lv_iload_n hx hb dX5_readSegment_131 rfl (lv_at hl 2 rfl) ?_
          refine lv_iadd hx hb dX5_readSegment_132 ?_
          refine zb_ti (nI_add d (rc e d)) ?_
          refine va_put (D := D) (ci := 5) (v := .int (nI (d + (rc e d)))) (fs := [.int th, .int N, .ref (b 1), .ref (b 2), .ref (b 3), .ref (b 4), .ref (b 5), .ref (b 6), .int 22, .int 95, .int nd.1, .int nd.2.2.1, .int nd.2.1, .long nd.2.2.2, .int 2, .int (nI e), .int (nI u), .int (nI d), .int t.2.2.2.2.2, .ref (b 7), .long (lN (lo + 4294967296 * hg)), .int 1, .ref (b 8), .ref (b 9), .ref (b 10), .int ((ro z ob).2.2.2.1), .int ((ro z ob).2.2.2.2)]) (ty := .int) (C := RX5) (T := TX5) (N := 27) hx hb htb inX5 tyX5 tyX5_ok nmX5 hown hK hP hD hS 0 rfl rfl 17 (by decide) (htb _ kF_X5_137) (fun _ h9 => h9) rfl (by decide +kernel) rfl rfl (Nat.le_of_ble_eq_true rfl) dX5_readSegment_133 (fun H locs hP hD hS => ?_)
          have hP : va_P D vwCl (rw0 b cA cJ N f (ro z ob) (t.1, 2, nI e, nI u, nI (d + (rc e d)), t.2.2.2.2.2) nd (lN (lo + 4294967296 * hg)) 1 th) H := hP
          have hD : va_D A (rw0 b cA cJ N f (ro z ob) (t.1, 2, nI e, nI u, nI (d + (rc e d)), t.2.2.2.2.2) nd (lN (lo + 4294967296 * hg)) 1 th) := hD
          refine lv_aload_n hx hb dX5_readSegment_136 rfl (lv_at hl 0 rfl) ?_
          refine va_get (D := D) (ci := 5) (v := .int (nI (d + (rc e d)))) (fs := [.int th, .int N, .ref (b 1), .ref (b 2), .ref (b 3), .ref (b 4), .ref (b 5), .ref (b 6), .int 22, .int 95, .int nd.1, .int nd.2.2.1, .int nd.2.1, .long nd.2.2.2, .int 2, .int (nI e), .int (nI u), .int (nI (d + (rc e d))), .int t.2.2.2.2.2, .ref (b 7), .long (lN (lo + 4294967296 * hg)), .int 1, .ref (b 8), .ref (b 9), .ref (b 10), .int ((ro z ob).2.2.2.1), .int ((ro z ob).2.2.2.2)]) (C := RX5) (T := TX5) (N := 27) hx hb htb inX5 hown hK hP 0 rfl rfl 17 (by decide) (htb _ kF_X5_137) (fun _ h9 => h9) rfl dX5_readSegment_137 ?_
          refine lv_aload_n hx hb dX5_readSegment_140 rfl (lv_at hl 0 rfl) ?_
          refine va_get (D := D) (ci := 5) (v := .ref (b 3)) (fs := [.int th, .int N, .ref (b 1), .ref (b 2), .ref (b 3), .ref (b 4), .ref (b 5), .ref (b 6), .int 22, .int 95, .int nd.1, .int nd.2.2.1, .int nd.2.1, .long nd.2.2.2, .int 2, .int (nI e), .int (nI u), .int (nI (d + (rc e d))), .int t.2.2.2.2.2, .ref (b 7), .long (lN (lo + 4294967296 * hg)), .int 1, .ref (b 8), .ref (b 9), .ref (b 10), .int ((ro z ob).2.2.2.1), .int ((ro z ob).2.2.2.2)]) (C := RX5) (T := TX5) (N := 27) hx hb htb inX5 hown hK hP 0 rfl rfl 4 (by decide) (htb _ kF_X5_16) (fun _ h9 => h9) rfl dX5_readSegment_141 ?_
          refine lv_aload_n hx hb dX5_readSegment_144 rfl (lv_at hl 0 rfl) ?_
          refine va_get (D := D) (ci := 5) (v := .int (nI e)) (fs := [.int th, .int N, .ref (b 1), .ref (b 2), .ref (b 3), .ref (b 4), .ref (b 5), .ref (b 6), .int 22, .int 95, .int nd.1, .int nd.2.2.1, .int nd.2.1, .long nd.2.2.2, .int 2, .int (nI e), .int (nI u), .int (nI (d + (rc e d))), .int t.2.2.2.2.2, .ref (b 7), .long (lN (lo + 4294967296 * hg)), .int 1, .ref (b 8), .ref (b 9), .ref (b 10), .int ((ro z ob).2.2.2.1), .int ((ro z ob).2.2.2.2)]) (C := RX5) (T := TX5) (N := 27) hx hb htb inX5 hown hK hP 0 rfl rfl 15 (by decide) (htb _ kF_X5_128) (fun _ h9 => h9) rfl dX5_readSegment_145 ?_
          refine va_iald (i := nI e) hx hb hK hP 3 0 rfl rfl (vp_in_nI (by omega) (by decide)) dX5_readSegment_148 ?_
          refine zb_ti (y := nI (xZ e)) (by rw [nI_clamp (by omega)]) ?_
          refine lv_icmp_ne (tgt := 156) hx hb dX5_readSegment_149 (by decide) (fun hc12 => ?_) (fun hc12 => ?_)
          · refine lv_iconst (v := 0) hx hb dX5_readSegment_156 (by decide) ?_
            refine lv_istore hx hb dX5_readSegment_157 hl (by decide) rfl (fun ls hl => ?_)
            have hl : lv_has ls 6 [(5, .int 0), (0, .ref (b 0)), (1, .int (nI fi)), (2, .int (nI (rc e d))), (3, .long (lN (sm f (xP e + d) (rc e d) * 256)))] := hl
            refine lv_aload_n hx hb dX5_readSegment_159 rfl (lv_at hl 1 rfl) ?_
            refine lv_sipush (v := 1408) hx hb dX5_readSegment_160 (by decide) ?_
            refine lv_aload_n hx hb dX5_readSegment_163 rfl (lv_at hl 1 rfl) ?_
            refine va_get (D := D) (ci := 5) (v := .int N) (fs := [.int th, .int N, .ref (b 1), .ref (b 2), .ref (b 3), .ref (b 4), .ref (b 5), .ref (b 6), .int 22, .int 95, .int nd.1, .int nd.2.2.1, .int nd.2.1, .long nd.2.2.2, .int 2, .int (nI e), .int (nI u), .int (nI (d + (rc e d))), .int t.2.2.2.2.2, .ref (b 7), .long (lN (lo + 4294967296 * hg)), .int 1, .ref (b 8), .ref (b 9), .ref (b 10), .int ((ro z ob).2.2.2.1), .int ((ro z ob).2.2.2.2)]) (C := RX5) (T := TX5) (N := 27) hx hb htb inX5 hown hK hP 0 rfl rfl 1 (by decide) (htb _ kF_X5_41) (fun _ h9 => h9) rfl dX5_readSegment_164 ?_
            refine lv_iadd hx hb dX5_readSegment_167 ?_
            refine lv_bipush (v := 8) hx hb dX5_readSegment_168 (by decide) ?_
            refine lv_lload_n hx hb dX5_readSegment_170 rfl (lv_at hl 4 rfl) ?_
            refine lv_iload_n hx hb dX5_readSegment_171 rfl (lv_at hl 2 rfl) ?_
            refine lv_bipush (v := 16) hx hb dX5_readSegment_172 (by decide) ?_
            refine lv_iand hx hb dX5_readSegment_174 ?_
            refine lv_iconst (v := 2) hx hb dX5_readSegment_175 (by decide) ?_
            refine lv_bipush (v := 7) hx hb dX5_readSegment_176 (by decide) ?_
            refine lv_iload_n hx hb dX5_readSegment_178 rfl (lv_at hl 3 rfl) ?_
            refine lv_isub hx hb dX5_readSegment_179 ?_
            refine lv_imul hx hb dX5_readSegment_180 ?_
            refine lv_iadd hx hb dX5_readSegment_181 ?_
            refine lv_iload hx hb dX5_readSegment_182 (lv_at hl 0 rfl) ?_
            refine lv_if_eq (tgt := 191) hx hb dX5_readSegment_184 (by decide) (fun _ => ?_) (fun hno => absurd (by decide) hno)
            refine lv_iconst (v := 0) hx hb dX5_readSegment_191 (by decide) ?_
            refine lv_iadd hx hb dX5_readSegment_192 ?_
            refine zb_ti (y := nI (fi / 16 % 2 * 16 + 2 * (7 - rc e d) + 0)) (by rw [hd16 hfi hrc7]; exact nI_add _ 0) ?_
            have h8r := sm_lt hB (xP e + d) (rc e d)
            have h9r : 2 ^ (8 * rc e d) ≤ 2 ^ 56 := Nat.pow_le_pow_right (by decide) (by omega)
            refine lv_i2l hx hb dX5_readSegment_193 rfl ?_
            refine lv_lor hx hb dX5_readSegment_194 ?_
            refine zb_tl (y := lN (rx f fi e d 0)) (rx_or2 (b := fi / 16 % 2 * 16 + 2 * (7 - rc e d) + 0) (by omega) (by omega)) ?_
            refine zb_cv (va_runV (As := [.int (1408 + N), .int 8, .long (lN (rx f fi e d 0))]) (rest := []) ⟨hx, hb, hml, hown, htb⟩ (r_send l D b cA cJ N f z ob (t.1, 2, nI e, nI u, nI (d + (rc e d)), t.2.2.2.2.2) nd (lN (lo + 4294967296 * hg)) 1 th _ kp (1408 + N) 8 (rx f fi e d 0) hkp hkp32 (by unfold rx; omega)) (cwV 3 htb (wb_V kM_X5_78 kI_X5_send kS_X5_send kN_X5 kD_X5_send) rfl rfl rfl (by decide +kernel) ⟨Nat.le_of_ble_eq_true rfl, Nat.le_of_ble_eq_true rfl⟩) (zp_VW 0 rfl rfl hP hD hK hSt hS hA hnw) rfl rfl hl.1 rfl (lv_room (Nat.le_of_ble_eq_true rfl)) dX5_readSegment_195 ⟨Nat.le_of_ble_eq_true rfl, Nat.le_of_ble_eq_true rfl⟩) hD hS hA (fun H locs hP hD hS => ?_)
            have hP : va_P D vwCl (rw0 b cA cJ N f (ro z (ob_send ob (1408 + N) 8 (rx f fi e d 0))) (t.1, 2, nI e, nI u, nI (d + (rc e d)), t.2.2.2.2.2) nd (lN (lo + 4294967296 * hg)) 1 th) H := hP
            have hD : va_D A (rw0 b cA cJ N f (ro z (ob_send ob (1408 + N) 8 (rx f fi e d 0))) (t.1, 2, nI e, nI u, nI (d + (rc e d)), t.2.2.2.2.2) nd (lN (lo + 4294967296 * hg)) 1 th) := hD
            refine lv_aload_n hx hb dX5_readSegment_198 rfl (lv_at hl 1 rfl) ?_
            refine lv_iload hx hb dX5_readSegment_199 (lv_at hl 0 rfl) ?_
            refine lv_if_eq (tgt := 208) hx hb dX5_readSegment_201 (by decide) (fun _ => ?_) (fun hno => absurd (by decide) hno)
            refine lv_iconst (v := 2) hx hb dX5_readSegment_208 (by decide) ?_
            refine va_put (D := D) (ci := 5) (v := .int 2) (fs := [.int th, .int N, .ref (b 1), .ref (b 2), .ref (b 3), .ref (b 4), .ref (b 5), .ref (b 6), .int 22, .int 95, .int nd.1, .int nd.2.2.1, .int nd.2.1, .long nd.2.2.2, .int 2, .int (nI e), .int (nI u), .int (nI (d + (rc e d))), .int t.2.2.2.2.2, .ref (b 7), .long (lN (lo + 4294967296 * hg)), .int 1, .ref (b 8), .ref (b 9), .ref (b 10), .int ((ro z (ob_send ob (1408 + N) 8 (rx f fi e d 0))).2.2.2.1), .int ((ro z (ob_send ob (1408 + N) 8 (rx f fi e d 0))).2.2.2.2)]) (ty := .int) (C := RX5) (T := TX5) (N := 27) hx hb htb inX5 tyX5 tyX5_ok nmX5 hown hK hP hD hS 0 rfl rfl 14 (by decide) (htb _ kF_X5_85) (fun _ h9 => h9) rfl (by decide +kernel) rfl rfl (Nat.le_of_ble_eq_true rfl) dX5_readSegment_209 (fun H locs hP hD hS => ?_)
            have hP : va_P D vwCl (rw0 b cA cJ N f (ro z (ob_send ob (1408 + N) 8 (rx f fi e d 0))) (t.1, 2, nI e, nI u, nI (d + (rc e d)), t.2.2.2.2.2) nd (lN (lo + 4294967296 * hg)) 1 th) H := hP
            have hD : va_D A (rw0 b cA cJ N f (ro z (ob_send ob (1408 + N) 8 (rx f fi e d 0))) (t.1, 2, nI e, nI u, nI (d + (rc e d)), t.2.2.2.2.2) nd (lN (lo + 4294967296 * hg)) 1 th) := hD
            refine lv_aload_n hx hb dX5_readSegment_212 rfl (lv_at hl 1 rfl) ?_
            refine lv_iconst (v := 1) hx hb dX5_readSegment_213 (by decide) ?_
            refine lv_aload_n hx hb dX5_readSegment_214 rfl (lv_at hl 1 rfl) ?_
            refine va_get (D := D) (ci := 5) (v := .int (nI u)) (fs := [.int th, .int N, .ref (b 1), .ref (b 2), .ref (b 3), .ref (b 4), .ref (b 5), .ref (b 6), .int 22, .int 95, .int nd.1, .int nd.2.2.1, .int nd.2.1, .long nd.2.2.2, .int 2, .int (nI e), .int (nI u), .int (nI (d + (rc e d))), .int t.2.2.2.2.2, .ref (b 7), .long (lN (lo + 4294967296 * hg)), .int 1, .ref (b 8), .ref (b 9), .ref (b 10), .int ((ro z (ob_send ob (1408 + N) 8 (rx f fi e d 0))).2.2.2.1), .int ((ro z (ob_send ob (1408 + N) 8 (rx f fi e d 0))).2.2.2.2)]) (C := RX5) (T := TX5) (N := 27) hx hb htb inX5 hown hK hP 0 rfl rfl 16 (by decide) (htb _ kF_X5_134) (fun _ h9 => h9) rfl dX5_readSegment_215 ?_
            refine lv_isub hx hb dX5_readSegment_218 ?_
            refine va_put (D := D) (ci := 5) (v := .int (1 - (nI u))) (fs := [.int th, .int N, .ref (b 1), .ref (b 2), .ref (b 3), .ref (b 4), .ref (b 5), .ref (b 6), .int 22, .int 95, .int nd.1, .int nd.2.2.1, .int nd.2.1, .long nd.2.2.2, .int 2, .int (nI e), .int (nI u), .int (nI (d + (rc e d))), .int t.2.2.2.2.2, .ref (b 7), .long (lN (lo + 4294967296 * hg)), .int 1, .ref (b 8), .ref (b 9), .ref (b 10), .int ((ro z (ob_send ob (1408 + N) 8 (rx f fi e d 0))).2.2.2.1), .int ((ro z (ob_send ob (1408 + N) 8 (rx f fi e d 0))).2.2.2.2)]) (ty := .int) (C := RX5) (T := TX5) (N := 27) hx hb htb inX5 tyX5 tyX5_ok nmX5 hown hK hP hD hS 0 rfl rfl 16 (by decide) (htb _ kF_X5_134) (fun _ h9 => h9) rfl (by decide +kernel) rfl rfl (Nat.le_of_ble_eq_true rfl) dX5_readSegment_219 (fun H locs hP hD hS => ?_)
            have hP : va_P D vwCl (rw0 b cA cJ N f (ro z (ob_send ob (1408 + N) 8 (rx f fi e d 0))) (t.1, 2, nI e, 1 - (nI u), nI (d + (rc e d)), t.2.2.2.2.2) nd (lN (lo + 4294967296 * hg)) 1 th) H := hP
            have hD : va_D A (rw0 b cA cJ N f (ro z (ob_send ob (1408 + N) 8 (rx f fi e d 0))) (t.1, 2, nI e, 1 - (nI u), nI (d + (rc e d)), t.2.2.2.2.2) nd (lN (lo + 4294967296 * hg)) 1 th) := hD
            refine lv_aload_n hx hb dX5_readSegment_222 rfl (lv_at hl 1 rfl) ?_
            refine lv_iconst (v := 0) hx hb dX5_readSegment_223 (by decide) ?_
            refine va_put (D := D) (ci := 5) (v := .int 0) (fs := [.int th, .int N, .ref (b 1), .ref (b 2), .ref (b 3), .ref (b 4), .ref (b 5), .ref (b 6), .int 22, .int 95, .int nd.1, .int nd.2.2.1, .int nd.2.1, .long nd.2.2.2, .int 2, .int (nI e), .int (1 - (nI u)), .int (nI (d + (rc e d))), .int t.2.2.2.2.2, .ref (b 7), .long (lN (lo + 4294967296 * hg)), .int 1, .ref (b 8), .ref (b 9), .ref (b 10), .int ((ro z (ob_send ob (1408 + N) 8 (rx f fi e d 0))).2.2.2.1), .int ((ro z (ob_send ob (1408 + N) 8 (rx f fi e d 0))).2.2.2.2)]) (ty := .int) (C := RX5) (T := TX5) (N := 27) hx hb htb inX5 tyX5 tyX5_ok nmX5 hown hK hP hD hS 0 rfl rfl 18 (by decide) (htb _ kF_X5_94) (fun _ h9 => h9) rfl (by decide +kernel) rfl rfl (Nat.le_of_ble_eq_true rfl) dX5_readSegment_224 (fun H locs hP hD hS => ?_)
            have hP : va_P D vwCl (rw0 b cA cJ N f (ro z (ob_send ob (1408 + N) 8 (rx f fi e d 0))) (t.1, 2, nI e, 1 - (nI u), nI (d + (rc e d)), 0) nd (lN (lo + 4294967296 * hg)) 1 th) H := hP
            have hD : va_D A (rw0 b cA cJ N f (ro z (ob_send ob (1408 + N) 8 (rx f fi e d 0))) (t.1, 2, nI e, 1 - (nI u), nI (d + (rc e d)), 0) nd (lN (lo + 4294967296 * hg)) 1 th) := hD
            have hs9 : sF tr fi 0 = 0 := sF_0 hg1 hw1 hfi hu2 htu hc5
            have hK9 : kRSeg N f ob tr nd fi e d ad = (f, (ob_send ob (1408 + N) 8 (rx f fi e d 0)), tr_next (trR tr e d), nd) := by simp only [kRSeg, hs9, if_pos (show nI 0 = 0 from rfl), if_neg (show ¬ nI (xZ e - (d + rc e d)) = 0 from fun h => hc12 (by rw [show d + rc e d = xZ e by have := (nI_eq (b := 0) (by omega) (by decide)).mp h; omega]))]
            rw [hQ]
            have hw9 : (rw0 b cA cJ N f (ro z (ob_send ob (1408 + N) 8 (rx f fi e d 0))) (t.1, 2, nI e, 1 - (nI u), nI (d + (rc e d)), 0) nd (lN (lo + 4294967296 * hg)) 1 th) = r4 b cA cJ N z th (kRSeg N f ob tr nd fi e d ad) ((t.1, 2, nI e, 1 - (nI u), nI (d + (rc e d)), 0), (lN (lo + 4294967296 * hg)), 1) := by rw [hK9]; rfl
            have hr9 : rel2 (kRSeg N f ob tr nd fi e d ad).2.2.1 (t.1, 2, nI e, 1 - (nI u), nI (d + (rc e d)), 0) := by rw [hK9]; exact rel_next (tr := (trR tr e d)) he hrc9 hN1 rfl hrh hN3 had hadd hg1 (Or.inr ⟨hw1, rfl⟩) hu2 htu rfl
            exact W.vret hx hb hr (fun t9 ht hW => ⟨rfl, ((t.1, 2, nI e, 1 - (nI u), nI (d + (rc e d)), 0), (lN (lo + 4294967296 * hg)), 1), hr9, by rw [ht, ← hw9]; exact hP, by rw [← hw9]; exact hD, hS.F ht⟩) hS.2.2 dX5_readSegment_227
          refine lv_iconst (v := 1) hx hb dX5_readSegment_152 (by decide) ?_
          refine lv_goto (tgt := 157) hx hb dX5_readSegment_153 (by decide) ?_
          refine lv_istore hx hb dX5_readSegment_157 hl (by decide) rfl (fun ls hl => ?_)
          have hl : lv_has ls 6 [(5, .int 1), (0, .ref (b 0)), (1, .int (nI fi)), (2, .int (nI (rc e d))), (3, .long (lN (sm f (xP e + d) (rc e d) * 256)))] := hl
          refine lv_aload_n hx hb dX5_readSegment_159 rfl (lv_at hl 1 rfl) ?_
          refine lv_sipush (v := 1408) hx hb dX5_readSegment_160 (by decide) ?_
          refine lv_aload_n hx hb dX5_readSegment_163 rfl (lv_at hl 1 rfl) ?_
          refine va_get (D := D) (ci := 5) (v := .int N) (fs := [.int th, .int N, .ref (b 1), .ref (b 2), .ref (b 3), .ref (b 4), .ref (b 5), .ref (b 6), .int 22, .int 95, .int nd.1, .int nd.2.2.1, .int nd.2.1, .long nd.2.2.2, .int 2, .int (nI e), .int (nI u), .int (nI (d + (rc e d))), .int t.2.2.2.2.2, .ref (b 7), .long (lN (lo + 4294967296 * hg)), .int 1, .ref (b 8), .ref (b 9), .ref (b 10), .int ((ro z ob).2.2.2.1), .int ((ro z ob).2.2.2.2)]) (C := RX5) (T := TX5) (N := 27) hx hb htb inX5 hown hK hP 0 rfl rfl 1 (by decide) (htb _ kF_X5_41) (fun _ h9 => h9) rfl dX5_readSegment_164 ?_
          refine lv_iadd hx hb dX5_readSegment_167 ?_
          refine lv_bipush (v := 8) hx hb dX5_readSegment_168 (by decide) ?_
          refine lv_lload_n hx hb dX5_readSegment_170 rfl (lv_at hl 4 rfl) ?_
          refine lv_iload_n hx hb dX5_readSegment_171 rfl (lv_at hl 2 rfl) ?_
          refine lv_bipush (v := 16) hx hb dX5_readSegment_172 (by decide) ?_
          refine lv_iand hx hb dX5_readSegment_174 ?_
          refine lv_iconst (v := 2) hx hb dX5_readSegment_175 (by decide) ?_
          refine lv_bipush (v := 7) hx hb dX5_readSegment_176 (by decide) ?_
          refine lv_iload_n hx hb dX5_readSegment_178 rfl (lv_at hl 3 rfl) ?_
          refine lv_isub hx hb dX5_readSegment_179 ?_
          refine lv_imul hx hb dX5_readSegment_180 ?_
          refine lv_iadd hx hb dX5_readSegment_181 ?_
          refine lv_iload hx hb dX5_readSegment_182 (lv_at hl 0 rfl) ?_
          refine lv_if_eq (tgt := 191) hx hb dX5_readSegment_184 (by decide) (fun hno => absurd hno (by decide)) (fun _ => ?_)
          refine lv_iconst (v := 1) hx hb dX5_readSegment_187 (by decide) ?_
          refine lv_goto (tgt := 192) hx hb dX5_readSegment_188 (by decide) ?_
          refine lv_iadd hx hb dX5_readSegment_192 ?_
          refine zb_ti (y := nI (fi / 16 % 2 * 16 + 2 * (7 - rc e d) + 1)) (by rw [hd16 hfi hrc7]; exact nI_add _ 1) ?_
          have h8r := sm_lt hB (xP e + d) (rc e d)
          have h9r : 2 ^ (8 * rc e d) ≤ 2 ^ 56 := Nat.pow_le_pow_right (by decide) (by omega)
          refine lv_i2l hx hb dX5_readSegment_193 rfl ?_
          refine lv_lor hx hb dX5_readSegment_194 ?_
          refine zb_tl (y := lN (rx f fi e d 1)) (rx_or2 (b := fi / 16 % 2 * 16 + 2 * (7 - rc e d) + 1) (by omega) (by omega)) ?_
          refine zb_cv (va_runV (As := [.int (1408 + N), .int 8, .long (lN (rx f fi e d 1))]) (rest := []) ⟨hx, hb, hml, hown, htb⟩ (r_send l D b cA cJ N f z ob (t.1, 2, nI e, nI u, nI (d + (rc e d)), t.2.2.2.2.2) nd (lN (lo + 4294967296 * hg)) 1 th _ kp (1408 + N) 8 (rx f fi e d 1) hkp hkp32 (by unfold rx; omega)) (cwV 3 htb (wb_V kM_X5_78 kI_X5_send kS_X5_send kN_X5 kD_X5_send) rfl rfl rfl (by decide +kernel) ⟨Nat.le_of_ble_eq_true rfl, Nat.le_of_ble_eq_true rfl⟩) (zp_VW 0 rfl rfl hP hD hK hSt hS hA hnw) rfl rfl hl.1 rfl (lv_room (Nat.le_of_ble_eq_true rfl)) dX5_readSegment_195 ⟨Nat.le_of_ble_eq_true rfl, Nat.le_of_ble_eq_true rfl⟩) hD hS hA (fun H locs hP hD hS => ?_)
          have hP : va_P D vwCl (rw0 b cA cJ N f (ro z (ob_send ob (1408 + N) 8 (rx f fi e d 1))) (t.1, 2, nI e, nI u, nI (d + (rc e d)), t.2.2.2.2.2) nd (lN (lo + 4294967296 * hg)) 1 th) H := hP
          have hD : va_D A (rw0 b cA cJ N f (ro z (ob_send ob (1408 + N) 8 (rx f fi e d 1))) (t.1, 2, nI e, nI u, nI (d + (rc e d)), t.2.2.2.2.2) nd (lN (lo + 4294967296 * hg)) 1 th) := hD
          refine lv_aload_n hx hb dX5_readSegment_198 rfl (lv_at hl 1 rfl) ?_
          refine lv_iload hx hb dX5_readSegment_199 (lv_at hl 0 rfl) ?_
          refine lv_if_eq (tgt := 208) hx hb dX5_readSegment_201 (by decide) (fun hno => absurd hno (by decide)) (fun _ => ?_)
          refine lv_iconst (v := 0) hx hb dX5_readSegment_204 (by decide) ?_
          refine lv_goto (tgt := 209) hx hb dX5_readSegment_205 (by decide) ?_
          refine va_put (D := D) (ci := 5) (v := .int 0) (fs := [.int th, .int N, .ref (b 1), .ref (b 2), .ref (b 3), .ref (b 4), .ref (b 5), .ref (b 6), .int 22, .int 95, .int nd.1, .int nd.2.2.1, .int nd.2.1, .long nd.2.2.2, .int 2, .int (nI e), .int (nI u), .int (nI (d + (rc e d))), .int t.2.2.2.2.2, .ref (b 7), .long (lN (lo + 4294967296 * hg)), .int 1, .ref (b 8), .ref (b 9), .ref (b 10), .int ((ro z (ob_send ob (1408 + N) 8 (rx f fi e d 1))).2.2.2.1), .int ((ro z (ob_send ob (1408 + N) 8 (rx f fi e d 1))).2.2.2.2)]) (ty := .int) (C := RX5) (T := TX5) (N := 27) hx hb htb inX5 tyX5 tyX5_ok nmX5 hown hK hP hD hS 0 rfl rfl 14 (by decide) (htb _ kF_X5_85) (fun _ h9 => h9) rfl (by decide +kernel) rfl rfl (Nat.le_of_ble_eq_true rfl) dX5_readSegment_209 (fun H locs hP hD hS => ?_)
          have hP : va_P D vwCl (rw0 b cA cJ N f (ro z (ob_send ob (1408 + N) 8 (rx f fi e d 1))) (t.1, 0, nI e, nI u, nI (d + (rc e d)), t.2.2.2.2.2) nd (lN (lo + 4294967296 * hg)) 1 th) H := hP
          have hD : va_D A (rw0 b cA cJ N f (ro z (ob_send ob (1408 + N) 8 (rx f fi e d 1))) (t.1, 0, nI e, nI u, nI (d + (rc e d)), t.2.2.2.2.2) nd (lN (lo + 4294967296 * hg)) 1 th) := hD
          refine lv_aload_n hx hb dX5_readSegment_212 rfl (lv_at hl 1 rfl) ?_
          refine lv_iconst (v := 1) hx hb dX5_readSegment_213 (by decide) ?_
          refine lv_aload_n hx hb dX5_readSegment_214 rfl (lv_at hl 1 rfl) ?_
          refine va_get (D := D) (ci := 5) (v := .int (nI u)) (fs := [.int th, .int N, .ref (b 1), .ref (b 2), .ref (b 3), .ref (b 4), .ref (b 5), .ref (b 6), .int 22, .int 95, .int nd.1, .int nd.2.2.1, .int nd.2.1, .long nd.2.2.2, .int 0, .int (nI e), .int (nI u), .int (nI (d + (rc e d))), .int t.2.2.2.2.2, .ref (b 7), .long (lN (lo + 4294967296 * hg)), .int 1, .ref (b 8), .ref (b 9), .ref (b 10), .int ((ro z (ob_send ob (1408 + N) 8 (rx f fi e d 1))).2.2.2.1), .int ((ro z (ob_send ob (1408 + N) 8 (rx f fi e d 1))).2.2.2.2)]) (C := RX5) (T := TX5) (N := 27) hx hb htb inX5 hown hK hP 0 rfl rfl 16 (by decide) (htb _ kF_X5_134) (fun _ h9 => h9) rfl dX5_readSegment_215 ?_
          refine lv_isub hx hb dX5_readSegment_218 ?_
          refine va_put (D := D) (ci := 5) (v := .int (1 - (nI u))) (fs := [.int th, .int N, .ref (b 1), .ref (b 2), .ref (b 3), .ref (b 4), .ref (b 5), .ref (b 6), .int 22, .int 95, .int nd.1, .int nd.2.2.1, .int nd.2.1, .long nd.2.2.2, .int 0, .int (nI e), .int (nI u), .int (nI (d + (rc e d))), .int t.2.2.2.2.2, .ref (b 7), .long (lN (lo + 4294967296 * hg)), .int 1, .ref (b 8), .ref (b 9), .ref (b 10), .int ((ro z (ob_send ob (1408 + N) 8 (rx f fi e d 1))).2.2.2.1), .int ((ro z (ob_send ob (1408 + N) 8 (rx f fi e d 1))).2.2.2.2)]) (ty := .int) (C := RX5) (T := TX5) (N := 27) hx hb htb inX5 tyX5 tyX5_ok nmX5 hown hK hP hD hS 0 rfl rfl 16 (by decide) (htb _ kF_X5_134) (fun _ h9 => h9) rfl (by decide +kernel) rfl rfl (Nat.le_of_ble_eq_true rfl) dX5_readSegment_219 (fun H locs hP hD hS => ?_)
          have hP : va_P D vwCl (rw0 b cA cJ N f (ro z (ob_send ob (1408 + N) 8 (rx f fi e d 1))) (t.1, 0, nI e, 1 - (nI u), nI (d + (rc e d)), t.2.2.2.2.2) nd (lN (lo + 4294967296 * hg)) 1 th) H := hP
          have hD : va_D A (rw0 b cA cJ N f (ro z (ob_send ob (1408 + N) 8 (rx f fi e d 1))) (t.1, 0, nI e, 1 - (nI u), nI (d + (rc e d)), t.2.2.2.2.2) nd (lN (lo + 4294967296 * hg)) 1 th) := hD
          refine lv_aload_n hx hb dX5_readSegment_222 rfl (lv_at hl 1 rfl) ?_
          refine lv_iconst (v := 0) hx hb dX5_readSegment_223 (by decide) ?_
          refine va_put (D := D) (ci := 5) (v := .int 0) (fs := [.int th, .int N, .ref (b 1), .ref (b 2), .ref (b 3), .ref (b 4), .ref (b 5), .ref (b 6), .int 22, .int 95, .int nd.1, .int nd.2.2.1, .int nd.2.1, .long nd.2.2.2, .int 0, .int (nI e), .int (1 - (nI u)), .int (nI (d + (rc e d))), .int t.2.2.2.2.2, .ref (b 7), .long (lN (lo + 4294967296 * hg)), .int 1, .ref (b 8), .ref (b 9), .ref (b 10), .int ((ro z (ob_send ob (1408 + N) 8 (rx f fi e d 1))).2.2.2.1), .int ((ro z (ob_send ob (1408 + N) 8 (rx f fi e d 1))).2.2.2.2)]) (ty := .int) (C := RX5) (T := TX5) (N := 27) hx hb htb inX5 tyX5 tyX5_ok nmX5 hown hK hP hD hS 0 rfl rfl 18 (by decide) (htb _ kF_X5_94) (fun _ h9 => h9) rfl (by decide +kernel) rfl rfl (Nat.le_of_ble_eq_true rfl) dX5_readSegment_224 (fun H locs hP hD hS => ?_)
          have hP : va_P D vwCl (rw0 b cA cJ N f (ro z (ob_send ob (1408 + N) 8 (rx f fi e d 1))) (t.1, 0, nI e, 1 - (nI u), nI (d + (rc e d)), 0) nd (lN (lo + 4294967296 * hg)) 1 th) H := hP
          have hD : va_D A (rw0 b cA cJ N f (ro z (ob_send ob (1408 + N) 8 (rx f fi e d 1))) (t.1, 0, nI e, 1 - (nI u), nI (d + (rc e d)), 0) nd (lN (lo + 4294967296 * hg)) 1 th) := hD
          have hs9 : sF tr fi 0 = 0 := sF_0 hg1 hw1 hfi hu2 htu hc5
          have hK9 : kRSeg N f ob tr nd fi e d ad = (f, (ob_send ob (1408 + N) 8 (rx f fi e d 1)), tr_end (trR tr e d), nd) := by simp only [kRSeg, hs9, if_pos (show nI 0 = 0 from rfl), if_pos (show nI (xZ e - (d + rc e d)) = 0 by rw [show xZ e - (d + rc e d) = 0 by have := (nI_eq (by omega) (by omega)).mp hc12; omega]; rfl)]
          rw [hQ]
          have hw9 : (rw0 b cA cJ N f (ro z (ob_send ob (1408 + N) 8 (rx f fi e d 1))) (t.1, 0, nI e, 1 - (nI u), nI (d + (rc e d)), 0) nd (lN (lo + 4294967296 * hg)) 1 th) = r4 b cA cJ N z th (kRSeg N f ob tr nd fi e d ad) ((t.1, 0, nI e, 1 - (nI u), nI (d + (rc e d)), 0), (lN (lo + 4294967296 * hg)), 1) := by rw [hK9]; rfl
          have hr9 : rel2 (kRSeg N f ob tr nd fi e d ad).2.2.1 (t.1, 0, nI e, 1 - (nI u), nI (d + (rc e d)), 0) := by rw [hK9]; exact rel_off (tr := (trR tr e d)) he hrc9 hN1 rfl hrh _
          exact W.vret hx hb hr (fun t9 ht hW => ⟨rfl, ((t.1, 0, nI e, 1 - (nI u), nI (d + (rc e d)), 0), (lN (lo + 4294967296 * hg)), 1), hr9, by rw [ht, ← hw9]; exact hP, by rw [← hw9]; exact hD, hS.F ht⟩) hS.2.2 dX5_readSegment_227
        | succ nn ih_lp =>
          intro k ls H locs hP hD hS hk_lp  hl
          have hk1_lp : k < rc e d := by omega
          refine lv_iload hx hb dX5_readSegment_80 (lv_at hl 4 rfl) ?_
          refine lv_iload_n hx hb dX5_readSegment_82 rfl (lv_at hl 2 rfl) ?_
          refine lv_icmp_ge (tgt := 126) hx hb dX5_readSegment_83 (by decide) (fun hno => absurd hno (nI_ge (a := k) (b := rc e d) hk1_lp (by omega))) (fun _ => ?_)
          refine lv_lload_n hx hb dX5_readSegment_86 rfl (lv_at hl 3 rfl) ?_
          refine lv_aload_n hx hb dX5_readSegment_87 rfl (lv_at hl 0 rfl) ?_
          refine va_get (D := D) (ci := 5) (v := .ref (b 6)) (fs := [.int th, .int N, .ref (b 1), .ref (b 2), .ref (b 3), .ref (b 4), .ref (b 5), .ref (b 6), .int 22, .int 95, .int nd.1, .int nd.2.2.1, .int nd.2.1, .long nd.2.2.2, .int 2, .int (nI e), .int (nI u), .int (nI d), .int t.2.2.2.2.2, .ref (b 7), .long (lN (lo + 4294967296 * hg)), .int 1, .ref (b 8), .ref (b 9), .ref (b 10), .int ((ro z ob).2.2.2.1), .int ((ro z ob).2.2.2.2)]) (C := RX5) (T := TX5) (N := 27) hx hb htb inX5 hown hK hP 0 rfl rfl 7 (by decide) (htb _ kF_X5_25) (fun _ h9 => h9) rfl dX5_readSegment_88 ?_
          refine lv_aload_n hx hb dX5_readSegment_91 rfl (lv_at hl 0 rfl) ?_
          refine va_get (D := D) (ci := 5) (v := .ref (b 5)) (fs := [.int th, .int N, .ref (b 1), .ref (b 2), .ref (b 3), .ref (b 4), .ref (b 5), .ref (b 6), .int 22, .int 95, .int nd.1, .int nd.2.2.1, .int nd.2.1, .long nd.2.2.2, .int 2, .int (nI e), .int (nI u), .int (nI d), .int t.2.2.2.2.2, .ref (b 7), .long (lN (lo + 4294967296 * hg)), .int 1, .ref (b 8), .ref (b 9), .ref (b 10), .int ((ro z ob).2.2.2.1), .int ((ro z ob).2.2.2.2)]) (C := RX5) (T := TX5) (N := 27) hx hb htb inX5 hown hK hP 0 rfl rfl 6 (by decide) (htb _ kF_X5_22) (fun _ h9 => h9) rfl dX5_readSegment_92 ?_
          refine lv_aload_n hx hb dX5_readSegment_95 rfl (lv_at hl 0 rfl) ?_
          refine va_get (D := D) (ci := 5) (v := .int (nI e)) (fs := [.int th, .int N, .ref (b 1), .ref (b 2), .ref (b 3), .ref (b 4), .ref (b 5), .ref (b 6), .int 22, .int 95, .int nd.1, .int nd.2.2.1, .int nd.2.1, .long nd.2.2.2, .int 2, .int (nI e), .int (nI u), .int (nI d), .int t.2.2.2.2.2, .ref (b 7), .long (lN (lo + 4294967296 * hg)), .int 1, .ref (b 8), .ref (b 9), .ref (b 10), .int ((ro z ob).2.2.2.1), .int ((ro z ob).2.2.2.2)]) (C := RX5) (T := TX5) (N := 27) hx hb htb inX5 hown hK hP 0 rfl rfl 15 (by decide) (htb _ kF_X5_128) (fun _ h9 => h9) rfl dX5_readSegment_96 ?_
          refine va_iald (i := nI e) hx hb hK hP 5 0 rfl rfl (vp_in_nI (by omega) (by decide)) dX5_readSegment_99 ?_
          refine zb_ti (y := nI (xP e)) (by rw [nI_clamp (by omega)]) ?_
          refine lv_aload_n hx hb dX5_readSegment_100 rfl (lv_at hl 0 rfl) ?_
          refine va_get (D := D) (ci := 5) (v := .int (nI d)) (fs := [.int th, .int N, .ref (b 1), .ref (b 2), .ref (b 3), .ref (b 4), .ref (b 5), .ref (b 6), .int 22, .int 95, .int nd.1, .int nd.2.2.1, .int nd.2.1, .long nd.2.2.2, .int 2, .int (nI e), .int (nI u), .int (nI d), .int t.2.2.2.2.2, .ref (b 7), .long (lN (lo + 4294967296 * hg)), .int 1, .ref (b 8), .ref (b 9), .ref (b 10), .int ((ro z ob).2.2.2.1), .int ((ro z ob).2.2.2.2)]) (C := RX5) (T := TX5) (N := 27) hx hb htb inX5 hown hK hP 0 rfl rfl 17 (by decide) (htb _ kF_X5_137) (fun _ h9 => h9) rfl dX5_readSegment_101 ?_
          refine lv_iadd hx hb dX5_readSegment_104 ?_
          refine zb_ti (nI_add (xP e) d) ?_
          refine lv_iload hx hb dX5_readSegment_105 (lv_at hl 4 rfl) ?_
          refine lv_iadd hx hb dX5_readSegment_107 ?_
          refine zb_ti (nI_add ((xP e) + d) (k)) ?_
          refine va_iald (i := nI (((xP e) + d) + (k))) hx hb hK hP 6 0 rfl rfl (vp_in_nI (by omega) (by decide)) dX5_readSegment_108 ?_
          refine zb_ti (y := f (((xP e) + d) + (k))) (by rw [nI_clamp (by omega)]) ?_
          refine lv_i2l hx hb dX5_readSegment_109 rfl ?_
          refine lv_bipush (v := 8) hx hb dX5_readSegment_110 (by decide) ?_
          refine lv_iload hx hb dX5_readSegment_112 (lv_at hl 4 rfl) ?_
          refine lv_iconst (v := 1) hx hb dX5_readSegment_114 (by decide) ?_
          refine lv_iadd hx hb dX5_readSegment_115 ?_
          refine zb_ti (nI_add (k) 1) ?_
          refine lv_imul hx hb dX5_readSegment_116 ?_
          refine zb_ti (pk_mul 8 ((k) + 1)) ?_
          refine lv_lshl hx hb dX5_readSegment_117 rfl ?_
          refine lv_lor hx hb dX5_readSegment_118 ?_
          refine zb_tl (y := lN (sm f (xP e + d) (k + 1) * 256)) (rs_j hB (by omega)) ?_
          refine lv_lstore_n hx hb dX5_readSegment_119 rfl hl (by decide) rfl (fun ls hl => ?_)
          have hl : lv_has ls 6 [(3, .long (lN (sm f (xP e + d) (k + 1) * 256))), (0, .ref (b 0)), (1, .int (nI fi)), (2, .int (nI (rc e d))), (5, .int (nI (k)))] := hl
          refine lv_iinc (k := 4) (v := nI ((k) + 1)) hx hb dX5_readSegment_120 hl rfl (nI_1 (k)) (by decide) rfl (fun ls hl => ?_)
          have hl : lv_has ls 6 [(5, .int (nI ((k) + 1))), (3, .long (lN (sm f (xP e + d) (k + 1) * 256))), (0, .ref (b 0)), (1, .int (nI fi)), (2, .int (nI (rc e d)))] := hl
          refine lv_goto (tgt := 80) hx hb dX5_readSegment_123 (by decide) ?_
          exact ih_lp (k + 1) ls _ _ hP hD hS (by omega) (lv_sub hl [2, 3, 4, 1, 0] rfl)
      exact lp (rc e d - 0) (0) ls _ _ hP hD hS (by omega) (lv_sub hl [3, 4, 2, 1, 0] rfl)
    refine lv_aload_n hx hb dX5_readSegment_28 rfl (lv_at hl 0 rfl) ?_
    refine lv_ldc (v := 84082688) hx hb hown (htb _ kK_X5_173) dX5_readSegment_29 ?_
    refine lv_iconst (v := 1) hx hb dX5_readSegment_31 (by decide) ?_
    refine zb_cv (va_runV (As := [.int 84082688, .int 1]) (rest := []) ⟨hx, hb, hml, hown, htb⟩ (r_abort1 l D b cA cJ N f z ob (t.1, 2, nI e, nI u, nI d, t.2.2.2.2.2) nd (lo + 4294967296 * hg) 1 th _ tr e d ad 84082688 ho hN (by rw [← hw2, ← hen, ← hdu, ← hdn]; exact hrel0) (by decide)) (cwV 2 htb (wb_V kM_X5_152 kI_X5_abort kS_X5_abort kN_X5 kD_X5_abort) rfl rfl rfl (by decide +kernel) ⟨Nat.le_of_ble_eq_true rfl, Nat.le_of_ble_eq_true rfl⟩) (zp_VW 0 rfl rfl hP hD hK hSt hS hA hnw) rfl rfl hl.1 rfl (lv_room (Nat.le_of_ble_eq_true rfl)) dX5_readSegment_32 ⟨Nat.le_of_ble_eq_true rfl, Nat.le_of_ble_eq_true rfl⟩) hD hS hA (fun H locs hP hD hS => ?_)
    have hP : va_P D vwCl (rw0 b cA cJ N f (ro z (kAns N ob 128 ad 84082688)) (t.1, 0, nI e, nI u, nI d, t.2.2.2.2.2) nd (lN (lo + 4294967296 * hg)) 1 th) H := hP
    have hD : va_D A (rw0 b cA cJ N f (ro z (kAns N ob 128 ad 84082688)) (t.1, 0, nI e, nI u, nI d, t.2.2.2.2.2) nd (lN (lo + 4294967296 * hg)) 1 th) := hD
    have hs9 : sF tr fi 0 = 84082688 := sF_t hg1 hw1 hfi hu2 htu hc5
    have hK9 : kRSeg N f ob tr nd fi e d ad = (f, (kAns N ob 128 ad 84082688), tr_end tr, nd) := by simp only [kRSeg, hs9]; rfl
    rw [hQ]
    have hw9 : (rw0 b cA cJ N f (ro z (kAns N ob 128 ad 84082688)) (t.1, 0, nI e, nI u, nI d, t.2.2.2.2.2) nd (lN (lo + 4294967296 * hg)) 1 th) = r4 b cA cJ N z th (kRSeg N f ob tr nd fi e d ad) ((t.1, 0, nI e, nI u, nI d, t.2.2.2.2.2), (lN (lo + 4294967296 * hg)), 1) := by rw [hK9]; rfl
    have hr9 : rel2 (kRSeg N f ob tr nd fi e d ad).2.2.1 (t.1, 0, nI e, nI u, nI d, t.2.2.2.2.2) := by rw [hK9]; exact rel_off he hd hN1 hN2 hrh _
    exact W.vret hx hb hr (fun t9 ht hW => ⟨rfl, ((t.1, 0, nI e, nI u, nI d, t.2.2.2.2.2), (lN (lo + 4294967296 * hg)), 1), hr9, by rw [ht, ← hw9]; exact hP, by rw [← hw9]; exact hD, hS.F ht⟩) hS.2.2 dX5_readSegment_35
