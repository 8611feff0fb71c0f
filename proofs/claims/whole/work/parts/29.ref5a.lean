theorem x_ad {lo hg : Nat} (hlo : lo < 2 ^ 32) : (lo + 4294967296 * hg) / 256 % 65536 = lo / 256 % 65536 ∧ bN (lo + 4294967296 * hg) 3 = lo / 256 / 65536 ∧ (lo + 4294967296 * hg) / 256 % 65536 + 65536 * bN (lo + 4294967296 * hg) 3 = lo / 256 ∧ bN (lo + 4294967296 * hg) 0 = lo % 256 ∧ (lo + 4294967296 * hg) / 4294967296 = hg := by
  have e3 : bN (lo + 4294967296 * hg) 3 = (lo + 4294967296 * hg) / 16777216 % 256 := rfl
  have e0 : bN (lo + 4294967296 * hg) 0 = (lo + 4294967296 * hg) / 1 % 256 := rfl
  rw [e3, e0]
  omega
theorem b4 {lo hg k : Nat} (hlo : lo < 2 ^ 32) (hhg : hg < 2 ^ 32) (hk : k < 4) : bN (lo + 4294967296 * hg) (4 + k) = bN (sx hg) k := by
  have h1 : bN (lo + 4294967296 * hg) (4 + k) = bN hg k := by
    unfold bN
    rw [show 8 * (4 + k) = 32 + 8 * k by omega, Nat.pow_add, ← Nat.div_div_eq_div_mul, show (lo + 4294967296 * hg) / 2 ^ 32 = hg by omega]
  rw [h1]
  unfold sx
  split
  · rfl
  · rcases (show k = 0 ∨ k = 1 ∨ k = 2 ∨ k = 3 by omega) with rfl | rfl | rfl | rfl
    · show hg / 1 % 256 = (hg + 18446744069414584320) / 1 % 256
      omega
    · show hg / 256 % 256 = (hg + 18446744069414584320) / 256 % 256
      omega
    · show hg / 65536 % 256 = (hg + 18446744069414584320) / 65536 % 256
      omega
    · show hg / 16777216 % 256 = (hg + 18446744069414584320) / 16777216 % 256
      omega
theorem eAt_ad {ad e : Nat} (had : ad < 2 ^ 24) (h : eAt ad = some e) : xI e + 65536 * xS e = ad := by
  obtain ⟨h1, h2, h3⟩ := fd_lt h
  have hf := x_fit e h1
  have b1 := (nI_eq (by omega) (by omega)).mp h2
  have b2 := (nI_eq (by omega) (by omega)).mp h3
  omega
theorem rel_begin {tr : TR} {t : RT} {e ad : Nat} {wr tn : Int32} (h : t.1 = tr.1) (he : e < 22) (had : ad < 2 ^ 24) (hx : xI e + 65536 * xS e = ad) (hw : (wr = 1 ∧ tn = 1) ∨ (wr = 0 ∧ tn = 2)) : rel2 (tr_begin (tr_end tr) (nI e) (nI ad) wr) (t.1, tn, nI e, 0, 0, 0) :=
  ⟨e, 0, ad, ⟨he, Nat.zero_le _, rfl, rfl, rfl, had⟩, h, Or.inr ⟨rfl, hw, rfl, hx.symm, ⟨0, by decide, rfl, rfl⟩, rfl, rfl⟩⟩
theorem rel_off {tr : TR} {e d : Nat} {h : Nat → Int32} (he : e < 22) (hd : d ≤ xZ e) (h1 : tr.2.2.2.1 = nI e) (h2 : tr.2.2.2.2.2.1 = nI d) (h3 : h = tr.1) (y : Int32 × Int32 × Int32 × Int32) : rel2 (tr_end tr) (h, 0, y) :=
  ⟨e, d, 0, ⟨he, hd, h1, h2, rfl, by decide⟩, h3, Or.inl ⟨rfl, rfl, rfl⟩⟩
theorem rel2_h {tr : TR} {t : RT} (h : rel2 tr t) : t.1 = tr.1 := by
  obtain ⟨e, d, ad, -, h7, -⟩ := h
  exact h7
theorem lF_0 {fi z : Nat} {hg L : Int32} (h : lenOf fi hg z = L) (h2 : L = nI z) : lF fi hg z = 0 := by
  unfold lF
  rw [h, h2, if_pos (Int32.le_refl _), if_pos (Int32.le_refl _)]
theorem lF_few {fi z : Nat} {hg L : Int32} (h : lenOf fi hg z = L) (h2 : ¬ L = nI z) (h3 : L ≤ nI z) : lF fi hg z = 101122067 := by
  unfold lF
  rw [h, if_pos h3, if_neg (fun h4 => h2 (Int32.le_antisymm h3 h4))]
theorem lF_many {fi z : Nat} {hg L : Int32} (h : lenOf fi hg z = L) (h3 : ¬ L ≤ nI z) : lF fi hg z = 101122066 := by
  unfold lF
  rw [h, if_neg h3]
theorem min4 {z : Nat} (hz : z ≤ 20) (h : (4 : Int32) ≤ nI z) : (if (4 : Int32) < nI z then 4 else nI z) = (4 : Int32) := by
  split
  · rfl
  · rename_i h2
    exact Int32.le_antisymm (Int32.not_lt.mp h2) h
theorem pF_u0 (h : Nat → Int32) (k x : Nat) : upd (pF h 0 k x 0) k (nI (bN x k)) = pF h 0 (k + 1) x 0 := by
  have h9 := pF_up h 0 k x 0
  rw [Nat.zero_add] at h9
  exact h9
set_option maxHeartbeats 4000000 in
set_option maxRecDepth 100000 in
theorem r_read (l : Launch) (D : va_G) (b : Nat → Nat) (cA cJ : ClassId) (N : Int32) (f : Nat → Int32) (z : Int32) (ob : OB) (t : RT) (nd : ND) (lo hg : Nat) (th : Int32) (sz : Nat) (tr : TR) (hB : isB f) (ho : obK ob) (hlo : lo < 2 ^ 32) (hhg : hg < 2 ^ 32) (hR : rel2 tr t) : Met l yX5_read (wX5_read :: wb) ({ frames := 3, cells := 0, slots := 0, locals := 72 } : Room) (va_Pc [.ref (b 0)] (zPre D [(cA, .int), (cJ, .long)] (rw0 b cA cJ N f (ro z ob) t nd (lN (lo + 4294967296 * hg)) 0 th) sz)) (zb_E none D vwCl (r4 b cA cJ N z th (kRead N f ob tr nd (lo / 256))) (fun y => rel2 (kRead N f ob tr nd (lo / 256)).2.2.1 y.1) (va_A (rw0 b cA cJ N f (ro z ob) t nd (lN (lo + 4294967296 * hg)) 0 th) sz)) 0 0 (va_A (rw0 b cA cJ N f (ro z ob) t nd (lN (lo + 4294967296 * hg)) 0 th) sz) := by
  refine Met.ofW (cc := cX5_read) (maxL := 2) (ret := none) (by decide) rfl ?_
  intro p ev s m args below meth c s₁ B hml hv
  obtain ⟨rfl, hsz, hP, hK, hD0, hSt, hnw⟩ := hv
  have hx := B.exec
  have hb := B.bytes
  have hr := B.returns
  have hts := atoms_spec (ws := wX5_read :: wb) B.pre
  have htb : ∀ w ∈ wb, w.before ([.ref (b 0)]).toArray s = true := fun w h => hts w (List.mem_cons_of_mem _ h)
  have hown : s.vm.findClass RX5 = some m.cls := findClass_of_methodNamed B.named
  have hlocks := B.notSynchronized
  subst hsz
  have hD := hD0.self (sz := s.heap.size)
  clear hD0
  generalize hAe : va_A (rw0 b cA cJ N f (ro z ob) t nd (lN (lo + 4294967296 * hg)) 0 th) s.heap.size = A at hD hSt ⊢
  have hA : ∀ q : Nat, s.heap.size ≤ q → A q := fun q h => by rw [← hAe]; exact Or.inr h
  have hS : va_S A s.heap s.heap [] := va_S.rf
  obtain ⟨⟨tt, ff, hZT, hTT, hZF, hTF⟩, hXS⟩ := id hSt
  have hl := lv_entry ([.ref (b 0)]) (n := 2) (Nat.le_of_ble_eq_true rfl)
  rw [lg_entry_eq]
  generalize (lg_sl ([.ref (b 0)]) ++ List.replicate (2 - (lg_sl ([.ref (b 0)])).length) Slot.unset).toArray = ls at hl ⊢
  have hl : lv_has ls 2 [(0, .ref (b 0))] := hl
  refine zb_abs (fun Q hQ => ?_)
  have hxa := x_ad (lo := lo) (hg := hg) hlo
  refine lv_aload_n hx hb dX5_read_0 rfl (lv_at hl 0 rfl) ?_
  refine lv_iconst (v := 0) hx hb dX5_read_1 (by decide) ?_
  refine va_put (D := D) (ci := 5) (v := .int 0) (fs := [.int th, .int N, .ref (b 1), .ref (b 2), .ref (b 3), .ref (b 4), .ref (b 5), .ref (b 6), .int 22, .int 95, .int nd.1, .int nd.2.2.1, .int nd.2.1, .long nd.2.2.2, .int t.2.1, .int t.2.2.1, .int t.2.2.2.1, .int t.2.2.2.2.1, .int t.2.2.2.2.2, .ref (b 7), .long (lN (lo + 4294967296 * hg)), .int 0, .ref (b 8), .ref (b 9), .ref (b 10), .int ((ro z ob).2.2.2.1), .int ((ro z ob).2.2.2.2)]) (ty := .int) (C := RX5) (T := TX5) (N := 27) hx hb htb inX5 tyX5 tyX5_ok nmX5 hown hK hP hD hS 0 rfl rfl 14 (by decide) (htb _ kF_X5_85) (fun _ h9 => h9) rfl (by decide +kernel) rfl rfl (Nat.le_of_ble_eq_true rfl) dX5_read_2 (fun H locs hP hD hS => ?_)
  have hP : va_P D vwCl (rw0 b cA cJ N f (ro z ob) (t.1, 0, t.2.2.1, t.2.2.2.1, t.2.2.2.2.1, t.2.2.2.2.2) nd (lN (lo + 4294967296 * hg)) 0 th) H := hP
  have hD : va_D A (rw0 b cA cJ N f (ro z ob) (t.1, 0, t.2.2.1, t.2.2.2.1, t.2.2.2.2.1, t.2.2.2.2.2) nd (lN (lo + 4294967296 * hg)) 0 th) := hD
  refine lv_aload_n hx hb dX5_read_5 rfl (lv_at hl 0 rfl) ?_
  refine lv_aload_n hx hb dX5_read_6 rfl (lv_at hl 0 rfl) ?_
  refine va_get (D := D) (ci := 5) (v := .long (lN (lo + 4294967296 * hg))) (fs := [.int th, .int N, .ref (b 1), .ref (b 2), .ref (b 3), .ref (b 4), .ref (b 5), .ref (b 6), .int 22, .int 95, .int nd.1, .int nd.2.2.1, .int nd.2.1, .long nd.2.2.2, .int 0, .int t.2.2.1, .int t.2.2.2.1, .int t.2.2.2.2.1, .int t.2.2.2.2.2, .ref (b 7), .long (lN (lo + 4294967296 * hg)), .int 0, .ref (b 8), .ref (b 9), .ref (b 10), .int ((ro z ob).2.2.2.1), .int ((ro z ob).2.2.2.2)]) (C := RX5) (T := TX5) (N := 27) hx hb htb inX5 hown hK hP 0 rfl rfl 20 (by decide) (htb _ kF_X5_123) (fun _ h9 => h9) rfl dX5_read_7 ?_
  refine lv_bipush (v := 8) hx hb dX5_read_10 (by decide) ?_
  refine lv_lshr hx hb dX5_read_12 rfl ?_
  refine lv_ldc2 (v := 65535) hx hb hown (htb _ kQ_X5_126) dX5_read_13 ?_
  refine lv_land hx hb dX5_read_16 ?_
  refine lv_l2i hx hb dX5_read_17 rfl ?_
  refine zb_ti (y := nI (lo / 256 % 65536)) (by rw [sar_16, hxa.1]) ?_
  refine lv_aload_n hx hb dX5_read_18 rfl (lv_at hl 0 rfl) ?_
  refine va_get (D := D) (ci := 5) (v := .long (lN (lo + 4294967296 * hg))) (fs := [.int th, .int N, .ref (b 1), .ref (b 2), .ref (b 3), .ref (b 4), .ref (b 5), .ref (b 6), .int 22, .int 95, .int nd.1, .int nd.2.2.1, .int nd.2.1, .long nd.2.2.2, .int 0, .int t.2.2.1, .int t.2.2.2.1, .int t.2.2.2.2.1, .int t.2.2.2.2.2, .ref (b 7), .long (lN (lo + 4294967296 * hg)), .int 0, .ref (b 8), .ref (b 9), .ref (b 10), .int ((ro z ob).2.2.2.1), .int ((ro z ob).2.2.2.2)]) (C := RX5) (T := TX5) (N := 27) hx hb htb inX5 hown hK hP 0 rfl rfl 20 (by decide) (htb _ kF_X5_123) (fun _ h9 => h9) rfl dX5_read_19 ?_
  refine lv_iconst (v := 3) hx hb dX5_read_22 (by decide) ?_
  refine zb_ci (va_runS (As := [.long (lN (lo + 4294967296 * hg)), .int 3]) (rest := [.int (nI (lo / 256 % 65536)), .ref (b 0)]) ⟨hx, hb, hml, hown, htb⟩ (r_byteOf l D b cA cJ N f (ro z ob) (t.1, 0, t.2.2.1, t.2.2.2.1, t.2.2.2.2.1, t.2.2.2.2.2) nd (lN (lo + 4294967296 * hg)) 0 th (lo + 4294967296 * hg) 3 (by omega)) (va_cwS 2 htb (wb_S kM_X5_119 kZ_X5_byteOf kN_X5 kD_X5_byteOf) rfl rfl rfl (by decide +kernel) ⟨Nat.le_of_ble_eq_true rfl, Nat.le_of_ble_eq_true rfl⟩) (zp_S hP hK hSt hS hnw) rfl rfl hl.1 rfl (lv_room (Nat.le_of_ble_eq_true rfl)) dX5_read_23 ⟨Nat.le_of_ble_eq_true rfl, Nat.le_of_ble_eq_true rfl⟩) ?_
  refine zb_ti (y := nI (lo / 256 / 65536)) (by rw [hxa.2.1]) ?_
  refine zb_ci (va_runV (As := [.int (nI (lo / 256 % 65536)), .int (nI (lo / 256 / 65536))]) (rest := []) ⟨hx, hb, hml, hown, htb⟩ (r_find l D b cA cJ N f (ro z ob) (t.1, 0, t.2.2.1, t.2.2.2.1, t.2.2.2.2.1, t.2.2.2.2.2) nd (lN (lo + 4294967296 * hg)) 0 th (nI (lo / 256 % 65536)) (nI (lo / 256 / 65536))) (cwV 2 htb (wb_V kM_X5_156 kI_X5_find kS_X5_find kN_X5 kD_X5_find) rfl rfl rfl (by decide +kernel) ⟨Nat.le_of_ble_eq_true rfl, Nat.le_of_ble_eq_true rfl⟩) (zp_V 0 rfl rfl hP hK hSt hS hnw) rfl rfl hl.1 rfl (lv_room (Nat.le_of_ble_eq_true rfl)) dX5_read_26 ⟨Nat.le_of_ble_eq_true rfl, Nat.le_of_ble_eq_true rfl⟩) ?_
  cases hme : eAt (lo / 256) with
  | none =>
    have hrF : rF (nI (lo / 256 % 65536)) (nI (lo / 256 / 65536)) = (if hi (nI (lo / 256 % 65536)) = true then -1 else -2) := by unfold rF; rw [show fd (nI (lo / 256 % 65536)) (nI (lo / 256 / 65536)) = none from hme]; rfl
    by_cases hc1 : hi (nI (lo / 256 % 65536)) = true
    · refine zb_ti (y := (-1)) (by rw [hrF, if_pos hc1]) ?_
      refine lv_istore_n hx hb dX5_read_29 rfl hl (by decide) rfl (fun ls hl => ?_)
      have hl : lv_has ls 2 [(1, .int (-1)), (0, .ref (b 0))] := hl
      refine lv_iload_n hx hb dX5_read_30 rfl (lv_at hl 0 rfl) ?_
      refine lv_if_ge (tgt := 55) hx hb dX5_read_31 (by decide) (fun hno => absurd hno (by decide)) (fun _ => ?_)
      refine lv_aload_n hx hb dX5_read_34 rfl (lv_at hl 1 rfl) ?_
      refine lv_iload_n hx hb dX5_read_35 rfl (lv_at hl 0 rfl) ?_
      refine lv_bipush (v := (-2)) hx hb dX5_read_36 (by decide) ?_
      refine lv_icmp_ne (tgt := 46) hx hb dX5_read_38 (by decide) (fun _ => ?_) (fun hno => absurd hno (by decide))
      refine lv_ldc (v := 101253137) hx hb hown (htb _ kK_X5_160) dX5_read_46 ?_
      refine lv_iconst (v := 0) hx hb dX5_read_48 (by decide) ?_
      refine zb_cv (va_runV (As := [.int 101253137, .int 0]) (rest := []) ⟨hx, hb, hml, hown, htb⟩ (r_abort0 l D b cA cJ N f z ob (t.1, 0, t.2.2.1, t.2.2.2.1, t.2.2.2.2.1, t.2.2.2.2.2) nd (lo + 4294967296 * hg) 0 th _ (lo / 256) 101253137 ho hxa.2.2.1 (by decide)) (cwV 2 htb (wb_V kM_X5_152 kI_X5_abort kS_X5_abort kN_X5 kD_X5_abort) rfl rfl rfl (by decide +kernel) ⟨Nat.le_of_ble_eq_true rfl, Nat.le_of_ble_eq_true rfl⟩) (zp_VW 0 rfl rfl hP hD hK hSt hS hA hnw) rfl rfl hl.1 rfl (lv_room (Nat.le_of_ble_eq_true rfl)) dX5_read_49 ⟨Nat.le_of_ble_eq_true rfl, Nat.le_of_ble_eq_true rfl⟩) hD hS hA (fun H locs hP hD hS => ?_)
      have hP : va_P D vwCl (rw0 b cA cJ N f (ro z (kAns N ob 128 (lo / 256) 101253137)) (t.1, 0, t.2.2.1, t.2.2.2.1, t.2.2.2.2.1, t.2.2.2.2.2) nd (lN (lo + 4294967296 * hg)) 0 th) H := hP
      have hD : va_D A (rw0 b cA cJ N f (ro z (kAns N ob 128 (lo / 256) 101253137)) (t.1, 0, t.2.2.1, t.2.2.2.1, t.2.2.2.2.1, t.2.2.2.2.2) nd (lN (lo + 4294967296 * hg)) 0 th) := hD
      refine lv_goto (tgt := 153) hx hb dX5_read_52 (by decide) ?_
      have hK9 : kRead N f ob tr nd (lo / 256) = (f, (kAns N ob 128 (lo / 256) 101253137), tr_end (tr_end tr), nd) := by simp only [kRead, hme, Option.elim, kAbort, aX, aN, if_pos hc1]
      rw [hQ]
      have hw9 : (rw0 b cA cJ N f (ro z (kAns N ob 128 (lo / 256) 101253137)) (t.1, 0, t.2.2.1, t.2.2.2.1, t.2.2.2.2.1, t.2.2.2.2.2) nd (lN (lo + 4294967296 * hg)) 0 th) = r4 b cA cJ N z th (kRead N f ob tr nd (lo / 256)) ((t.1, 0, t.2.2.1, t.2.2.2.1, t.2.2.2.2.1, t.2.2.2.2.2), (lN (lo + 4294967296 * hg)), 0) := by rw [hK9]; rfl
      have hr9 : rel2 (kRead N f ob tr nd (lo / 256)).2.2.1 (t.1, 0, t.2.2.1, t.2.2.2.1, t.2.2.2.2.1, t.2.2.2.2.2) := by rw [hK9]; exact rel2_off (rel2_off hR (t.2.2)) _
      exact W.vret hx hb hr (fun t9 ht hW => ⟨rfl, ((t.1, 0, t.2.2.1, t.2.2.2.1, t.2.2.2.2.1, t.2.2.2.2.2), (lN (lo + 4294967296 * hg)), 0), hr9, by rw [ht, ← hw9]; exact hP, by rw [← hw9]; exact hD, hS.F ht⟩) hS.2.2 dX5_read_153
    · refine zb_ti (y := (-2)) (by rw [hrF, if_neg hc1]) ?_
      refine lv_istore_n hx hb dX5_read_29 rfl hl (by decide) rfl (fun ls hl => ?_)
      have hl : lv_has ls 2 [(1, .int (-2)), (0, .ref (b 0))] := hl
      refine lv_iload_n hx hb dX5_read_30 rfl (lv_at hl 0 rfl) ?_
      refine lv_if_ge (tgt := 55) hx hb dX5_read_31 (by decide) (fun hno => absurd hno (by decide)) (fun _ => ?_)
      refine lv_aload_n hx hb dX5_read_34 rfl (lv_at hl 1 rfl) ?_
      refine lv_iload_n hx hb dX5_read_35 rfl (lv_at hl 0 rfl) ?_
      refine lv_bipush (v := (-2)) hx hb dX5_read_36 (by decide) ?_
      refine lv_icmp_ne (tgt := 46) hx hb dX5_read_38 (by decide) (fun hno => absurd (by decide) hno) (fun _ => ?_)
      refine lv_ldc (v := 100794368) hx hb hown (htb _ kK_X5_159) dX5_read_41 ?_
      refine lv_goto (tgt := 48) hx hb dX5_read_43 (by decide) ?_
      refine lv_iconst (v := 0) hx hb dX5_read_48 (by decide) ?_
      refine zb_cv (va_runV (As := [.int 100794368, .int 0]) (rest := []) ⟨hx, hb, hml, hown, htb⟩ (r_abort0 l D b cA cJ N f z ob (t.1, 0, t.2.2.1, t.2.2.2.1, t.2.2.2.2.1, t.2.2.2.2.2) nd (lo + 4294967296 * hg) 0 th _ (lo / 256) 100794368 ho hxa.2.2.1 (by decide)) (cwV 2 htb (wb_V kM_X5_152 kI_X5_abort kS_X5_abort kN_X5 kD_X5_abort) rfl rfl rfl (by decide +kernel) ⟨Nat.le_of_ble_eq_true rfl, Nat.le_of_ble_eq_true rfl⟩) (zp_VW 0 rfl rfl hP hD hK hSt hS hA hnw) rfl rfl hl.1 rfl (lv_room (Nat.le_of_ble_eq_true rfl)) dX5_read_49 ⟨Nat.le_of_ble_eq_true rfl, Nat.le_of_ble_eq_true rfl⟩) hD hS hA (fun H locs hP hD hS => ?_)
      have hP : va_P D vwCl (rw0 b cA cJ N f (ro z (kAns N ob 128 (lo / 256) 100794368)) (t.1, 0, t.2.2.1, t.2.2.2.1, t.2.2.2.2.1, t.2.2.2.2.2) nd (lN (lo + 4294967296 * hg)) 0 th) H := hP
      have hD : va_D A (rw0 b cA cJ N f (ro z (kAns N ob 128 (lo / 256) 100794368)) (t.1, 0, t.2.2.1, t.2.2.2.1, t.2.2.2.2.1, t.2.2.2.2.2) nd (lN (lo + 4294967296 * hg)) 0 th) := hD
      refine lv_goto (tgt := 153) hx hb dX5_read_52 (by decide) ?_
      have hK9 : kRead N f ob tr nd (lo / 256) = (f, (kAns N ob 128 (lo / 256) 100794368), tr_end (tr_end tr), nd) := by simp only [kRead, hme, Option.elim, kAbort, aX, aN, if_neg hc1]
      rw [hQ]
      have hw9 : (rw0 b cA cJ N f (ro z (kAns N ob 128 (lo / 256) 100794368)) (t.1, 0, t.2.2.1, t.2.2.2.1, t.2.2.2.2.1, t.2.2.2.2.2) nd (lN (lo + 4294967296 * hg)) 0 th) = r4 b cA cJ N z th (kRead N f ob tr nd (lo / 256)) ((t.1, 0, t.2.2.1, t.2.2.2.1, t.2.2.2.2.1, t.2.2.2.2.2), (lN (lo + 4294967296 * hg)), 0) := by rw [hK9]; rfl
      have hr9 : rel2 (kRead N f ob tr nd (lo / 256)).2.2.1 (t.1, 0, t.2.2.1, t.2.2.2.1, t.2.2.2.2.1, t.2.2.2.2.2) := by rw [hK9]; exact rel2_off (rel2_off hR (t.2.2)) _
      exact W.vret hx hb hr (fun t9 ht hW => ⟨rfl, ((t.1, 0, t.2.2.1, t.2.2.2.1, t.2.2.2.2.1, t.2.2.2.2.2), (lN (lo + 4294967296 * hg)), 0), hr9, by rw [ht, ← hw9]; exact hP, by rw [← hw9]; exact hD, hS.F ht⟩) hS.2.2 dX5_read_153
  | some e9 =>
    refine zb_ti (y := nI e9) (by unfold rF; rw [show fd (nI (lo / 256 % 65536)) (nI (lo / 256 / 65536)) = some e9 from hme]; rfl) ?_
    have h22 : e9 < 22 := (fd_lt hme).1
    have hft9 := x_fit e9 h22
    have hadx := eAt_ad (show lo / 256 < 2 ^ 24 by omega) hme
    refine lv_istore_n hx hb dX5_read_29 rfl hl (by decide) rfl (fun ls hl => ?_)
    have hl : lv_has ls 2 [(1, .int (nI e9)), (0, .ref (b 0))] := hl
    refine lv_iload_n hx hb dX5_read_30 rfl (lv_at hl 0 rfl) ?_
    refine lv_if_ge (tgt := 55) hx hb dX5_read_31 (by decide) (fun _ => ?_) (fun hno => absurd (ni_0le h22) hno)
    refine lv_aload_n hx hb dX5_read_55 rfl (lv_at hl 1 rfl) ?_
    refine va_get (D := D) (ci := 5) (v := .ref (b 4)) (fs := [.int th, .int N, .ref (b 1), .ref (b 2), .ref (b 3), .ref (b 4), .ref (b 5), .ref (b 6), .int 22, .int 95, .int nd.1, .int nd.2.2.1, .int nd.2.1, .long nd.2.2.2, .int 0, .int t.2.2.1, .int t.2.2.2.1, .int t.2.2.2.2.1, .int t.2.2.2.2.2, .ref (b 7), .long (lN (lo + 4294967296 * hg)), .int 0, .ref (b 8), .ref (b 9), .ref (b 10), .int ((ro z ob).2.2.2.1), .int ((ro z ob).2.2.2.2)]) (C := RX5) (T := TX5) (N := 27) hx hb htb inX5 hown hK hP 0 rfl rfl 5 (by decide) (htb _ kF_X5_19) (fun _ h9 => h9) rfl dX5_read_56 ?_
    refine lv_iload_n hx hb dX5_read_59 rfl (lv_at hl 0 rfl) ?_
    refine va_iald (i := nI e9) hx hb hK hP 4 0 rfl rfl (vp_in_nI (by omega) (by decide)) dX5_read_60 ?_
    refine zb_ti (y := nI (xR e9)) (by rw [nI_clamp (by omega)]) ?_
    refine lv_iconst (v := 1) hx hb dX5_read_61 (by decide) ?_
    refine lv_iand hx hb dX5_read_62 ?_
    refine lv_if_ne (tgt := 76) hx hb dX5_read_63 (by decide) (fun hc2 => ?_) (fun hc2 => ?_)
    · refine lv_aload_n hx hb dX5_read_76 rfl (lv_at hl 1 rfl) ?_
      refine va_get (D := D) (ci := 5) (v := .ref (b 3)) (fs := [.int th, .int N, .ref (b 1), .ref (b 2), .ref (b 3), .ref (b 4), .ref (b 5), .ref (b 6), .int 22, .int 95, .int nd.1, .int nd.2.2.1, .int nd.2.1, .long nd.2.2.2, .int 0, .int t.2.2.1, .int t.2.2.2.1, .int t.2.2.2.2.1, .int t.2.2.2.2.2, .ref (b 7), .long (lN (lo + 4294967296 * hg)), .int 0, .ref (b 8), .ref (b 9), .ref (b 10), .int ((ro z ob).2.2.2.1), .int ((ro z ob).2.2.2.2)]) (C := RX5) (T := TX5) (N := 27) hx hb htb inX5 hown hK hP 0 rfl rfl 4 (by decide) (htb _ kF_X5_16) (fun _ h9 => h9) rfl dX5_read_77 ?_
      refine lv_iload_n hx hb dX5_read_80 rfl (lv_at hl 0 rfl) ?_
      refine va_iald (i := nI e9) hx hb hK hP 3 0 rfl rfl (vp_in_nI (by omega) (by decide)) dX5_read_81 ?_
      refine zb_ti (y := nI (xZ e9)) (by rw [nI_clamp (by omega)]) ?_
      refine lv_iconst (v := 4) hx hb dX5_read_82 (by decide) ?_
      refine lv_icmp_gt (tgt := 123) hx hb dX5_read_83 (by decide) (fun hc3 => ?_) (fun hc3 => ?_)
      · refine lv_aload_n hx hb dX5_read_123 rfl (lv_at hl 1 rfl) ?_
        refine lv_iconst (v := 2) hx hb dX5_read_124 (by decide) ?_
        refine lv_iload_n hx hb dX5_read_125 rfl (lv_at hl 0 rfl) ?_
        refine zb_cv (va_runV (As := [.int 2, .int (nI e9)]) (rest := []) ⟨hx, hb, hml, hown, htb⟩ (r_begin l D b cA cJ N f z ob (t.1, 0, t.2.2.1, t.2.2.2.1, t.2.2.2.2.1, t.2.2.2.2.2) nd (lN (lo + 4294967296 * hg)) 0 th _ 2 (nI e9)) (cwV 2 htb (wb_V kM_X5_164 kI_X5_begin kS_X5_begin kN_X5 kD_X5_begin) rfl rfl rfl (by decide +kernel) ⟨Nat.le_of_ble_eq_true rfl, Nat.le_of_ble_eq_true rfl⟩) (zp_VW 0 rfl rfl hP hD hK hSt hS hA hnw) rfl rfl hl.1 rfl (lv_room (Nat.le_of_ble_eq_true rfl)) dX5_read_126 ⟨Nat.le_of_ble_eq_true rfl, Nat.le_of_ble_eq_true rfl⟩) hD hS hA (fun H locs hP hD hS => ?_)
        have hP : va_P D vwCl (rw0 b cA cJ N f (ro z ob) (t.1, 2, nI e9, 0, 0, 0) nd (lN (lo + 4294967296 * hg)) 0 th) H := hP
        have hD : va_D A (rw0 b cA cJ N f (ro z ob) (t.1, 2, nI e9, 0, 0, 0) nd (lN (lo + 4294967296 * hg)) 0 th) := hD
        refine lv_aload_n hx hb dX5_read_129 rfl (lv_at hl 1 rfl) ?_
        refine lv_bipush (v := 65) hx hb dX5_read_130 (by decide) ?_
        refine lv_aload_n hx hb dX5_read_132 rfl (lv_at hl 1 rfl) ?_
        refine va_get (D := D) (ci := 5) (v := .ref (b 1)) (fs := [.int th, .int N, .ref (b 1), .ref (b 2), .ref (b 3), .ref (b 4), .ref (b 5), .ref (b 6), .int 22, .int 95, .int nd.1, .int nd.2.2.1, .int nd.2.1, .long nd.2.2.2, .int 2, .int (nI e9), .int 0, .int 0, .int 0, .ref (b 7), .long (lN (lo + 4294967296 * hg)), .int 0, .ref (b 8), .ref (b 9), .ref (b 10), .int ((ro z ob).2.2.2.1), .int ((ro z ob).2.2.2.2)]) (C := RX5) (T := TX5) (N := 27) hx hb htb inX5 hown hK hP 0 rfl rfl 2 (by decide) (htb _ kF_X5_7) (fun _ h9 => h9) rfl dX5_read_133 ?_
        refine lv_iload_n hx hb dX5_read_136 rfl (lv_at hl 0 rfl) ?_
        refine va_iald (i := nI e9) hx hb hK hP 1 0 rfl rfl (vp_in_nI (by omega) (by decide)) dX5_read_137 ?_
        refine zb_ti (y := nI (xI e9)) (by rw [nI_clamp (by omega)]) ?_
        refine lv_aload_n hx hb dX5_read_138 rfl (lv_at hl 1 rfl) ?_
        refine va_get (D := D) (ci := 5) (v := .ref (b 2)) (fs := [.int th, .int N, .ref (b 1), .ref (b 2), .ref (b 3), .ref (b 4), .ref (b 5), .ref (b 6), .int 22, .int 95, .int nd.1, .int nd.2.2.1, .int nd.2.1, .long nd.2.2.2, .int 2, .int (nI e9), .int 0, .int 0, .int 0, .ref (b 7), .long (lN (lo + 4294967296 * hg)), .int 0, .ref (b 8), .ref (b 9), .ref (b 10), .int ((ro z ob).2.2.2.1), .int ((ro z ob).2.2.2.2)]) (C := RX5) (T := TX5) (N := 27) hx hb htb inX5 hown hK hP 0 rfl rfl 3 (by decide) (htb _ kF_X5_13) (fun _ h9 => h9) rfl dX5_read_139 ?_
        refine lv_iload_n hx hb dX5_read_142 rfl (lv_at hl 0 rfl) ?_
        refine va_iald (i := nI e9) hx hb hK hP 2 0 rfl rfl (vp_in_nI (by omega) (by decide)) dX5_read_143 ?_
        refine zb_ti (y := nI (xS e9)) (by rw [nI_clamp (by omega)]) ?_
        refine lv_aload_n hx hb dX5_read_144 rfl (lv_at hl 1 rfl) ?_
        refine va_get (D := D) (ci := 5) (v := .ref (b 3)) (fs := [.int th, .int N, .ref (b 1), .ref (b 2), .ref (b 3), .ref (b 4), .ref (b 5), .ref (b 6), .int 22, .int 95, .int nd.1, .int nd.2.2.1, .int nd.2.1, .long nd.2.2.2, .int 2, .int (nI e9), .int 0, .int 0, .int 0, .ref (b 7), .long (lN (lo + 4294967296 * hg)), .int 0, .ref (b 8), .ref (b 9), .ref (b 10), .int ((ro z ob).2.2.2.1), .int ((ro z ob).2.2.2.2)]) (C := RX5) (T := TX5) (N := 27) hx hb htb inX5 hown hK hP 0 rfl rfl 4 (by decide) (htb _ kF_X5_16) (fun _ h9 => h9) rfl dX5_read_145 ?_
        refine lv_iload_n hx hb dX5_read_148 rfl (lv_at hl 0 rfl) ?_
        refine va_iald (i := nI e9) hx hb hK hP 3 0 rfl rfl (vp_in_nI (by omega) (by decide)) dX5_read_149 ?_
        refine zb_ti (y := nI (xZ e9)) (by rw [nI_clamp (by omega)]) ?_
        refine zb_cv (va_runV (As := [.int 65, .int (nI (xI e9)), .int (nI (xS e9)), .int (nI (xZ e9))]) (rest := []) ⟨hx, hb, hml, hown, htb⟩ (r_answer l D b cA cJ N f z ob (t.1, 2, nI e9, 0, 0, 0) nd (lN (lo + 4294967296 * hg)) 0 th _ 65 (xI e9) (xS e9) (xZ e9) ho (by decide) (by omega) (by omega) (by omega)) (cwV 4 htb (wb_V kM_X5_131 kI_X5_answer kS_X5_answer kN_X5 kD_X5_answer) rfl rfl rfl (by decide +kernel) ⟨Nat.le_of_ble_eq_true rfl, Nat.le_of_ble_eq_true rfl⟩) (zp_VW 0 rfl rfl hP hD hK hSt hS hA hnw) rfl rfl hl.1 rfl (lv_room (Nat.le_of_ble_eq_true rfl)) dX5_read_150 ⟨Nat.le_of_ble_eq_true rfl, Nat.le_of_ble_eq_true rfl⟩) hD hS hA (fun H locs hP hD hS => ?_)
        have hP : va_P D vwCl (rw0 b cA cJ N f (ro z (kAns N ob 65 ((xI e9) + 65536 * (xS e9)) (xZ e9))) (t.1, 2, nI e9, 0, 0, 0) nd (lN (lo + 4294967296 * hg)) 0 th) H := hP
        have hD : va_D A (rw0 b cA cJ N f (ro z (kAns N ob 65 ((xI e9) + 65536 * (xS e9)) (xZ e9))) (t.1, 2, nI e9, 0, 0, 0) nd (lN (lo + 4294967296 * hg)) 0 th) := hD
        have hs9 : aS e9 1 = 0 := by unfold aS; rw [if_neg hc2]
        have hK9 : kRead N f ob tr nd (lo / 256) = (f, (kAns N ob 65 ((xI e9) + 65536 * (xS e9)) (xZ e9)), tr_begin (tr_end tr) (nI e9) (nI (lo / 256)) 0, nd) := by rw [hadx]; simp only [kRead, hme, Option.elim, hs9, if_pos (show nI 0 = 0 from rfl), if_pos hc3]
        rw [hQ]
        have hw9 : (rw0 b cA cJ N f (ro z (kAns N ob 65 ((xI e9) + 65536 * (xS e9)) (xZ e9))) (t.1, 2, nI e9, 0, 0, 0) nd (lN (lo + 4294967296 * hg)) 0 th) = r4 b cA cJ N z th (kRead N f ob tr nd (lo / 256)) ((t.1, 2, nI e9, 0, 0, 0), (lN (lo + 4294967296 * hg)), 0) := by rw [hK9]; rfl
        have hr9 : rel2 (kRead N f ob tr nd (lo / 256)).2.2.1 (t.1, 2, nI e9, 0, 0, 0) := by rw [hK9]; exact rel_begin (rel2_h hR) h22 (by omega) hadx (Or.inr ⟨rfl, rfl⟩)
        exact W.vret hx hb hr (fun t9 ht hW => ⟨rfl, ((t.1, 2, nI e9, 0, 0, 0), (lN (lo + 4294967296 * hg)), 0), hr9, by rw [ht, ← hw9]; exact hP, by rw [← hw9]; exact hD, hS.F ht⟩) hS.2.2 dX5_read_153
      refine lv_aload_n hx hb dX5_read_86 rfl (lv_at hl 1 rfl) ?_
      refine lv_bipush (v := 67) hx hb dX5_read_87 (by decide) ?_
      refine lv_iconst (v := 4) hx hb dX5_read_89 (by decide) ?_
      refine lv_iconst (v := 4) hx hb dX5_read_90 (by decide) ?_
      refine lv_aload_n hx hb dX5_read_91 rfl (lv_at hl 1 rfl) ?_
      refine va_get (D := D) (ci := 5) (v := .ref (b 3)) (fs := [.int th, .int N, .ref (b 1), .ref (b 2), .ref (b 3), .ref (b 4), .ref (b 5), .ref (b 6), .int 22, .int 95, .int nd.1, .int nd.2.2.1, .int nd.2.1, .long nd.2.2.2, .int 0, .int t.2.2.1, .int t.2.2.2.1, .int t.2.2.2.2.1, .int t.2.2.2.2.2, .ref (b 7), .long (lN (lo + 4294967296 * hg)), .int 0, .ref (b 8), .ref (b 9), .ref (b 10), .int ((ro z ob).2.2.2.1), .int ((ro z ob).2.2.2.2)]) (C := RX5) (T := TX5) (N := 27) hx hb htb inX5 hown hK hP 0 rfl rfl 4 (by decide) (htb _ kF_X5_16) (fun _ h9 => h9) rfl dX5_read_92 ?_
      refine lv_iload_n hx hb dX5_read_95 rfl (lv_at hl 0 rfl) ?_
      refine va_iald (i := nI e9) hx hb hK hP 3 0 rfl rfl (vp_in_nI (by omega) (by decide)) dX5_read_96 ?_
      refine zb_ti (y := nI (xZ e9)) (by rw [nI_clamp (by omega)]) ?_
      refine lv_isub hx hb dX5_read_97 ?_
      refine lv_imul hx hb dX5_read_98 ?_
      refine lv_iadd hx hb dX5_read_99 ?_
      have hz4 : xZ e9 ≤ 4 := by have h9 : ¬ 4 < xZ e9 := fun h => hc3 (nI_lt (a := 4) h (by omega)); omega
      refine zb_ti (y := nI (67 + 4 * (4 - xZ e9))) (by rw [show (4 : Int32) - nI (xZ e9) = nI (4 - xZ e9) from pk_sub (a := 4) hz4]; rw [show (4 : Int32) * nI (4 - xZ e9) = nI (4 * (4 - xZ e9)) from pk_mul 4 _]; exact nI_add 67 _) ?_
      refine lv_aload_n hx hb dX5_read_100 rfl (lv_at hl 1 rfl) ?_
      refine va_get (D := D) (ci := 5) (v := .ref (b 1)) (fs := [.int th, .int N, .ref (b 1), .ref (b 2), .ref (b 3), .ref (b 4), .ref (b 5), .ref (b 6), .int 22, .int 95, .int nd.1, .int nd.2.2.1, .int nd.2.1, .long nd.2.2.2, .int 0, .int t.2.2.1, .int t.2.2.2.1, .int t.2.2.2.2.1, .int t.2.2.2.2.2, .ref (b 7), .long (lN (lo + 4294967296 * hg)), .int 0, .ref (b 8), .ref (b 9), .ref (b 10), .int ((ro z ob).2.2.2.1), .int ((ro z ob).2.2.2.2)]) (C := RX5) (T := TX5) (N := 27) hx hb htb inX5 hown hK hP 0 rfl rfl 2 (by decide) (htb _ kF_X5_7) (fun _ h9 => h9) rfl dX5_read_101 ?_
      refine lv_iload_n hx hb dX5_read_104 rfl (lv_at hl 0 rfl) ?_
      refine va_iald (i := nI e9) hx hb hK hP 1 0 rfl rfl (vp_in_nI (by omega) (by decide)) dX5_read_105 ?_
      refine zb_ti (y := nI (xI e9)) (by rw [nI_clamp (by omega)]) ?_
      refine lv_aload_n hx hb dX5_read_106 rfl (lv_at hl 1 rfl) ?_
      refine va_get (D := D) (ci := 5) (v := .ref (b 2)) (fs := [.int th, .int N, .ref (b 1), .ref (b 2), .ref (b 3), .ref (b 4), .ref (b 5), .ref (b 6), .int 22, .int 95, .int nd.1, .int nd.2.2.1, .int nd.2.1, .long nd.2.2.2, .int 0, .int t.2.2.1, .int t.2.2.2.1, .int t.2.2.2.2.1, .int t.2.2.2.2.2, .ref (b 7), .long (lN (lo + 4294967296 * hg)), .int 0, .ref (b 8), .ref (b 9), .ref (b 10), .int ((ro z ob).2.2.2.1), .int ((ro z ob).2.2.2.2)]) (C := RX5) (T := TX5) (N := 27) hx hb htb inX5 hown hK hP 0 rfl rfl 3 (by decide) (htb _ kF_X5_13) (fun _ h9 => h9) rfl dX5_read_107 ?_
      refine lv_iload_n hx hb dX5_read_110 rfl (lv_at hl 0 rfl) ?_
      refine va_iald (i := nI e9) hx hb hK hP 2 0 rfl rfl (vp_in_nI (by omega) (by decide)) dX5_read_111 ?_
      refine zb_ti (y := nI (xS e9)) (by rw [nI_clamp (by omega)]) ?_
      refine lv_aload_n hx hb dX5_read_112 rfl (lv_at hl 1 rfl) ?_
      refine lv_iload_n hx hb dX5_read_113 rfl (lv_at hl 0 rfl) ?_
      refine zb_ci (va_runV (As := [.int (nI e9)]) (rest := [.int (nI (xS e9)), .int (nI (xI e9)), .int (nI (67 + 4 * (4 - xZ e9))), .ref (b 0)]) ⟨hx, hb, hml, hown, htb⟩ (r_number l D b cA cJ N f (ro z ob) (t.1, 0, t.2.2.1, t.2.2.2.1, t.2.2.2.2.1, t.2.2.2.2.2) nd (lN (lo + 4294967296 * hg)) 0 th e9 hB (by omega)) (cwV 1 htb (wb_V kM_X5_97 kI_X5_number kS_X5_number kN_X5 kD_X5_number) rfl rfl rfl (by decide +kernel) ⟨Nat.le_of_ble_eq_true rfl, Nat.le_of_ble_eq_true rfl⟩) (zp_V 0 rfl rfl hP hK hSt hS hnw) rfl rfl hl.1 rfl (lv_room (Nat.le_of_ble_eq_true rfl)) dX5_read_114 ⟨Nat.le_of_ble_eq_true rfl, Nat.le_of_ble_eq_true rfl⟩) ?_
      refine zb_ti (y := nI (sm f (xP e9) (xZ e9))) (by rw [Nat.min_eq_left hz4]) ?_
      refine zb_cv (va_runV (As := [.int (nI (67 + 4 * (4 - xZ e9))), .int (nI (xI e9)), .int (nI (xS e9)), .int (nI (sm f (xP e9) (xZ e9)))]) (rest := []) ⟨hx, hb, hml, hown, htb⟩ (r_answer l D b cA cJ N f z ob (t.1, 0, t.2.2.1, t.2.2.2.1, t.2.2.2.2.1, t.2.2.2.2.2) nd (lN (lo + 4294967296 * hg)) 0 th _ (67 + 4 * (4 - xZ e9)) (xI e9) (xS e9) (sm f (xP e9) (xZ e9)) ho (by omega) (by omega) (by omega) (Nat.lt_of_lt_of_le (sm_lt hB _ _) (Nat.pow_le_pow_right (by decide) (by omega)))) (cwV 4 htb (wb_V kM_X5_131 kI_X5_answer kS_X5_answer kN_X5 kD_X5_answer) rfl rfl rfl (by decide +kernel) ⟨Nat.le_of_ble_eq_true rfl, Nat.le_of_ble_eq_true rfl⟩) (zp_VW 0 rfl rfl hP hD hK hSt hS hA hnw) rfl rfl hl.1 rfl (lv_room (Nat.le_of_ble_eq_true rfl)) dX5_read_117 ⟨Nat.le_of_ble_eq_true rfl, Nat.le_of_ble_eq_true rfl⟩) hD hS hA (fun H locs hP hD hS => ?_)
      have hP : va_P D vwCl (rw0 b cA cJ N f (ro z (kAns N ob (67 + 4 * (4 - xZ e9)) ((xI e9) + 65536 * (xS e9)) (sm f (xP e9) (xZ e9)))) (t.1, 0, t.2.2.1, t.2.2.2.1, t.2.2.2.2.1, t.2.2.2.2.2) nd (lN (lo + 4294967296 * hg)) 0 th) H := hP
      have hD : va_D A (rw0 b cA cJ N f (ro z (kAns N ob (67 + 4 * (4 - xZ e9)) ((xI e9) + 65536 * (xS e9)) (sm f (xP e9) (xZ e9)))) (t.1, 0, t.2.2.1, t.2.2.2.1, t.2.2.2.2.1, t.2.2.2.2.2) nd (lN (lo + 4294967296 * hg)) 0 th) := hD
      refine lv_goto (tgt := 153) hx hb dX5_read_120 (by decide) ?_
      have hs9 : aS e9 1 = 0 := by unfold aS; rw [if_neg hc2]
      have hK9 : kRead N f ob tr nd (lo / 256) = (f, (kAns N ob (67 + 4 * (4 - xZ e9)) ((xI e9) + 65536 * (xS e9)) (sm f (xP e9) (xZ e9))), tr_end tr, nd) := by rw [hadx]; simp only [kRead, hme, Option.elim, hs9, if_pos (show nI 0 = 0 from rfl), if_neg hc3]
      rw [hQ]
      have hw9 : (rw0 b cA cJ N f (ro z (kAns N ob (67 + 4 * (4 - xZ e9)) ((xI e9) + 65536 * (xS e9)) (sm f (xP e9) (xZ e9)))) (t.1, 0, t.2.2.1, t.2.2.2.1, t.2.2.2.2.1, t.2.2.2.2.2) nd (lN (lo + 4294967296 * hg)) 0 th) = r4 b cA cJ N z th (kRead N f ob tr nd (lo / 256)) ((t.1, 0, t.2.2.1, t.2.2.2.1, t.2.2.2.2.1, t.2.2.2.2.2), (lN (lo + 4294967296 * hg)), 0) := by rw [hK9]; rfl
      have hr9 : rel2 (kRead N f ob tr nd (lo / 256)).2.2.1 (t.1, 0, t.2.2.1, t.2.2.2.1, t.2.2.2.2.1, t.2.2.2.2.2) := by rw [hK9]; exact rel2_off hR _
      exact W.vret hx hb hr (fun t9 ht hW => ⟨rfl, ((t.1, 0, t.2.2.1, t.2.2.2.1, t.2.2.2.2.1, t.2.2.2.2.2), (lN (lo + 4294967296 * hg)), 0), hr9, by rw [ht, ← hw9]; exact hP, by rw [← hw9]; exact hD, hS.F ht⟩) hS.2.2 dX5_read_153
    refine lv_aload_n hx hb dX5_read_66 rfl (lv_at hl 1 rfl) ?_
    refine lv_ldc (v := 100728833) hx hb hown (htb _ kK_X5_174) dX5_read_67 ?_
    refine lv_iconst (v := 0) hx hb dX5_read_69 (by decide) ?_
    refine zb_cv (va_runV (As := [.int 100728833, .int 0]) (rest := []) ⟨hx, hb, hml, hown, htb⟩ (r_abort0 l D b cA cJ N f z ob (t.1, 0, t.2.2.1, t.2.2.2.1, t.2.2.2.2.1, t.2.2.2.2.2) nd (lo + 4294967296 * hg) 0 th _ (lo / 256) 100728833 ho hxa.2.2.1 (by decide)) (cwV 2 htb (wb_V kM_X5_152 kI_X5_abort kS_X5_abort kN_X5 kD_X5_abort) rfl rfl rfl (by decide +kernel) ⟨Nat.le_of_ble_eq_true rfl, Nat.le_of_ble_eq_true rfl⟩) (zp_VW 0 rfl rfl hP hD hK hSt hS hA hnw) rfl rfl hl.1 rfl (lv_room (Nat.le_of_ble_eq_true rfl)) dX5_read_70 ⟨Nat.le_of_ble_eq_true rfl, Nat.le_of_ble_eq_true rfl⟩) hD hS hA (fun H locs hP hD hS => ?_)
    have hP : va_P D vwCl (rw0 b cA cJ N f (ro z (kAns N ob 128 (lo / 256) 100728833)) (t.1, 0, t.2.2.1, t.2.2.2.1, t.2.2.2.2.1, t.2.2.2.2.2) nd (lN (lo + 4294967296 * hg)) 0 th) H := hP
    have hD : va_D A (rw0 b cA cJ N f (ro z (kAns N ob 128 (lo / 256) 100728833)) (t.1, 0, t.2.2.1, t.2.2.2.1, t.2.2.2.2.1, t.2.2.2.2.2) nd (lN (lo + 4294967296 * hg)) 0 th) := hD
    refine lv_goto (tgt := 153) hx hb dX5_read_73 (by decide) ?_
    have hs9 : aS e9 1 = 100728833 := by unfold aS; rw [if_pos hc2]; rfl
    have hK9 : kRead N f ob tr nd (lo / 256) = (f, (kAns N ob 128 (lo / 256) 100728833), tr_end (tr_end tr), nd) := by simp only [kRead, hme, Option.elim, hs9]; rfl
    rw [hQ]
    have hw9 : (rw0 b cA cJ N f (ro z (kAns N ob 128 (lo / 256) 100728833)) (t.1, 0, t.2.2.1, t.2.2.2.1, t.2.2.2.2.1, t.2.2.2.2.2) nd (lN (lo + 4294967296 * hg)) 0 th) = r4 b cA cJ N z th (kRead N f ob tr nd (lo / 256)) ((t.1, 0, t.2.2.1, t.2.2.2.1, t.2.2.2.2.1, t.2.2.2.2.2), (lN (lo + 4294967296 * hg)), 0) := by rw [hK9]; rfl
    have hr9 : rel2 (kRead N f ob tr nd (lo / 256)).2.2.1 (t.1, 0, t.2.2.1, t.2.2.2.1, t.2.2.2.2.1, t.2.2.2.2.2) := by rw [hK9]; exact rel2_off (rel2_off hR (t.2.2)) _
    exact W.vret hx hb hr (fun t9 ht hW => ⟨rfl, ((t.1, 0, t.2.2.1, t.2.2.2.1, t.2.2.2.2.1, t.2.2.2.2.2), (lN (lo + 4294967296 * hg)), 0), hr9, by rw [ht, ← hw9]; exact hP, by rw [← hw9]; exact hD, hS.F ht⟩) hS.2.2 dX5_read_153
set_option maxHeartbeats 4000000 in
set_option maxRecDepth 100000 in
theorem r_write (l : Launch) (D : va_G) (b : Nat → Nat) (cA cJ : ClassId) (N : Int32) (f : Nat → Int32) (z : Int32) (ob : OB) (t : RT) (nd : ND) (lo hg : Nat) (th : Int32) (sz : Nat) (tr : TR) (fi : Nat) (hB : isB f) (ho : obK ob) (hlo : lo < 2 ^ 32) (hhg : hg < 2 ^ 32) (hR : rel2 tr t) (hBh : isB t.1) (hfi : fi < 256) : Met l yX5_write (wX5_write :: wb) ({ frames := 4, cells := 0, slots := 0, locals := 97 } : Room) (va_Pc [.ref (b 0), .int (nI fi)] (zPre D [(cA, .int), (cJ, .long)] (rw0 b cA cJ N f (ro z ob) t nd (lN (lo + 4294967296 * hg)) 0 th) sz)) (zb_E none D vwCl (r4 b cA cJ N z th (kWrite N f ob tr nd fi (lo / 256) hg)) (fun y => rel2 (kWrite N f ob tr nd fi (lo / 256) hg).2.2.1 y.1) (va_A (rw0 b cA cJ N f (ro z ob) t nd (lN (lo + 4294967296 * hg)) 0 th) sz)) 0 0 (va_A (rw0 b cA cJ N f (ro z ob) t nd (lN (lo + 4294967296 * hg)) 0 th) sz) := by
  refine Met.ofW (cc := cX5_write) (maxL := 8) (ret := none) (by decide) rfl ?_
  intro p ev s m args below meth c s₁ B hml hv
  obtain ⟨rfl, hsz, hP, hK, hD0, hSt, hnw⟩ := hv
  have hx := B.exec
  have hb := B.bytes
  have hr := B.returns
  have hts := atoms_spec (ws := wX5_write :: wb) B.pre
  have htb : ∀ w ∈ wb, w.before ([.ref (b 0), .int (nI fi)]).toArray s = true := fun w h => hts w (List.mem_cons_of_mem _ h)
  have hown : s.vm.findClass RX5 = some m.cls := findClass_of_methodNamed B.named
  have hlocks := B.notSynchronized
  subst hsz
  have hD := hD0.self (sz := s.heap.size)
  clear hD0
  generalize hAe : va_A (rw0 b cA cJ N f (ro z ob) t nd (lN (lo + 4294967296 * hg)) 0 th) s.heap.size = A at hD hSt ⊢
  have hA : ∀ q : Nat, s.heap.size ≤ q → A q := fun q h => by rw [← hAe]; exact Or.inr h
  have hS : va_S A s.heap s.heap [] := va_S.rf
  obtain ⟨⟨tt, ff, hZT, hTT, hZF, hTF⟩, hXS⟩ := id hSt
  have hl := lv_entry ([.ref (b 0), .int (nI fi)]) (n := 8) (Nat.le_of_ble_eq_true rfl)
  rw [lg_entry_eq]
  generalize (lg_sl ([.ref (b 0), .int (nI fi)]) ++ List.replicate (8 - (lg_sl ([.ref (b 0), .int (nI fi)])).length) Slot.unset).toArray = ls at hl ⊢
  have hl : lv_has ls 8 [(0, .ref (b 0)), (1, .int (nI fi))] := hl
  refine zb_abs (fun Q hQ => ?_)
  have hxa := x_ad (lo := lo) (hg := hg) hlo
  refine lv_aload_n hx hb dX5_write_0 rfl (lv_at hl 0 rfl) ?_
  refine lv_iconst (v := 0) hx hb dX5_write_1 (by decide) ?_
  refine va_put (D := D) (ci := 5) (v := .int 0) (fs := [.int th, .int N, .ref (b 1), .ref (b 2), .ref (b 3), .ref (b 4), .ref (b 5), .ref (b 6), .int 22, .int 95, .int nd.1, .int nd.2.2.1, .int nd.2.1, .long nd.2.2.2, .int t.2.1, .int t.2.2.1, .int t.2.2.2.1, .int t.2.2.2.2.1, .int t.2.2.2.2.2, .ref (b 7), .long (lN (lo + 4294967296 * hg)), .int 0, .ref (b 8), .ref (b 9), .ref (b 10), .int ((ro z ob).2.2.2.1), .int ((ro z ob).2.2.2.2)]) (ty := .int) (C := RX5) (T := TX5) (N := 27) hx hb htb inX5 tyX5 tyX5_ok nmX5 hown hK hP hD hS 0 rfl rfl 14 (by decide) (htb _ kF_X5_85) (fun _ h9 => h9) rfl (by decide +kernel) rfl rfl (Nat.le_of_ble_eq_true rfl) dX5_write_2 (fun H locs hP hD hS => ?_)
  have hP : va_P D vwCl (rw0 b cA cJ N f (ro z ob) (t.1, 0, t.2.2.1, t.2.2.2.1, t.2.2.2.2.1, t.2.2.2.2.2) nd (lN (lo + 4294967296 * hg)) 0 th) H := hP
  have hD : va_D A (rw0 b cA cJ N f (ro z ob) (t.1, 0, t.2.2.1, t.2.2.2.1, t.2.2.2.2.1, t.2.2.2.2.2) nd (lN (lo + 4294967296 * hg)) 0 th) := hD
  refine lv_aload_n hx hb dX5_write_5 rfl (lv_at hl 0 rfl) ?_
  refine va_get (D := D) (ci := 5) (v := .long (lN (lo + 4294967296 * hg))) (fs := [.int th, .int N, .ref (b 1), .ref (b 2), .ref (b 3), .ref (b 4), .ref (b 5), .ref (b 6), .int 22, .int 95, .int nd.1, .int nd.2.2.1, .int nd.2.1, .long nd.2.2.2, .int 0, .int t.2.2.1, .int t.2.2.2.1, .int t.2.2.2.2.1, .int t.2.2.2.2.2, .ref (b 7), .long (lN (lo + 4294967296 * hg)), .int 0, .ref (b 8), .ref (b 9), .ref (b 10), .int ((ro z ob).2.2.2.1), .int ((ro z ob).2.2.2.2)]) (C := RX5) (T := TX5) (N := 27) hx hb htb inX5 hown hK hP 0 rfl rfl 20 (by decide) (htb _ kF_X5_123) (fun _ h9 => h9) rfl dX5_write_6 ?_
  refine lv_bipush (v := 8) hx hb dX5_write_9 (by decide) ?_
  refine lv_lshr hx hb dX5_write_11 rfl ?_
  refine lv_ldc2 (v := 65535) hx hb hown (htb _ kQ_X5_126) dX5_write_12 ?_
  refine lv_land hx hb dX5_write_15 ?_
  refine lv_l2i hx hb dX5_write_16 rfl ?_
  refine zb_ti (y := nI (lo / 256 % 65536)) (by rw [sar_16, hxa.1]) ?_
  refine lv_istore_n hx hb dX5_write_17 rfl hl (by decide) rfl (fun ls hl => ?_)
  have hl : lv_has ls 8 [(2, .int (nI (lo / 256 % 65536))), (0, .ref (b 0)), (1, .int (nI fi))] := hl
  refine lv_aload_n hx hb dX5_write_18 rfl (lv_at hl 1 rfl) ?_
  refine lv_iload_n hx hb dX5_write_19 rfl (lv_at hl 0 rfl) ?_
  refine lv_aload_n hx hb dX5_write_20 rfl (lv_at hl 1 rfl) ?_
  refine va_get (D := D) (ci := 5) (v := .long (lN (lo + 4294967296 * hg))) (fs := [.int th, .int N, .ref (b 1), .ref (b 2), .ref (b 3), .ref (b 4), .ref (b 5), .ref (b 6), .int 22, .int 95, .int nd.1, .int nd.2.2.1, .int nd.2.1, .long nd.2.2.2, .int 0, .int t.2.2.1, .int t.2.2.2.1, .int t.2.2.2.2.1, .int t.2.2.2.2.2, .ref (b 7), .long (lN (lo + 4294967296 * hg)), .int 0, .ref (b 8), .ref (b 9), .ref (b 10), .int ((ro z ob).2.2.2.1), .int ((ro z ob).2.2.2.2)]) (C := RX5) (T := TX5) (N := 27) hx hb htb inX5 hown hK hP 0 rfl rfl 20 (by decide) (htb _ kF_X5_123) (fun _ h9 => h9) rfl dX5_write_21 ?_
  refine lv_iconst (v := 3) hx hb dX5_write_24 (by decide) ?_
  refine zb_ci (va_runS (As := [.long (lN (lo + 4294967296 * hg)), .int 3]) (rest := [.int (nI (lo / 256 % 65536)), .ref (b 0)]) ⟨hx, hb, hml, hown, htb⟩ (r_byteOf l D b cA cJ N f (ro z ob) (t.1, 0, t.2.2.1, t.2.2.2.1, t.2.2.2.2.1, t.2.2.2.2.2) nd (lN (lo + 4294967296 * hg)) 0 th (lo + 4294967296 * hg) 3 (by omega)) (va_cwS 2 htb (wb_S kM_X5_119 kZ_X5_byteOf kN_X5 kD_X5_byteOf) rfl rfl rfl (by decide +kernel) ⟨Nat.le_of_ble_eq_true rfl, Nat.le_of_ble_eq_true rfl⟩) (zp_S hP hK hSt hS hnw) rfl rfl hl.1 rfl (lv_room (Nat.le_of_ble_eq_true rfl)) dX5_write_25 ⟨Nat.le_of_ble_eq_true rfl, Nat.le_of_ble_eq_true rfl⟩) ?_
  refine zb_ti (y := nI (lo / 256 / 65536)) (by rw [hxa.2.1]) ?_
  refine zb_ci (va_runV (As := [.int (nI (lo / 256 % 65536)), .int (nI (lo / 256 / 65536))]) (rest := []) ⟨hx, hb, hml, hown, htb⟩ (r_find l D b cA cJ N f (ro z ob) (t.1, 0, t.2.2.1, t.2.2.2.1, t.2.2.2.2.1, t.2.2.2.2.2) nd (lN (lo + 4294967296 * hg)) 0 th (nI (lo / 256 % 65536)) (nI (lo / 256 / 65536))) (cwV 2 htb (wb_V kM_X5_156 kI_X5_find kS_X5_find kN_X5 kD_X5_find) rfl rfl rfl (by decide +kernel) ⟨Nat.le_of_ble_eq_true rfl, Nat.le_of_ble_eq_true rfl⟩) (zp_V 0 rfl rfl hP hK hSt hS hnw) rfl rfl hl.1 rfl (lv_room (Nat.le_of_ble_eq_true rfl)) dX5_write_28 ⟨Nat.le_of_ble_eq_true rfl, Nat.le_of_ble_eq_true rfl⟩) ?_
  cases hme : eAt (lo / 256) with
  | none =>
    have hrF : rF (nI (lo / 256 % 65536)) (nI (lo / 256 / 65536)) = (if hi (nI (lo / 256 % 65536)) = true then -1 else -2) := by unfold rF; rw [show fd (nI (lo / 256 % 65536)) (nI (lo / 256 / 65536)) = none from hme]; rfl
    by_cases hc1 : hi (nI (lo / 256 % 65536)) = true
    · refine zb_ti (y := (-1)) (by rw [hrF, if_pos hc1]) ?_
      refine lv_istore_n hx hb dX5_write_31 rfl hl (by decide) rfl (fun ls hl => ?_)
      have hl : lv_has ls 8 [(3, .int (-1)), (2, .int (nI (lo / 256 % 65536))), (0, .ref (b 0)), (1, .int (nI fi))] := hl
      refine lv_iload_n hx hb dX5_write_32 rfl (lv_at hl 0 rfl) ?_
      refine lv_if_ge (tgt := 55) hx hb dX5_write_33 (by decide) (fun hno => absurd hno (by decide)) (fun _ => ?_)
      refine lv_aload_n hx hb dX5_write_36 rfl (lv_at hl 2 rfl) ?_
      refine lv_iload_n hx hb dX5_write_37 rfl (lv_at hl 0 rfl) ?_
      refine lv_bipush (v := (-2)) hx hb dX5_write_38 (by decide) ?_
      refine lv_icmp_ne (tgt := 48) hx hb dX5_write_40 (by decide) (fun _ => ?_) (fun hno => absurd hno (by decide))
      refine lv_ldc (v := 101253137) hx hb hown (htb _ kK_X5_160) dX5_write_48 ?_
      refine lv_iconst (v := 0) hx hb dX5_write_50 (by decide) ?_
      refine zb_cv (va_runV (As := [.int 101253137, .int 0]) (rest := []) ⟨hx, hb, hml, hown, htb⟩ (r_abort0 l D b cA cJ N f z ob (t.1, 0, t.2.2.1, t.2.2.2.1, t.2.2.2.2.1, t.2.2.2.2.2) nd (lo + 4294967296 * hg) 0 th _ (lo / 256) 101253137 ho hxa.2.2.1 (by decide)) (cwV 2 htb (wb_V kM_X5_152 kI_X5_abort kS_X5_abort kN_X5 kD_X5_abort) rfl rfl rfl (by decide +kernel) ⟨Nat.le_of_ble_eq_true rfl, Nat.le_of_ble_eq_true rfl⟩) (zp_VW 0 rfl rfl hP hD hK hSt hS hA hnw) rfl rfl hl.1 rfl (lv_room (Nat.le_of_ble_eq_true rfl)) dX5_write_51 ⟨Nat.le_of_ble_eq_true rfl, Nat.le_of_ble_eq_true rfl⟩) hD hS hA (fun H locs hP hD hS => ?_)
      have hP : va_P D vwCl (rw0 b cA cJ N f (ro z (kAns N ob 128 (lo / 256) 101253137)) (t.1, 0, t.2.2.1, t.2.2.2.1, t.2.2.2.2.1, t.2.2.2.2.2) nd (lN (lo + 4294967296 * hg)) 0 th) H := hP
      have hD : va_D A (rw0 b cA cJ N f (ro z (kAns N ob 128 (lo / 256) 101253137)) (t.1, 0, t.2.2.1, t.2.2.2.1, t.2.2.2.2.1, t.2.2.2.2.2) nd (lN (lo + 4294967296 * hg)) 0 th) := hD
      have hK9 : kWrite N f ob tr nd fi (lo / 256) hg = (f, (kAns N ob 128 (lo / 256) 101253137), tr_end (tr_end tr), nd) := by simp only [kWrite, hme, Option.elim, kAbort, aX, aN, if_pos hc1]
      rw [hQ]
      have hw9 : (rw0 b cA cJ N f (ro z (kAns N ob 128 (lo / 256) 101253137)) (t.1, 0, t.2.2.1, t.2.2.2.1, t.2.2.2.2.1, t.2.2.2.2.2) nd (lN (lo + 4294967296 * hg)) 0 th) = r4 b cA cJ N z th (kWrite N f ob tr nd fi (lo / 256) hg) ((t.1, 0, t.2.2.1, t.2.2.2.1, t.2.2.2.2.1, t.2.2.2.2.2), (lN (lo + 4294967296 * hg)), 0) := by rw [hK9]; rfl
      have hr9 : rel2 (kWrite N f ob tr nd fi (lo / 256) hg).2.2.1 (t.1, 0, t.2.2.1, t.2.2.2.1, t.2.2.2.2.1, t.2.2.2.2.2) := by rw [hK9]; exact rel2_off (rel2_off hR (t.2.2)) _
      exact W.vret hx hb hr (fun t9 ht hW => ⟨rfl, ((t.1, 0, t.2.2.1, t.2.2.2.1, t.2.2.2.2.1, t.2.2.2.2.2), (lN (lo + 4294967296 * hg)), 0), hr9, by rw [ht, ← hw9]; exact hP, by rw [← hw9]; exact hD, hS.F ht⟩) hS.2.2 dX5_write_54
    · refine zb_ti (y := (-2)) (by rw [hrF, if_neg hc1]) ?_
      refine lv_istore_n hx hb dX5_write_31 rfl hl (by decide) rfl (fun ls hl => ?_)
      have hl : lv_has ls 8 [(3, .int (-2)), (2, .int (nI (lo / 256 % 65536))), (0, .ref (b 0)), (1, .int (nI fi))] := hl
      refine lv_iload_n hx hb dX5_write_32 rfl (lv_at hl 0 rfl) ?_
      refine lv_if_ge (tgt := 55) hx hb dX5_write_33 (by decide) (fun hno => absurd hno (by decide)) (fun _ => ?_)
      refine lv_aload_n hx hb dX5_write_36 rfl (lv_at hl 2 rfl) ?_
      refine lv_iload_n hx hb dX5_write_37 rfl (lv_at hl 0 rfl) ?_
      refine lv_bipush (v := (-2)) hx hb dX5_write_38 (by decide) ?_
      refine lv_icmp_ne (tgt := 48) hx hb dX5_write_40 (by decide) (fun hno => absurd (by decide) hno) (fun _ => ?_)
      refine lv_ldc (v := 100794368) hx hb hown (htb _ kK_X5_159) dX5_write_43 ?_
      refine lv_goto (tgt := 50) hx hb dX5_write_45 (by decide) ?_
      refine lv_iconst (v := 0) hx hb dX5_write_50 (by decide) ?_
      refine zb_cv (va_runV (As := [.int 100794368, .int 0]) (rest := []) ⟨hx, hb, hml, hown, htb⟩ (r_abort0 l D b cA cJ N f z ob (t.1, 0, t.2.2.1, t.2.2.2.1, t.2.2.2.2.1, t.2.2.2.2.2) nd (lo + 4294967296 * hg) 0 th _ (lo / 256) 100794368 ho hxa.2.2.1 (by decide)) (cwV 2 htb (wb_V kM_X5_152 kI_X5_abort kS_X5_abort kN_X5 kD_X5_abort) rfl rfl rfl (by decide +kernel) ⟨Nat.le_of_ble_eq_true rfl, Nat.le_of_ble_eq_true rfl⟩) (zp_VW 0 rfl rfl hP hD hK hSt hS hA hnw) rfl rfl hl.1 rfl (lv_room (Nat.le_of_ble_eq_true rfl)) dX5_write_51 ⟨Nat.le_of_ble_eq_true rfl, Nat.le_of_ble_eq_true rfl⟩) hD hS hA (fun H locs hP hD hS => ?_)
      have hP : va_P D vwCl (rw0 b cA cJ N f (ro z (kAns N ob 128 (lo / 256) 100794368)) (t.1, 0, t.2.2.1, t.2.2.2.1, t.2.2.2.2.1, t.2.2.2.2.2) nd (lN (lo + 4294967296 * hg)) 0 th) H := hP
      have hD : va_D A (rw0 b cA cJ N f (ro z (kAns N ob 128 (lo / 256) 100794368)) (t.1, 0, t.2.2.1, t.2.2.2.1, t.2.2.2.2.1, t.2.2.2.2.2) nd (lN (lo + 4294967296 * hg)) 0 th) := hD
      have hK9 : kWrite N f ob tr nd fi (lo / 256) hg = (f, (kAns N ob 128 (lo / 256) 100794368), tr_end (tr_end tr), nd) := by simp only [kWrite, hme, Option.elim, kAbort, aX, aN, if_neg hc1]
      rw [hQ]
      have hw9 : (rw0 b cA cJ N f (ro z (kAns N ob 128 (lo / 256) 100794368)) (t.1, 0, t.2.2.1, t.2.2.2.1, t.2.2.2.2.1, t.2.2.2.2.2) nd (lN (lo + 4294967296 * hg)) 0 th) = r4 b cA cJ N z th (kWrite N f ob tr nd fi (lo / 256) hg) ((t.1, 0, t.2.2.1, t.2.2.2.1, t.2.2.2.2.1, t.2.2.2.2.2), (lN (lo + 4294967296 * hg)), 0) := by rw [hK9]; rfl
      have hr9 : rel2 (kWrite N f ob tr nd fi (lo / 256) hg).2.2.1 (t.1, 0, t.2.2.1, t.2.2.2.1, t.2.2.2.2.1, t.2.2.2.2.2) := by rw [hK9]; exact rel2_off (rel2_off hR (t.2.2)) _
      exact W.vret hx hb hr (fun t9 ht hW => ⟨rfl, ((t.1, 0, t.2.2.1, t.2.2.2.1, t.2.2.2.2.1, t.2.2.2.2.2), (lN (lo + 4294967296 * hg)), 0), hr9, by rw [ht, ← hw9]; exact hP, by rw [← hw9]; exact hD, hS.F ht⟩) hS.2.2 dX5_write_54
  | some e9 =>
    refine zb_ti (y := nI e9) (by unfold rF; rw [show fd (nI (lo / 256 % 65536)) (nI (lo / 256 / 65536)) = some e9 from hme]; rfl) ?_
    have h22 : e9 < 22 := (fd_lt hme).1
    have hft9 := x_fit e9 h22
    have hadx := eAt_ad (show lo / 256 < 2 ^ 24 by omega) hme
    refine lv_istore_n hx hb dX5_write_31 rfl hl (by decide) rfl (fun ls hl => ?_)
    have hl : lv_has ls 8 [(3, .int (nI e9)), (2, .int (nI (lo / 256 % 65536))), (0, .ref (b 0)), (1, .int (nI fi))] := hl
    refine lv_iload_n hx hb dX5_write_32 rfl (lv_at hl 0 rfl) ?_
    refine lv_if_ge (tgt := 55) hx hb dX5_write_33 (by decide) (fun _ => ?_) (fun hno => absurd (ni_0le h22) hno)
    refine lv_aload_n hx hb dX5_write_55 rfl (lv_at hl 2 rfl) ?_
    refine va_get (D := D) (ci := 5) (v := .ref (b 4)) (fs := [.int th, .int N, .ref (b 1), .ref (b 2), .ref (b 3), .ref (b 4), .ref (b 5), .ref (b 6), .int 22, .int 95, .int nd.1, .int nd.2.2.1, .int nd.2.1, .long nd.2.2.2, .int 0, .int t.2.2.1, .int t.2.2.2.1, .int t.2.2.2.2.1, .int t.2.2.2.2.2, .ref (b 7), .long (lN (lo + 4294967296 * hg)), .int 0, .ref (b 8), .ref (b 9), .ref (b 10), .int ((ro z ob).2.2.2.1), .int ((ro z ob).2.2.2.2)]) (C := RX5) (T := TX5) (N := 27) hx hb htb inX5 hown hK hP 0 rfl rfl 5 (by decide) (htb _ kF_X5_19) (fun _ h9 => h9) rfl dX5_write_56 ?_
    refine lv_iload_n hx hb dX5_write_59 rfl (lv_at hl 0 rfl) ?_
    refine va_iald (i := nI e9) hx hb hK hP 4 0 rfl rfl (vp_in_nI (by omega) (by decide)) dX5_write_60 ?_
    refine zb_ti (y := nI (xR e9)) (by rw [nI_clamp (by omega)]) ?_
    refine lv_iconst (v := 2) hx hb dX5_write_61 (by decide) ?_
    refine lv_iand hx hb dX5_write_62 ?_
    refine lv_if_ne (tgt := 74) hx hb dX5_write_63 (by decide) (fun hc2 => ?_) (fun hc2 => ?_)
    · refine lv_iload_n hx hb dX5_write_74 rfl (lv_at hl 3 rfl) ?_
      refine lv_iconst (v := 2) hx hb dX5_write_75 (by decide) ?_
      refine lv_iand hx hb dX5_write_76 ?_
      refine lv_if_eq (tgt := 84) hx hb dX5_write_77 (by decide) (fun hc3 => ?_) (fun hc3 => ?_)
      · refine lv_iconst (v := 0) hx hb dX5_write_84 (by decide) ?_
        refine lv_istore hx hb dX5_write_85 hl (by decide) rfl (fun ls hl => ?_)
        have hl : lv_has ls 8 [(4, .int 0), (3, .int (nI e9)), (2, .int (nI (lo / 256 % 65536))), (0, .ref (b 0)), (1, .int (nI fi))] := hl
        refine lv_iload_n hx hb dX5_write_87 rfl (lv_at hl 4 rfl) ?_
        refine lv_iconst (v := 1) hx hb dX5_write_88 (by decide) ?_
        refine lv_iand hx hb dX5_write_89 ?_
        refine lv_if_eq (tgt := 97) hx hb dX5_write_90 (by decide) (fun hc4 => ?_) (fun hc4 => ?_)
        · refine lv_iconst (v := 0) hx hb dX5_write_97 (by decide) ?_
          refine lv_istore hx hb dX5_write_98 hl (by decide) rfl (fun ls hl => ?_)
          have hl : lv_has ls 8 [(5, .int 0), (4, .int 0), (3, .int (nI e9)), (2, .int (nI (lo / 256 % 65536))), (0, .ref (b 0)), (1, .int (nI fi))] := hl
          refine lv_iload hx hb dX5_write_100 (lv_at hl 0 rfl) ?_
          refine lv_if_ne (tgt := 114) hx hb dX5_write_102 (by decide) (fun hno => absurd (by decide) hno) (fun _ => ?_)
          refine lv_aload_n hx hb dX5_write_105 rfl (lv_at hl 4 rfl) ?_
          refine va_get (D := D) (ci := 5) (v := .ref (b 3)) (fs := [.int th, .int N, .ref (b 1), .ref (b 2), .ref (b 3), .ref (b 4), .ref (b 5), .ref (b 6), .int 22, .int 95, .int nd.1, .int nd.2.2.1, .int nd.2.1, .long nd.2.2.2, .int 0, .int t.2.2.1, .int t.2.2.2.1, .int t.2.2.2.2.1, .int t.2.2.2.2.2, .ref (b 7), .long (lN (lo + 4294967296 * hg)), .int 0, .ref (b 8), .ref (b 9), .ref (b 10), .int ((ro z ob).2.2.2.1), .int ((ro z ob).2.2.2.2)]) (C := RX5) (T := TX5) (N := 27) hx hb htb inX5 hown hK hP 0 rfl rfl 4 (by decide) (htb _ kF_X5_16) (fun _ h9 => h9) rfl dX5_write_106 ?_
          refine lv_iload_n hx hb dX5_write_109 rfl (lv_at hl 2 rfl) ?_
          refine va_iald (i := nI e9) hx hb hK hP 3 0 rfl rfl (vp_in_nI (by omega) (by decide)) dX5_write_110 ?_
          refine zb_ti (y := nI (xZ e9)) (by rw [nI_clamp (by omega)]) ?_
          refine lv_goto (tgt := 122) hx hb dX5_write_111 (by decide) ?_
          refine lv_istore hx hb dX5_write_122 hl (by decide) rfl (fun ls hl => ?_)
          have hl : lv_has ls 8 [(6, .int (nI (xZ e9))), (5, .int 0), (4, .int 0), (3, .int (nI e9)), (2, .int (nI (lo / 256 % 65536))), (0, .ref (b 0)), (1, .int (nI fi))] := hl
          refine lv_iload hx hb dX5_write_124 (lv_at hl 2 rfl) ?_
          refine lv_if_eq (tgt := 166) hx hb dX5_write_126 (by decide) (fun _ => ?_) (fun hno => absurd (by decide) hno)
          have hL : lenOf fi (nI hg) (xZ e9) = nI (xZ e9) := by simp only [lenOf, if_pos hc3, if_pos hc4]
          refine lv_iload hx hb dX5_write_166 (lv_at hl 0 rfl) ?_
          refine lv_aload_n hx hb dX5_write_168 rfl (lv_at hl 5 rfl) ?_
          refine va_get (D := D) (ci := 5) (v := .ref (b 3)) (fs := [.int th, .int N, .ref (b 1), .ref (b 2), .ref (b 3), .ref (b 4), .ref (b 5), .ref (b 6), .int 22, .int 95, .int nd.1, .int nd.2.2.1, .int nd.2.1, .long nd.2.2.2, .int 0, .int t.2.2.1, .int t.2.2.2.1, .int t.2.2.2.2.1, .int t.2.2.2.2.2, .ref (b 7), .long (lN (lo + 4294967296 * hg)), .int 0, .ref (b 8), .ref (b 9), .ref (b 10), .int ((ro z ob).2.2.2.1), .int ((ro z ob).2.2.2.2)]) (C := RX5) (T := TX5) (N := 27) hx hb htb inX5 hown hK hP 0 rfl rfl 4 (by decide) (htb _ kF_X5_16) (fun _ h9 => h9) rfl dX5_write_169 ?_
          refine lv_iload_n hx hb dX5_write_172 rfl (lv_at hl 3 rfl) ?_
          refine va_iald (i := nI e9) hx hb hK hP 3 0 rfl rfl (vp_in_nI (by omega) (by decide)) dX5_write_173 ?_
          refine zb_ti (y := nI (xZ e9)) (by rw [nI_clamp (by omega)]) ?_
          refine lv_icmp_eq (tgt := 201) hx hb dX5_write_174 (by decide) (fun _ => ?_) (fun hno => absurd (rfl) hno)
          have hLz : nI (xZ e9) = nI (xZ e9) := rfl
          have hlF : lF fi (nI hg) (xZ e9) = 0 := lF_0 hL hLz
          refine lv_iload hx hb dX5_write_201 (lv_at hl 2 rfl) ?_
          refine lv_if_ne (tgt := 232) hx hb dX5_write_203 (by decide) (fun hno => absurd (by decide) hno) (fun _ => ?_)
          refine lv_aload_n hx hb dX5_write_206 rfl (lv_at hl 5 rfl) ?_
          refine lv_iconst (v := 1) hx hb dX5_write_207 (by decide) ?_
          refine lv_iload_n hx hb dX5_write_208 rfl (lv_at hl 3 rfl) ?_
          refine zb_cv (va_runV (As := [.int 1, .int (nI e9)]) (rest := []) ⟨hx, hb, hml, hown, htb⟩ (r_begin l D b cA cJ N f z ob (t.1, 0, t.2.2.1, t.2.2.2.1, t.2.2.2.2.1, t.2.2.2.2.2) nd (lN (lo + 4294967296 * hg)) 0 th _ 1 (nI e9)) (cwV 2 htb (wb_V kM_X5_164 kI_X5_begin kS_X5_begin kN_X5 kD_X5_begin) rfl rfl rfl (by decide +kernel) ⟨Nat.le_of_ble_eq_true rfl, Nat.le_of_ble_eq_true rfl⟩) (zp_VW 0 rfl rfl hP hD hK hSt hS hA hnw) rfl rfl hl.1 rfl (lv_room (Nat.le_of_ble_eq_true rfl)) dX5_write_209 ⟨Nat.le_of_ble_eq_true rfl, Nat.le_of_ble_eq_true rfl⟩) hD hS hA (fun H locs hP hD hS => ?_)
          have hP : va_P D vwCl (rw0 b cA cJ N f (ro z ob) (t.1, 1, nI e9, 0, 0, 0) nd (lN (lo + 4294967296 * hg)) 0 th) H := hP
          have hD : va_D A (rw0 b cA cJ N f (ro z ob) (t.1, 1, nI e9, 0, 0, 0) nd (lN (lo + 4294967296 * hg)) 0 th) := hD
          refine lv_aload_n hx hb dX5_write_212 rfl (lv_at hl 5 rfl) ?_
          refine lv_bipush (v := 96) hx hb dX5_write_213 (by decide) ?_
          refine lv_aload_n hx hb dX5_write_215 rfl (lv_at hl 5 rfl) ?_
          refine va_get (D := D) (ci := 5) (v := .ref (b 1)) (fs := [.int th, .int N, .ref (b 1), .ref (b 2), .ref (b 3), .ref (b 4), .ref (b 5), .ref (b 6), .int 22, .int 95, .int nd.1, .int nd.2.2.1, .int nd.2.1, .long nd.2.2.2, .int 1, .int (nI e9), .int 0, .int 0, .int 0, .ref (b 7), .long (lN (lo + 4294967296 * hg)), .int 0, .ref (b 8), .ref (b 9), .ref (b 10), .int ((ro z ob).2.2.2.1), .int ((ro z ob).2.2.2.2)]) (C := RX5) (T := TX5) (N := 27) hx hb htb inX5 hown hK hP 0 rfl rfl 2 (by decide) (htb _ kF_X5_7) (fun _ h9 => h9) rfl dX5_write_216 ?_
          refine lv_iload_n hx hb dX5_write_219 rfl (lv_at hl 3 rfl) ?_
          refine va_iald (i := nI e9) hx hb hK hP 1 0 rfl rfl (vp_in_nI (by omega) (by decide)) dX5_write_220 ?_
          refine zb_ti (y := nI (xI e9)) (by rw [nI_clamp (by omega)]) ?_
          refine lv_aload_n hx hb dX5_write_221 rfl (lv_at hl 5 rfl) ?_
          refine va_get (D := D) (ci := 5) (v := .ref (b 2)) (fs := [.int th, .int N, .ref (b 1), .ref (b 2), .ref (b 3), .ref (b 4), .ref (b 5), .ref (b 6), .int 22, .int 95, .int nd.1, .int nd.2.2.1, .int nd.2.1, .long nd.2.2.2, .int 1, .int (nI e9), .int 0, .int 0, .int 0, .ref (b 7), .long (lN (lo + 4294967296 * hg)), .int 0, .ref (b 8), .ref (b 9), .ref (b 10), .int ((ro z ob).2.2.2.1), .int ((ro z ob).2.2.2.2)]) (C := RX5) (T := TX5) (N := 27) hx hb htb inX5 hown hK hP 0 rfl rfl 3 (by decide) (htb _ kF_X5_13) (fun _ h9 => h9) rfl dX5_write_222 ?_
          refine lv_iload_n hx hb dX5_write_225 rfl (lv_at hl 3 rfl) ?_
          refine va_iald (i := nI e9) hx hb hK hP 2 0 rfl rfl (vp_in_nI (by omega) (by decide)) dX5_write_226 ?_
          refine zb_ti (y := nI (xS e9)) (by rw [nI_clamp (by omega)]) ?_
          refine lv_iconst (v := 0) hx hb dX5_write_227 (by decide) ?_
          refine zb_cv (va_runV (As := [.int 96, .int (nI (xI e9)), .int (nI (xS e9)), .int 0]) (rest := []) ⟨hx, hb, hml, hown, htb⟩ (r_answer l D b cA cJ N f z ob (t.1, 1, nI e9, 0, 0, 0) nd (lN (lo + 4294967296 * hg)) 0 th _ 96 (xI e9) (xS e9) 0 ho (by decide) (by omega) (by omega) (by decide)) (cwV 4 htb (wb_V kM_X5_131 kI_X5_answer kS_X5_answer kN_X5 kD_X5_answer) rfl rfl rfl (by decide +kernel) ⟨Nat.le_of_ble_eq_true rfl, Nat.le_of_ble_eq_true rfl⟩) (zp_VW 0 rfl rfl hP hD hK hSt hS hA hnw) rfl rfl hl.1 rfl (lv_room (Nat.le_of_ble_eq_true rfl)) dX5_write_228 ⟨Nat.le_of_ble_eq_true rfl, Nat.le_of_ble_eq_true rfl⟩) hD hS hA (fun H locs hP hD hS => ?_)
          have hP : va_P D vwCl (rw0 b cA cJ N f (ro z (kAns N ob 96 ((xI e9) + 65536 * (xS e9)) 0)) (t.1, 1, nI e9, 0, 0, 0) nd (lN (lo + 4294967296 * hg)) 0 th) H := hP
          have hD : va_D A (rw0 b cA cJ N f (ro z (kAns N ob 96 ((xI e9) + 65536 * (xS e9)) 0)) (t.1, 1, nI e9, 0, 0, 0) nd (lN (lo + 4294967296 * hg)) 0 th) := hD
          have hs9 : aS e9 2 = 0 := by unfold aS; rw [if_neg hc2]
          have hK9 : kWrite N f ob tr nd fi (lo / 256) hg = (f, (kAns N ob 96 ((xI e9) + 65536 * (xS e9)) 0), tr_begin (tr_end tr) (nI e9) (nI (lo / 256)) 1, nd) := by rw [hadx]; simp only [kWrite, hme, Option.elim, hs9, if_pos (show nI 0 = 0 from rfl), hlF, if_pos hc3]
          rw [hQ]
          have hw9 : (rw0 b cA cJ N f (ro z (kAns N ob 96 ((xI e9) + 65536 * (xS e9)) 0)) (t.1, 1, nI e9, 0, 0, 0) nd (lN (lo + 4294967296 * hg)) 0 th) = r4 b cA cJ N z th (kWrite N f ob tr nd fi (lo / 256) hg) ((t.1, 1, nI e9, 0, 0, 0), (lN (lo + 4294967296 * hg)), 0) := by rw [hK9]; rfl
          have hr9 : rel2 (kWrite N f ob tr nd fi (lo / 256) hg).2.2.1 (t.1, 1, nI e9, 0, 0, 0) := by rw [hK9]; exact rel_begin (rel2_h hR) h22 (by omega) hadx (Or.inl ⟨rfl, rfl⟩)
          exact W.vret hx hb hr (fun t9 ht hW => ⟨rfl, ((t.1, 1, nI e9, 0, 0, 0), (lN (lo + 4294967296 * hg)), 0), hr9, by rw [ht, ← hw9]; exact hP, by rw [← hw9]; exact hD, hS.F ht⟩) hS.2.2 dX5_write_231
        refine lv_iconst (v := 1) hx hb dX5_write_93 (by decide) ?_
        refine lv_goto (tgt := 98) hx hb dX5_write_94 (by decide) ?_
        refine lv_istore hx hb dX5_write_98 hl (by decide) rfl (fun ls hl => ?_)
        have hl : lv_has ls 8 [(5, .int 1), (4, .int 0), (3, .int (nI e9)), (2, .int (nI (lo / 256 % 65536))), (0, .ref (b 0)), (1, .int (nI fi))] := hl
        refine lv_iload hx hb dX5_write_100 (lv_at hl 0 rfl) ?_
        refine lv_if_ne (tgt := 114) hx hb dX5_write_102 (by decide) (fun _ => ?_) (fun hno => absurd hno (by decide))
        refine lv_aload_n hx hb dX5_write_114 rfl (lv_at hl 4 rfl) ?_
        refine va_get (D := D) (ci := 5) (v := .long (lN (lo + 4294967296 * hg))) (fs := [.int th, .int N, .ref (b 1), .ref (b 2), .ref (b 3), .ref (b 4), .ref (b 5), .ref (b 6), .int 22, .int 95, .int nd.1, .int nd.2.2.1, .int nd.2.1, .long nd.2.2.2, .int 0, .int t.2.2.1, .int t.2.2.2.1, .int t.2.2.2.2.1, .int t.2.2.2.2.2, .ref (b 7), .long (lN (lo + 4294967296 * hg)), .int 0, .ref (b 8), .ref (b 9), .ref (b 10), .int ((ro z ob).2.2.2.1), .int ((ro z ob).2.2.2.2)]) (C := RX5) (T := TX5) (N := 27) hx hb htb inX5 hown hK hP 0 rfl rfl 20 (by decide) (htb _ kF_X5_123) (fun _ h9 => h9) rfl dX5_write_115 ?_
        refine lv_bipush (v := 32) hx hb dX5_write_118 (by decide) ?_
        refine lv_lshr hx hb dX5_write_120 rfl ?_
        refine lv_l2i hx hb dX5_write_121 rfl ?_
        refine zb_ti (y := nI hg) (by rw [sar_32, hxa.2.2.2.2]) ?_
        refine lv_istore hx hb dX5_write_122 hl (by decide) rfl (fun ls hl => ?_)
        have hl : lv_has ls 8 [(6, .int (nI hg)), (5, .int 1), (4, .int 0), (3, .int (nI e9)), (2, .int (nI (lo / 256 % 65536))), (0, .ref (b 0)), (1, .int (nI fi))] := hl
        refine lv_iload hx hb dX5_write_124 (lv_at hl 2 rfl) ?_
        refine lv_if_eq (tgt := 166) hx hb dX5_write_126 (by decide) (fun _ => ?_) (fun hno => absurd (by decide) hno)
        have hL : lenOf fi (nI hg) (xZ e9) = nI hg := by simp only [lenOf, if_pos hc3, if_neg hc4]
        refine lv_iload hx hb dX5_write_166 (lv_at hl 0 rfl) ?_
        refine lv_aload_n hx hb dX5_write_168 rfl (lv_at hl 5 rfl) ?_
        refine va_get (D := D) (ci := 5) (v := .ref (b 3)) (fs := [.int th, .int N, .ref (b 1), .ref (b 2), .ref (b 3), .ref (b 4), .ref (b 5), .ref (b 6), .int 22, .int 95, .int nd.1, .int nd.2.2.1, .int nd.2.1, .long nd.2.2.2, .int 0, .int t.2.2.1, .int t.2.2.2.1, .int t.2.2.2.2.1, .int t.2.2.2.2.2, .ref (b 7), .long (lN (lo + 4294967296 * hg)), .int 0, .ref (b 8), .ref (b 9), .ref (b 10), .int ((ro z ob).2.2.2.1), .int ((ro z ob).2.2.2.2)]) (C := RX5) (T := TX5) (N := 27) hx hb htb inX5 hown hK hP 0 rfl rfl 4 (by decide) (htb _ kF_X5_16) (fun _ h9 => h9) rfl dX5_write_169 ?_
        refine lv_iload_n hx hb dX5_write_172 rfl (lv_at hl 3 rfl) ?_
        refine va_iald (i := nI e9) hx hb hK hP 3 0 rfl rfl (vp_in_nI (by omega) (by decide)) dX5_write_173 ?_
        refine zb_ti (y := nI (xZ e9)) (by rw [nI_clamp (by omega)]) ?_
        refine lv_icmp_eq (tgt := 201) hx hb dX5_write_174 (by decide) (fun hc5 => ?_) (fun hc5 => ?_)
        · have hLz : nI hg = nI (xZ e9) := hc5
          have hlF : lF fi (nI hg) (xZ e9) = 0 := lF_0 hL hLz
          have e6 : (nI hg : Int32) = nI (xZ e9) := hLz
          have hl : lv_has ls 8 [(6, .int (nI (xZ e9))), (5, .int 1), (4, .int 0), (3, .int (nI e9)), (2, .int (nI (lo / 256 % 65536))), (0, .ref (b 0)), (1, .int (nI fi))] := Eq.mp (congrArg (fun zz9 : Int32 => lv_has ls 8 [(6, .int zz9), (5, .int 1), (4, .int 0), (3, .int (nI e9)), (2, .int (nI (lo / 256 % 65536))), (0, .ref (b 0)), (1, .int (nI fi))]) e6) hl
          refine lv_iload hx hb dX5_write_201 (lv_at hl 2 rfl) ?_
          refine lv_if_ne (tgt := 232) hx hb dX5_write_203 (by decide) (fun hno => absurd (by decide) hno) (fun _ => ?_)
          refine lv_aload_n hx hb dX5_write_206 rfl (lv_at hl 5 rfl) ?_
          refine lv_iconst (v := 1) hx hb dX5_write_207 (by decide) ?_
          refine lv_iload_n hx hb dX5_write_208 rfl (lv_at hl 3 rfl) ?_
          refine zb_cv (va_runV (As := [.int 1, .int (nI e9)]) (rest := []) ⟨hx, hb, hml, hown, htb⟩ (r_begin l D b cA cJ N f z ob (t.1, 0, t.2.2.1, t.2.2.2.1, t.2.2.2.2.1, t.2.2.2.2.2) nd (lN (lo + 4294967296 * hg)) 0 th _ 1 (nI e9)) (cwV 2 htb (wb_V kM_X5_164 kI_X5_begin kS_X5_begin kN_X5 kD_X5_begin) rfl rfl rfl (by decide +kernel) ⟨Nat.le_of_ble_eq_true rfl, Nat.le_of_ble_eq_true rfl⟩) (zp_VW 0 rfl rfl hP hD hK hSt hS hA hnw) rfl rfl hl.1 rfl (lv_room (Nat.le_of_ble_eq_true rfl)) dX5_write_209 ⟨Nat.le_of_ble_eq_true rfl, Nat.le_of_ble_eq_true rfl⟩) hD hS hA (fun H locs hP hD hS => ?_)
          have hP : va_P D vwCl (rw0 b cA cJ N f (ro z ob) (t.1, 1, nI e9, 0, 0, 0) nd (lN (lo + 4294967296 * hg)) 0 th) H := hP
          have hD : va_D A (rw0 b cA cJ N f (ro z ob) (t.1, 1, nI e9, 0, 0, 0) nd (lN (lo + 4294967296 * hg)) 0 th) := hD
          refine lv_aload_n hx hb dX5_write_212 rfl (lv_at hl 5 rfl) ?_
          refine lv_bipush (v := 96) hx hb dX5_write_213 (by decide) ?_
          refine lv_aload_n hx hb dX5_write_215 rfl (lv_at hl 5 rfl) ?_
          refine va_get (D := D) (ci := 5) (v := .ref (b 1)) (fs := [.int th, .int N, .ref (b 1), .ref (b 2), .ref (b 3), .ref (b 4), .ref (b 5), .ref (b 6), .int 22, .int 95, .int nd.1, .int nd.2.2.1, .int nd.2.1, .long nd.2.2.2, .int 1, .int (nI e9), .int 0, .int 0, .int 0, .ref (b 7), .long (lN (lo + 4294967296 * hg)), .int 0, .ref (b 8), .ref (b 9), .ref (b 10), .int ((ro z ob).2.2.2.1), .int ((ro z ob).2.2.2.2)]) (C := RX5) (T := TX5) (N := 27) hx hb htb inX5 hown hK hP 0 rfl rfl 2 (by decide) (htb _ kF_X5_7) (fun _ h9 => h9) rfl dX5_write_216 ?_
          refine lv_iload_n hx hb dX5_write_219 rfl (lv_at hl 3 rfl) ?_
          refine va_iald (i := nI e9) hx hb hK hP 1 0 rfl rfl (vp_in_nI (by omega) (by decide)) dX5_write_220 ?_
          refine zb_ti (y := nI (xI e9)) (by rw [nI_clamp (by omega)]) ?_
          refine lv_aload_n hx hb dX5_write_221 rfl (lv_at hl 5 rfl) ?_
          refine va_get (D := D) (ci := 5) (v := .ref (b 2)) (fs := [.int th, .int N, .ref (b 1), .ref (b 2), .ref (b 3), .ref (b 4), .ref (b 5), .ref (b 6), .int 22, .int 95, .int nd.1, .int nd.2.2.1, .int nd.2.1, .long nd.2.2.2, .int 1, .int (nI e9), .int 0, .int 0, .int 0, .ref (b 7), .long (lN (lo + 4294967296 * hg)), .int 0, .ref (b 8), .ref (b 9), .ref (b 10), .int ((ro z ob).2.2.2.1), .int ((ro z ob).2.2.2.2)]) (C := RX5) (T := TX5) (N := 27) hx hb htb inX5 hown hK hP 0 rfl rfl 3 (by decide) (htb _ kF_X5_13) (fun _ h9 => h9) rfl dX5_write_222 ?_
          refine lv_iload_n hx hb dX5_write_225 rfl (lv_at hl 3 rfl) ?_
          refine va_iald (i := nI e9) hx hb hK hP 2 0 rfl rfl (vp_in_nI (by omega) (by decide)) dX5_write_226 ?_
          refine zb_ti (y := nI (xS e9)) (by rw [nI_clamp (by omega)]) ?_
          refine lv_iconst (v := 0) hx hb dX5_write_227 (by decide) ?_
          refine zb_cv (va_runV (As := [.int 96, .int (nI (xI e9)), .int (nI (xS e9)), .int 0]) (rest := []) ⟨hx, hb, hml, hown, htb⟩ (r_answer l D b cA cJ N f z ob (t.1, 1, nI e9, 0, 0, 0) nd (lN (lo + 4294967296 * hg)) 0 th _ 96 (xI e9) (xS e9) 0 ho (by decide) (by omega) (by omega) (by decide)) (cwV 4 htb (wb_V kM_X5_131 kI_X5_answer kS_X5_answer kN_X5 kD_X5_answer) rfl rfl rfl (by decide +kernel) ⟨Nat.le_of_ble_eq_true rfl, Nat.le_of_ble_eq_true rfl⟩) (zp_VW 0 rfl rfl hP hD hK hSt hS hA hnw) rfl rfl hl.1 rfl (lv_room (Nat.le_of_ble_eq_true rfl)) dX5_write_228 ⟨Nat.le_of_ble_eq_true rfl, Nat.le_of_ble_eq_true rfl⟩) hD hS hA (fun H locs hP hD hS => ?_)
          have hP : va_P D vwCl (rw0 b cA cJ N f (ro z (kAns N ob 96 ((xI e9) + 65536 * (xS e9)) 0)) (t.1, 1, nI e9, 0, 0, 0) nd (lN (lo + 4294967296 * hg)) 0 th) H := hP
          have hD : va_D A (rw0 b cA cJ N f (ro z (kAns N ob 96 ((xI e9) + 65536 * (xS e9)) 0)) (t.1, 1, nI e9, 0, 0, 0) nd (lN (lo + 4294967296 * hg)) 0 th) := hD
          have hs9 : aS e9 2 = 0 := by unfold aS; rw [if_neg hc2]
          have hK9 : kWrite N f ob tr nd fi (lo / 256) hg = (f, (kAns N ob 96 ((xI e9) + 65536 * (xS e9)) 0), tr_begin (tr_end tr) (nI e9) (nI (lo / 256)) 1, nd) := by rw [hadx]; simp only [kWrite, hme, Option.elim, hs9, if_pos (show nI 0 = 0 from rfl), hlF, if_pos hc3]
          rw [hQ]
          have hw9 : (rw0 b cA cJ N f (ro z (kAns N ob 96 ((xI e9) + 65536 * (xS e9)) 0)) (t.1, 1, nI e9, 0, 0, 0) nd (lN (lo + 4294967296 * hg)) 0 th) = r4 b cA cJ N z th (kWrite N f ob tr nd fi (lo / 256) hg) ((t.1, 1, nI e9, 0, 0, 0), (lN (lo + 4294967296 * hg)), 0) := by rw [hK9]; rfl
          have hr9 : rel2 (kWrite N f ob tr nd fi (lo / 256) hg).2.2.1 (t.1, 1, nI e9, 0, 0, 0) := by rw [hK9]; exact rel_begin (rel2_h hR) h22 (by omega) hadx (Or.inl ⟨rfl, rfl⟩)
          exact W.vret hx hb hr (fun t9 ht hW => ⟨rfl, ((t.1, 1, nI e9, 0, 0, 0), (lN (lo + 4294967296 * hg)), 0), hr9, by rw [ht, ← hw9]; exact hP, by rw [← hw9]; exact hD, hS.F ht⟩) hS.2.2 dX5_write_231
        refine lv_aload_n hx hb dX5_write_177 rfl (lv_at hl 5 rfl) ?_
        refine lv_iload hx hb dX5_write_178 (lv_at hl 0 rfl) ?_
        refine lv_aload_n hx hb dX5_write_180 rfl (lv_at hl 5 rfl) ?_
        refine va_get (D := D) (ci := 5) (v := .ref (b 3)) (fs := [.int th, .int N, .ref (b 1), .ref (b 2), .ref (b 3), .ref (b 4), .ref (b 5), .ref (b 6), .int 22, .int 95, .int nd.1, .int nd.2.2.1, .int nd.2.1, .long nd.2.2.2, .int 0, .int t.2.2.1, .int t.2.2.2.1, .int t.2.2.2.2.1, .int t.2.2.2.2.2, .ref (b 7), .long (lN (lo + 4294967296 * hg)), .int 0, .ref (b 8), .ref (b 9), .ref (b 10), .int ((ro z ob).2.2.2.1), .int ((ro z ob).2.2.2.2)]) (C := RX5) (T := TX5) (N := 27) hx hb htb inX5 hown hK hP 0 rfl rfl 4 (by decide) (htb _ kF_X5_16) (fun _ h9 => h9) rfl dX5_write_181 ?_
        refine lv_iload_n hx hb dX5_write_184 rfl (lv_at hl 3 rfl) ?_
        refine va_iald (i := nI e9) hx hb hK hP 3 0 rfl rfl (vp_in_nI (by omega) (by decide)) dX5_write_185 ?_
        refine zb_ti (y := nI (xZ e9)) (by rw [nI_clamp (by omega)]) ?_
        refine lv_icmp_le (tgt := 194) hx hb dX5_write_186 (by decide) (fun hc7 => ?_) (fun hc7 => ?_)
        · refine lv_ldc (v := 101122067) hx hb hown (htb _ kK_X5_163) dX5_write_194 ?_
          refine lv_iconst (v := 0) hx hb dX5_write_196 (by decide) ?_
          refine zb_cv (va_runV (As := [.int 101122067, .int 0]) (rest := []) ⟨hx, hb, hml, hown, htb⟩ (r_abort0 l D b cA cJ N f z ob (t.1, 0, t.2.2.1, t.2.2.2.1, t.2.2.2.2.1, t.2.2.2.2.2) nd (lo + 4294967296 * hg) 0 th _ (lo / 256) 101122067 ho hxa.2.2.1 (by decide)) (cwV 2 htb (wb_V kM_X5_152 kI_X5_abort kS_X5_abort kN_X5 kD_X5_abort) rfl rfl rfl (by decide +kernel) ⟨Nat.le_of_ble_eq_true rfl, Nat.le_of_ble_eq_true rfl⟩) (zp_VW 0 rfl rfl hP hD hK hSt hS hA hnw) rfl rfl hl.1 rfl (lv_room (Nat.le_of_ble_eq_true rfl)) dX5_write_197 ⟨Nat.le_of_ble_eq_true rfl, Nat.le_of_ble_eq_true rfl⟩) hD hS hA (fun H locs hP hD hS => ?_)
          have hP : va_P D vwCl (rw0 b cA cJ N f (ro z (kAns N ob 128 (lo / 256) 101122067)) (t.1, 0, t.2.2.1, t.2.2.2.1, t.2.2.2.2.1, t.2.2.2.2.2) nd (lN (lo + 4294967296 * hg)) 0 th) H := hP
          have hD : va_D A (rw0 b cA cJ N f (ro z (kAns N ob 128 (lo / 256) 101122067)) (t.1, 0, t.2.2.1, t.2.2.2.1, t.2.2.2.2.1, t.2.2.2.2.2) nd (lN (lo + 4294967296 * hg)) 0 th) := hD
          have hs9 : aS e9 2 = 0 := by unfold aS; rw [if_neg hc2]
          have hlF : lF fi (nI hg) (xZ e9) = 101122067 := lF_few hL hc5 hc7
          have hK9 : kWrite N f ob tr nd fi (lo / 256) hg = (f, (kAns N ob 128 (lo / 256) 101122067), tr_end (tr_end tr), nd) := by simp only [kWrite, hme, Option.elim, hs9, if_pos (show nI 0 = 0 from rfl), hlF]; rfl
          rw [hQ]
          have hw9 : (rw0 b cA cJ N f (ro z (kAns N ob 128 (lo / 256) 101122067)) (t.1, 0, t.2.2.1, t.2.2.2.1, t.2.2.2.2.1, t.2.2.2.2.2) nd (lN (lo + 4294967296 * hg)) 0 th) = r4 b cA cJ N z th (kWrite N f ob tr nd fi (lo / 256) hg) ((t.1, 0, t.2.2.1, t.2.2.2.1, t.2.2.2.2.1, t.2.2.2.2.2), (lN (lo + 4294967296 * hg)), 0) := by rw [hK9]; rfl
          have hr9 : rel2 (kWrite N f ob tr nd fi (lo / 256) hg).2.2.1 (t.1, 0, t.2.2.1, t.2.2.2.1, t.2.2.2.2.1, t.2.2.2.2.2) := by rw [hK9]; exact rel2_off (rel2_off hR (t.2.2)) _
          exact W.vret hx hb hr (fun t9 ht hW => ⟨rfl, ((t.1, 0, t.2.2.1, t.2.2.2.1, t.2.2.2.2.1, t.2.2.2.2.2), (lN (lo + 4294967296 * hg)), 0), hr9, by rw [ht, ← hw9]; exact hP, by rw [← hw9]; exact hD, hS.F ht⟩) hS.2.2 dX5_write_200
        refine lv_ldc (v := 101122066) hx hb hown (htb _ kK_X5_162) dX5_write_189 ?_
        refine lv_goto (tgt := 196) hx hb dX5_write_191 (by decide) ?_
        refine lv_iconst (v := 0) hx hb dX5_write_196 (by decide) ?_
        refine zb_cv (va_runV (As := [.int 101122066, .int 0]) (rest := []) ⟨hx, hb, hml, hown, htb⟩ (r_abort0 l D b cA cJ N f z ob (t.1, 0, t.2.2.1, t.2.2.2.1, t.2.2.2.2.1, t.2.2.2.2.2) nd (lo + 4294967296 * hg) 0 th _ (lo / 256) 101122066 ho hxa.2.2.1 (by decide)) (cwV 2 htb (wb_V kM_X5_152 kI_X5_abort kS_X5_abort kN_X5 kD_X5_abort) rfl rfl rfl (by decide +kernel) ⟨Nat.le_of_ble_eq_true rfl, Nat.le_of_ble_eq_true rfl⟩) (zp_VW 0 rfl rfl hP hD hK hSt hS hA hnw) rfl rfl hl.1 rfl (lv_room (Nat.le_of_ble_eq_true rfl)) dX5_write_197 ⟨Nat.le_of_ble_eq_true rfl, Nat.le_of_ble_eq_true rfl⟩) hD hS hA (fun H locs hP hD hS => ?_)
        have hP : va_P D vwCl (rw0 b cA cJ N f (ro z (kAns N ob 128 (lo / 256) 101122066)) (t.1, 0, t.2.2.1, t.2.2.2.1, t.2.2.2.2.1, t.2.2.2.2.2) nd (lN (lo + 4294967296 * hg)) 0 th) H := hP
        have hD : va_D A (rw0 b cA cJ N f (ro z (kAns N ob 128 (lo / 256) 101122066)) (t.1, 0, t.2.2.1, t.2.2.2.1, t.2.2.2.2.1, t.2.2.2.2.2) nd (lN (lo + 4294967296 * hg)) 0 th) := hD
        have hs9 : aS e9 2 = 0 := by unfold aS; rw [if_neg hc2]
        have hlF : lF fi (nI hg) (xZ e9) = 101122066 := lF_many hL hc7
        have hK9 : kWrite N f ob tr nd fi (lo / 256) hg = (f, (kAns N ob 128 (lo / 256) 101122066), tr_end (tr_end tr), nd) := by simp only [kWrite, hme, Option.elim, hs9, if_pos (show nI 0 = 0 from rfl), hlF]; rfl
        rw [hQ]
        have hw9 : (rw0 b cA cJ N f (ro z (kAns N ob 128 (lo / 256) 101122066)) (t.1, 0, t.2.2.1, t.2.2.2.1, t.2.2.2.2.1, t.2.2.2.2.2) nd (lN (lo + 4294967296 * hg)) 0 th) = r4 b cA cJ N z th (kWrite N f ob tr nd fi (lo / 256) hg) ((t.1, 0, t.2.2.1, t.2.2.2.1, t.2.2.2.2.1, t.2.2.2.2.2), (lN (lo + 4294967296 * hg)), 0) := by rw [hK9]; rfl
        have hr9 : rel2 (kWrite N f ob tr nd fi (lo / 256) hg).2.2.1 (t.1, 0, t.2.2.1, t.2.2.2.1, t.2.2.2.2.1, t.2.2.2.2.2) := by rw [hK9]; exact rel2_off (rel2_off hR (t.2.2)) _
        exact W.vret hx hb hr (fun t9 ht hW => ⟨rfl, ((t.1, 0, t.2.2.1, t.2.2.2.1, t.2.2.2.2.1, t.2.2.2.2.2), (lN (lo + 4294967296 * hg)), 0), hr9, by rw [ht, ← hw9]; exact hP, by rw [← hw9]; exact hD, hS.F ht⟩) hS.2.2 dX5_write_200
      refine lv_iconst (v := 1) hx hb dX5_write_80 (by decide) ?_
      refine lv_goto (tgt := 85) hx hb dX5_write_81 (by decide) ?_
      refine lv_istore hx hb dX5_write_85 hl (by decide) rfl (fun ls hl => ?_)
      have hl : lv_has ls 8 [(4, .int 1), (3, .int (nI e9)), (2, .int (nI (lo / 256 % 65536))), (0, .ref (b 0)), (1, .int (nI fi))] := hl
      refine lv_iload_n hx hb dX5_write_87 rfl (lv_at hl 4 rfl) ?_
      refine lv_iconst (v := 1) hx hb dX5_write_88 (by decide) ?_
      refine lv_iand hx hb dX5_write_89 ?_
      refine lv_if_eq (tgt := 97) hx hb dX5_write_90 (by decide) (fun hc8 => ?_) (fun hc8 => ?_)
      · refine lv_iconst (v := 0) hx hb dX5_write_97 (by decide) ?_
        refine lv_istore hx hb dX5_write_98 hl (by decide) rfl (fun ls hl => ?_)
        have hl : lv_has ls 8 [(5, .int 0), (4, .int 1), (3, .int (nI e9)), (2, .int (nI (lo / 256 % 65536))), (0, .ref (b 0)), (1, .int (nI fi))] := hl
        refine lv_iload hx hb dX5_write_100 (lv_at hl 0 rfl) ?_
        refine lv_if_ne (tgt := 114) hx hb dX5_write_102 (by decide) (fun hno => absurd (by decide) hno) (fun _ => ?_)
        refine lv_aload_n hx hb dX5_write_105 rfl (lv_at hl 4 rfl) ?_
        refine va_get (D := D) (ci := 5) (v := .ref (b 3)) (fs := [.int th, .int N, .ref (b 1), .ref (b 2), .ref (b 3), .ref (b 4), .ref (b 5), .ref (b 6), .int 22, .int 95, .int nd.1, .int nd.2.2.1, .int nd.2.1, .long nd.2.2.2, .int 0, .int t.2.2.1, .int t.2.2.2.1, .int t.2.2.2.2.1, .int t.2.2.2.2.2, .ref (b 7), .long (lN (lo + 4294967296 * hg)), .int 0, .ref (b 8), .ref (b 9), .ref (b 10), .int ((ro z ob).2.2.2.1), .int ((ro z ob).2.2.2.2)]) (C := RX5) (T := TX5) (N := 27) hx hb htb inX5 hown hK hP 0 rfl rfl 4 (by decide) (htb _ kF_X5_16) (fun _ h9 => h9) rfl dX5_write_106 ?_
        refine lv_iload_n hx hb dX5_write_109 rfl (lv_at hl 2 rfl) ?_
        refine va_iald (i := nI e9) hx hb hK hP 3 0 rfl rfl (vp_in_nI (by omega) (by decide)) dX5_write_110 ?_
        refine zb_ti (y := nI (xZ e9)) (by rw [nI_clamp (by omega)]) ?_
        refine lv_goto (tgt := 122) hx hb dX5_write_111 (by decide) ?_
        refine lv_istore hx hb dX5_write_122 hl (by decide) rfl (fun ls hl => ?_)
        have hl : lv_has ls 8 [(6, .int (nI (xZ e9))), (5, .int 0), (4, .int 1), (3, .int (nI e9)), (2, .int (nI (lo / 256 % 65536))), (0, .ref (b 0)), (1, .int (nI fi))] := hl
        refine lv_iload hx hb dX5_write_124 (lv_at hl 2 rfl) ?_
        refine lv_if_eq (tgt := 166) hx hb dX5_write_126 (by decide) (fun hno => absurd hno (by decide)) (fun _ => ?_)
        refine lv_iload hx hb dX5_write_129 (lv_at hl 1 rfl) ?_
        refine lv_if_eq (tgt := 144) hx hb dX5_write_131 (by decide) (fun _ => ?_) (fun hno => absurd (by decide) hno)
        refine lv_aload_n hx hb dX5_write_144 rfl (lv_at hl 5 rfl) ?_
        refine va_get (D := D) (ci := 5) (v := .ref (b 3)) (fs := [.int th, .int N, .ref (b 1), .ref (b 2), .ref (b 3), .ref (b 4), .ref (b 5), .ref (b 6), .int 22, .int 95, .int nd.1, .int nd.2.2.1, .int nd.2.1, .long nd.2.2.2, .int 0, .int t.2.2.1, .int t.2.2.2.1, .int t.2.2.2.2.1, .int t.2.2.2.2.2, .ref (b 7), .long (lN (lo + 4294967296 * hg)), .int 0, .ref (b 8), .ref (b 9), .ref (b 10), .int ((ro z ob).2.2.2.1), .int ((ro z ob).2.2.2.2)]) (C := RX5) (T := TX5) (N := 27) hx hb htb inX5 hown hK hP 0 rfl rfl 4 (by decide) (htb _ kF_X5_16) (fun _ h9 => h9) rfl dX5_write_145 ?_
        refine lv_iload_n hx hb dX5_write_148 rfl (lv_at hl 3 rfl) ?_
        refine va_iald (i := nI e9) hx hb hK hP 3 0 rfl rfl (vp_in_nI (by omega) (by decide)) dX5_write_149 ?_
        refine zb_ti (y := nI (xZ e9)) (by rw [nI_clamp (by omega)]) ?_
        refine lv_iconst (v := 4) hx hb dX5_write_150 (by decide) ?_
        refine lv_icmp_ge (tgt := 163) hx hb dX5_write_151 (by decide) (fun hc9 => ?_) (fun hc9 => ?_)
        · refine lv_iconst (v := 4) hx hb dX5_write_163 (by decide) ?_
          refine lv_istore hx hb dX5_write_164 hl (by decide) rfl (fun ls hl => ?_)
          have hl : lv_has ls 8 [(6, .int 4), (5, .int 0), (4, .int 1), (3, .int (nI e9)), (2, .int (nI (lo / 256 % 65536))), (0, .ref (b 0)), (1, .int (nI fi))] := hl
          have hL : lenOf fi (nI hg) (xZ e9) = 4 := by simp only [lenOf, if_neg hc3, if_pos hc8]; exact min4 (by omega) hc9
          refine lv_iload hx hb dX5_write_166 (lv_at hl 0 rfl) ?_
          refine lv_aload_n hx hb dX5_write_168 rfl (lv_at hl 5 rfl) ?_
          refine va_get (D := D) (ci := 5) (v := .ref (b 3)) (fs := [.int th, .int N, .ref (b 1), .ref (b 2), .ref (b 3), .ref (b 4), .ref (b 5), .ref (b 6), .int 22, .int 95, .int nd.1, .int nd.2.2.1, .int nd.2.1, .long nd.2.2.2, .int 0, .int t.2.2.1, .int t.2.2.2.1, .int t.2.2.2.2.1, .int t.2.2.2.2.2, .ref (b 7), .long (lN (lo + 4294967296 * hg)), .int 0, .ref (b 8), .ref (b 9), .ref (b 10), .int ((ro z ob).2.2.2.1), .int ((ro z ob).2.2.2.2)]) (C := RX5) (T := TX5) (N := 27) hx hb htb inX5 hown hK hP 0 rfl rfl 4 (by decide) (htb _ kF_X5_16) (fun _ h9 => h9) rfl dX5_write_169 ?_
          refine lv_iload_n hx hb dX5_write_172 rfl (lv_at hl 3 rfl) ?_
          refine va_iald (i := nI e9) hx hb hK hP 3 0 rfl rfl (vp_in_nI (by omega) (by decide)) dX5_write_173 ?_
          refine zb_ti (y := nI (xZ e9)) (by rw [nI_clamp (by omega)]) ?_
          refine lv_icmp_eq (tgt := 201) hx hb dX5_write_174 (by decide) (fun hc10 => ?_) (fun hc10 => ?_)
          · have hLz : 4 = nI (xZ e9) := hc10
            have hlF : lF fi (nI hg) (xZ e9) = 0 := lF_0 hL hLz
            have e11 : (4 : Int32) = nI (xZ e9) := hLz
            have hl : lv_has ls 8 [(6, .int (nI (xZ e9))), (5, .int 0), (4, .int 1), (3, .int (nI e9)), (2, .int (nI (lo / 256 % 65536))), (0, .ref (b 0)), (1, .int (nI fi))] := Eq.mp (congrArg (fun zz9 : Int32 => lv_has ls 8 [(6, .int zz9), (5, .int 0), (4, .int 1), (3, .int (nI e9)), (2, .int (nI (lo / 256 % 65536))), (0, .ref (b 0)), (1, .int (nI fi))]) e11) hl
            refine lv_iload hx hb dX5_write_201 (lv_at hl 2 rfl) ?_
            refine lv_if_ne (tgt := 232) hx hb dX5_write_203 (by decide) (fun _ => ?_) (fun hno => absurd hno (by decide))
            refine lv_iconst (v := 0) hx hb dX5_write_232 (by decide) ?_
            refine lv_istore hx hb dX5_write_233 hl (by decide) rfl (fun ls hl => ?_)
            have hl : lv_has ls 8 [(7, .int 0), (6, .int (nI (xZ e9))), (5, .int 0), (4, .int 1), (3, .int (nI e9)), (2, .int (nI (lo / 256 % 65536))), (0, .ref (b 0)), (1, .int (nI fi))] := hl
            have hz4 : xZ e9 ≤ 4 := lF_at (by omega) (by rw [hlF]; rfl) hc3
            have e12 : (t.1 : Nat → Int32) = (pF t.1 0 (0) (sx hg) 0) := (pF_0 _ _ _ _).symm
            have hP : va_P D vwCl (rw0 b cA cJ N f (ro z ob) ((pF t.1 0 (0) (sx hg) 0), 0, t.2.2.1, t.2.2.2.1, t.2.2.2.2.1, t.2.2.2.2.2) nd (lN (lo + 4294967296 * hg)) 0 th) _ := Eq.mp (congrArg (fun zz9 : Nat → Int32 => va_P D vwCl (rw0 b cA cJ N f (ro z ob) (zz9, 0, t.2.2.1, t.2.2.2.1, t.2.2.2.2.1, t.2.2.2.2.2) nd (lN (lo + 4294967296 * hg)) 0 th) _) e12) hP
            have hD : va_D A (rw0 b cA cJ N f (ro z ob) ((pF t.1 0 (0) (sx hg) 0), 0, t.2.2.1, t.2.2.2.1, t.2.2.2.2.1, t.2.2.2.2.2) nd (lN (lo + 4294967296 * hg)) 0 th) := Eq.mp (congrArg (fun zz9 : Nat → Int32 => va_D A (rw0 b cA cJ N f (ro z ob) (zz9, 0, t.2.2.1, t.2.2.2.1, t.2.2.2.2.1, t.2.2.2.2.2) nd (lN (lo + 4294967296 * hg)) 0 th)) e12) hD
            have lp : ∀ (nn k : Nat) (ls : Array Slot) (H : Heap) (locs : List Loc), va_P D vwCl (rw0 b cA cJ N f (ro z ob) ((pF t.1 0 (k) (sx hg) 0), 0, t.2.2.1, t.2.2.2.1, t.2.2.2.2.1, t.2.2.2.2.2) nd (lN (lo + 4294967296 * hg)) 0 th) H → va_D A (rw0 b cA cJ N f (ro z ob) ((pF t.1 0 (k) (sx hg) 0), 0, t.2.2.1, t.2.2.2.1, t.2.2.2.2.1, t.2.2.2.2.2) nd (lN (lo + 4294967296 * hg)) 0 th) → va_S A s.heap H locs → k + nn = xZ e9 → lv_has ls 8 [(0, .ref (b 0)), (3, .int (nI e9)), (6, .int (nI (xZ e9))), (7, .int (nI (k)))] → W p l ev ({ frames := 4, cells := 0, slots := 0, locals := 97 } : Room) s m ([.ref (b 0), .int (nI fi)]).toArray below meth c H locs 0 0 Q (F0 m 235 ls []) := by
              intro nn
              induction nn with
              | zero =>
                intro k ls H locs hP hD hS hk_lp  hl
                have hk0_lp : k = xZ e9 := by omega
                refine lv_iload hx hb dX5_write_235 (lv_at hl 3 rfl) ?_
                refine lv_iload hx hb dX5_write_237 (lv_at hl 2 rfl) ?_
                refine lv_icmp_ge (tgt := 266) hx hb dX5_write_239 (by decide) (fun _ => ?_) (fun hno => absurd (by rw [hk0_lp]; exact nI_le (Nat.le_refl _) (by omega)) hno)
                have e13 : ((pF t.1 0 (k) (sx hg) 0) : Nat → Int32) = (pF t.1 0 (xZ e9) (sx hg) 0) := by rw [hk0_lp]
                have hP : va_P D vwCl (rw0 b cA cJ N f (ro z ob) ((pF t.1 0 (xZ e9) (sx hg) 0), 0, t.2.2.1, t.2.2.2.1, t.2.2.2.2.1, t.2.2.2.2.2) nd (lN (lo + 4294967296 * hg)) 0 th) _ := Eq.mp (congrArg (fun zz9 : Nat → Int32 => va_P D vwCl (rw0 b cA cJ N f (ro z ob) (zz9, 0, t.2.2.1, t.2.2.2.1, t.2.2.2.2.1, t.2.2.2.2.2) nd (lN (lo + 4294967296 * hg)) 0 th) _) e13) hP
                have hD : va_D A (rw0 b cA cJ N f (ro z ob) ((pF t.1 0 (xZ e9) (sx hg) 0), 0, t.2.2.1, t.2.2.2.1, t.2.2.2.2.1, t.2.2.2.2.2) nd (lN (lo + 4294967296 * hg)) 0 th) := Eq.mp (congrArg (fun zz9 : Nat → Int32 => va_D A (rw0 b cA cJ N f (ro z ob) (zz9, 0, t.2.2.1, t.2.2.2.1, t.2.2.2.2.1, t.2.2.2.2.2) nd (lN (lo + 4294967296 * hg)) 0 th)) e13) hD
                have hH9 : (trW tr e9 (lo / 256) hg).1 = (pF t.1 0 (xZ e9) (sx hg) 0) := by rw [rel2_h hR]; rfl
                have hV9 : vW tr e9 (lo / 256) hg = sm (pF t.1 0 (xZ e9) (sx hg) 0) 0 (min (xZ e9) 4) := by unfold vW; rw [hH9, Nat.zero_add]
                have hBH : isB (pF t.1 0 (xZ e9) (sx hg) 0) := isB_pF hBh _ _ _ _
                by_cases hc14 : nI (stF nd.1 f e9 (sm (pF t.1 0 (xZ e9) (sx hg) 0) 0 (min (xZ e9) 4))) = 0
                · refine lv_aload_n hx hb dX5_write_266 rfl (lv_at hl 0 rfl) ?_
                  refine lv_iload_n hx hb dX5_write_267 rfl (lv_at hl 1 rfl) ?_
                  refine zb_cvi (va_runV (As := [.int (nI e9)]) (rest := []) ⟨hx, hb, hml, hown, htb⟩ (r_storeOk l D b cA cJ N f z ob ((pF t.1 0 (xZ e9) (sx hg) 0), 0, t.2.2.1, t.2.2.2.1, t.2.2.2.2.1, t.2.2.2.2.2) nd (lN (lo + 4294967296 * hg)) 0 th _ e9 hB hBH h22 hc14) (cwV 1 htb (wb_V kM_X5_168 kI_X5_store kS_X5_store kN_X5 kD_X5_store) rfl rfl rfl (by decide +kernel) ⟨Nat.le_of_ble_eq_true rfl, Nat.le_of_ble_eq_true rfl⟩) (zp_VW 0 rfl rfl hP hD hK hSt hS hA hnw) rfl rfl hl.1 rfl (lv_room (Nat.le_of_ble_eq_true rfl)) dX5_write_268 ⟨Nat.le_of_ble_eq_true rfl, Nat.le_of_ble_eq_true rfl⟩) hD hS hA (fun H locs hP hD hS => ?_)
                  have hP : va_P D vwCl (rw0 b cA cJ N (fSto f (pF t.1 0 (xZ e9) (sx hg) 0) e9) (ro z ob) ((pF t.1 0 (xZ e9) (sx hg) 0), 0, t.2.2.1, t.2.2.2.1, t.2.2.2.2.1, t.2.2.2.2.2) (nSto e9 nd) (lN (lo + 4294967296 * hg)) 0 th) H := hP
                  have hD : va_D A (rw0 b cA cJ N (fSto f (pF t.1 0 (xZ e9) (sx hg) 0) e9) (ro z ob) ((pF t.1 0 (xZ e9) (sx hg) 0), 0, t.2.2.1, t.2.2.2.1, t.2.2.2.2.1, t.2.2.2.2.2) (nSto e9 nd) (lN (lo + 4294967296 * hg)) 0 th) := hD
                  refine lv_if_eq (tgt := 293) hx hb dX5_write_271 (by decide) (fun hno => absurd hno (by decide)) (fun _ => ?_)
                  refine lv_aload_n hx hb dX5_write_274 rfl (lv_at hl 0 rfl) ?_
                  refine lv_bipush (v := 96) hx hb dX5_write_275 (by decide) ?_
                  refine lv_aload_n hx hb dX5_write_277 rfl (lv_at hl 0 rfl) ?_
                  refine va_get (D := D) (ci := 5) (v := .ref (b 1)) (fs := [.int th, .int N, .ref (b 1), .ref (b 2), .ref (b 3), .ref (b 4), .ref (b 5), .ref (b 6), .int 22, .int 95, .int ((nSto e9 nd).1), .int ((nSto e9 nd).2.2.1), .int ((nSto e9 nd).2.1), .long ((nSto e9 nd).2.2.2), .int 0, .int t.2.2.1, .int t.2.2.2.1, .int t.2.2.2.2.1, .int t.2.2.2.2.2, .ref (b 7), .long (lN (lo + 4294967296 * hg)), .int 0, .ref (b 8), .ref (b 9), .ref (b 10), .int ((ro z ob).2.2.2.1), .int ((ro z ob).2.2.2.2)]) (C := RX5) (T := TX5) (N := 27) hx hb htb inX5 hown hK hP 0 rfl rfl 2 (by decide) (htb _ kF_X5_7) (fun _ h9 => h9) rfl dX5_write_278 ?_
                  refine lv_iload_n hx hb dX5_write_281 rfl (lv_at hl 1 rfl) ?_
                  refine va_iald (i := nI e9) hx hb hK hP 1 0 rfl rfl (vp_in_nI (by omega) (by decide)) dX5_write_282 ?_
                  refine zb_ti (y := nI (xI e9)) (by rw [nI_clamp (by omega)]) ?_
                  refine lv_aload_n hx hb dX5_write_283 rfl (lv_at hl 0 rfl) ?_
                  refine va_get (D := D) (ci := 5) (v := .ref (b 2)) (fs := [.int th, .int N, .ref (b 1), .ref (b 2), .ref (b 3), .ref (b 4), .ref (b 5), .ref (b 6), .int 22, .int 95, .int ((nSto e9 nd).1), .int ((nSto e9 nd).2.2.1), .int ((nSto e9 nd).2.1), .long ((nSto e9 nd).2.2.2), .int 0, .int t.2.2.1, .int t.2.2.2.1, .int t.2.2.2.2.1, .int t.2.2.2.2.2, .ref (b 7), .long (lN (lo + 4294967296 * hg)), .int 0, .ref (b 8), .ref (b 9), .ref (b 10), .int ((ro z ob).2.2.2.1), .int ((ro z ob).2.2.2.2)]) (C := RX5) (T := TX5) (N := 27) hx hb htb inX5 hown hK hP 0 rfl rfl 3 (by decide) (htb _ kF_X5_13) (fun _ h9 => h9) rfl dX5_write_284 ?_
                  refine lv_iload_n hx hb dX5_write_287 rfl (lv_at hl 1 rfl) ?_
                  refine va_iald (i := nI e9) hx hb hK hP 2 0 rfl rfl (vp_in_nI (by omega) (by decide)) dX5_write_288 ?_
                  refine zb_ti (y := nI (xS e9)) (by rw [nI_clamp (by omega)]) ?_
                  refine lv_iconst (v := 0) hx hb dX5_write_289 (by decide) ?_
                  refine zb_cv (va_runV (As := [.int 96, .int (nI (xI e9)), .int (nI (xS e9)), .int 0]) (rest := []) ⟨hx, hb, hml, hown, htb⟩ (r_answer l D b cA cJ N (fSto f (pF t.1 0 (xZ e9) (sx hg) 0) e9) z ob ((pF t.1 0 (xZ e9) (sx hg) 0), 0, t.2.2.1, t.2.2.2.1, t.2.2.2.2.1, t.2.2.2.2.2) (nSto e9 nd) (lN (lo + 4294967296 * hg)) 0 th _ 96 (xI e9) (xS e9) 0 ho (by decide) (by omega) (by omega) (by decide)) (cwV 4 htb (wb_V kM_X5_131 kI_X5_answer kS_X5_answer kN_X5 kD_X5_answer) rfl rfl rfl (by decide +kernel) ⟨Nat.le_of_ble_eq_true rfl, Nat.le_of_ble_eq_true rfl⟩) (zp_VW 0 rfl rfl hP hD hK hSt hS hA hnw) rfl rfl hl.1 rfl (lv_room (Nat.le_of_ble_eq_true rfl)) dX5_write_290 ⟨Nat.le_of_ble_eq_true rfl, Nat.le_of_ble_eq_true rfl⟩) hD hS hA (fun H locs hP hD hS => ?_)
                  have hP : va_P D vwCl (rw0 b cA cJ N (fSto f (pF t.1 0 (xZ e9) (sx hg) 0) e9) (ro z (kAns N ob 96 ((xI e9) + 65536 * (xS e9)) 0)) ((pF t.1 0 (xZ e9) (sx hg) 0), 0, t.2.2.1, t.2.2.2.1, t.2.2.2.2.1, t.2.2.2.2.2) (nSto e9 nd) (lN (lo + 4294967296 * hg)) 0 th) H := hP
                  have hD : va_D A (rw0 b cA cJ N (fSto f (pF t.1 0 (xZ e9) (sx hg) 0) e9) (ro z (kAns N ob 96 ((xI e9) + 65536 * (xS e9)) 0)) ((pF t.1 0 (xZ e9) (sx hg) 0), 0, t.2.2.1, t.2.2.2.1, t.2.2.2.2.1, t.2.2.2.2.2) (nSto e9 nd) (lN (lo + 4294967296 * hg)) 0 th) := hD
                  have hs9 : aS e9 2 = 0 := by unfold aS; rw [if_neg hc2]
                  have hK9 : kWrite N f ob tr nd fi (lo / 256) hg = ((fSto f (pF t.1 0 (xZ e9) (sx hg) 0) e9), (kAns N ob 96 ((xI e9) + 65536 * (xS e9)) 0), tr_end (trW tr e9 (lo / 256) hg), (nSto e9 nd)) := by rw [hadx]; simp only [kWrite, hme, Option.elim, hs9, if_pos (show nI 0 = 0 from rfl), hlF, if_neg hc3, hV9, if_pos hc14, hH9]
                  rw [hQ]
                  have hw9 : (rw0 b cA cJ N (fSto f (pF t.1 0 (xZ e9) (sx hg) 0) e9) (ro z (kAns N ob 96 ((xI e9) + 65536 * (xS e9)) 0)) ((pF t.1 0 (xZ e9) (sx hg) 0), 0, t.2.2.1, t.2.2.2.1, t.2.2.2.2.1, t.2.2.2.2.2) (nSto e9 nd) (lN (lo + 4294967296 * hg)) 0 th) = r4 b cA cJ N z th (kWrite N f ob tr nd fi (lo / 256) hg) (((pF t.1 0 (xZ e9) (sx hg) 0), 0, t.2.2.1, t.2.2.2.1, t.2.2.2.2.1, t.2.2.2.2.2), (lN (lo + 4294967296 * hg)), 0) := by rw [hK9]; rfl
                  have hr9 : rel2 (kWrite N f ob tr nd fi (lo / 256) hg).2.2.1 ((pF t.1 0 (xZ e9) (sx hg) 0), 0, t.2.2.1, t.2.2.2.1, t.2.2.2.2.1, t.2.2.2.2.2) := by rw [hK9]; exact rel_off h22 (Nat.le_of_eq (Nat.zero_add _)) rfl rfl (by rw [rel2_h hR]; rfl) _
                  exact W.vret hx hb hr (fun t9 ht hW => ⟨rfl, (((pF t.1 0 (xZ e9) (sx hg) 0), 0, t.2.2.1, t.2.2.2.1, t.2.2.2.2.1, t.2.2.2.2.2), (lN (lo + 4294967296 * hg)), 0), hr9, by rw [ht, ← hw9]; exact hP, by rw [← hw9]; exact hD, hS.F ht⟩) hS.2.2 dX5_write_293
                · refine lv_aload_n hx hb dX5_write_266 rfl (lv_at hl 0 rfl) ?_
                  refine lv_iload_n hx hb dX5_write_267 rfl (lv_at hl 1 rfl) ?_
                  refine zb_cvi (va_runV (As := [.int (nI e9)]) (rest := []) ⟨hx, hb, hml, hown, htb⟩ (r_storeNo0 l D b cA cJ N f z ob ((pF t.1 0 (xZ e9) (sx hg) 0), 0, t.2.2.1, t.2.2.2.1, t.2.2.2.2.1, t.2.2.2.2.2) nd (lo + 4294967296 * hg) th _ e9 (lo / 256) hB hBH h22 ho hxa.2.2.1 hc14) (cwV 1 htb (wb_V kM_X5_168 kI_X5_store kS_X5_store kN_X5 kD_X5_store) rfl rfl rfl (by decide +kernel) ⟨Nat.le_of_ble_eq_true rfl, Nat.le_of_ble_eq_true rfl⟩) (zp_VW 0 rfl rfl hP hD hK hSt hS hA hnw) rfl rfl hl.1 rfl (lv_room (Nat.le_of_ble_eq_true rfl)) dX5_write_268 ⟨Nat.le_of_ble_eq_true rfl, Nat.le_of_ble_eq_true rfl⟩) hD hS hA (fun H locs hP hD hS => ?_)
                  have hP : va_P D vwCl (rw0 b cA cJ N f (ro z (kAns N ob 128 (lo / 256) (stF nd.1 f e9 (sm (pF t.1 0 (xZ e9) (sx hg) 0) 0 (min (xZ e9) 4))))) ((pF t.1 0 (xZ e9) (sx hg) 0), 0, t.2.2.1, t.2.2.2.1, t.2.2.2.2.1, t.2.2.2.2.2) nd (lN (lo + 4294967296 * hg)) 0 th) H := hP
                  have hD : va_D A (rw0 b cA cJ N f (ro z (kAns N ob 128 (lo / 256) (stF nd.1 f e9 (sm (pF t.1 0 (xZ e9) (sx hg) 0) 0 (min (xZ e9) 4))))) ((pF t.1 0 (xZ e9) (sx hg) 0), 0, t.2.2.1, t.2.2.2.1, t.2.2.2.2.1, t.2.2.2.2.2) nd (lN (lo + 4294967296 * hg)) 0 th) := hD
                  refine lv_if_eq (tgt := 293) hx hb dX5_write_271 (by decide) (fun _ => ?_) (fun hno => absurd (by decide) hno)
                  have hs9 : aS e9 2 = 0 := by unfold aS; rw [if_neg hc2]
                  have hK9 : kWrite N f ob tr nd fi (lo / 256) hg = (f, (kAns N ob 128 (lo / 256) (stF nd.1 f e9 (sm (pF t.1 0 (xZ e9) (sx hg) 0) 0 (min (xZ e9) 4)))), tr_end (trW tr e9 (lo / 256) hg), nd) := by simp only [kWrite, hme, Option.elim, hs9, if_pos (show nI 0 = 0 from rfl), hlF, if_neg hc3, hV9, if_neg hc14]; rfl
                  rw [hQ]
                  have hw9 : (rw0 b cA cJ N f (ro z (kAns N ob 128 (lo / 256) (stF nd.1 f e9 (sm (pF t.1 0 (xZ e9) (sx hg) 0) 0 (min (xZ e9) 4))))) ((pF t.1 0 (xZ e9) (sx hg) 0), 0, t.2.2.1, t.2.2.2.1, t.2.2.2.2.1, t.2.2.2.2.2) nd (lN (lo + 4294967296 * hg)) 0 th) = r4 b cA cJ N z th (kWrite N f ob tr nd fi (lo / 256) hg) (((pF t.1 0 (xZ e9) (sx hg) 0), 0, t.2.2.1, t.2.2.2.1, t.2.2.2.2.1, t.2.2.2.2.2), (lN (lo + 4294967296 * hg)), 0) := by rw [hK9]; rfl
                  have hr9 : rel2 (kWrite N f ob tr nd fi (lo / 256) hg).2.2.1 ((pF t.1 0 (xZ e9) (sx hg) 0), 0, t.2.2.1, t.2.2.2.1, t.2.2.2.2.1, t.2.2.2.2.2) := by rw [hK9]; exact rel_off h22 (Nat.le_of_eq (Nat.zero_add _)) rfl rfl (by rw [rel2_h hR]; rfl) _
                  exact W.vret hx hb hr (fun t9 ht hW => ⟨rfl, (((pF t.1 0 (xZ e9) (sx hg) 0), 0, t.2.2.1, t.2.2.2.1, t.2.2.2.2.1, t.2.2.2.2.2), (lN (lo + 4294967296 * hg)), 0), hr9, by rw [ht, ← hw9]; exact hP, by rw [← hw9]; exact hD, hS.F ht⟩) hS.2.2 dX5_write_293
              | succ nn ih_lp =>
                intro k ls H locs hP hD hS hk_lp  hl
                have hk1_lp : k < xZ e9 := by omega
                refine lv_iload hx hb dX5_write_235 (lv_at hl 3 rfl) ?_
                refine lv_iload hx hb dX5_write_237 (lv_at hl 2 rfl) ?_
                refine lv_icmp_ge (tgt := 266) hx hb dX5_write_239 (by decide) (fun hno => absurd hno (nI_ge (a := k) (b := xZ e9) hk1_lp (by omega))) (fun _ => ?_)
                refine lv_aload_n hx hb dX5_write_242 rfl (lv_at hl 0 rfl) ?_
                refine va_get (D := D) (ci := 5) (v := .ref (b 7)) (fs := [.int th, .int N, .ref (b 1), .ref (b 2), .ref (b 3), .ref (b 4), .ref (b 5), .ref (b 6), .int 22, .int 95, .int nd.1, .int nd.2.2.1, .int nd.2.1, .long nd.2.2.2, .int 0, .int t.2.2.1, .int t.2.2.2.1, .int t.2.2.2.2.1, .int t.2.2.2.2.2, .ref (b 7), .long (lN (lo + 4294967296 * hg)), .int 0, .ref (b 8), .ref (b 9), .ref (b 10), .int ((ro z ob).2.2.2.1), .int ((ro z ob).2.2.2.2)]) (C := RX5) (T := TX5) (N := 27) hx hb htb inX5 hown hK hP 0 rfl rfl 19 (by decide) (htb _ kF_X5_28) (fun _ h9 => h9) rfl dX5_write_243 ?_
                refine lv_iload hx hb dX5_write_246 (lv_at hl 3 rfl) ?_
                refine lv_aload_n hx hb dX5_write_248 rfl (lv_at hl 0 rfl) ?_
                refine va_get (D := D) (ci := 5) (v := .long (lN (lo + 4294967296 * hg))) (fs := [.int th, .int N, .ref (b 1), .ref (b 2), .ref (b 3), .ref (b 4), .ref (b 5), .ref (b 6), .int 22, .int 95, .int nd.1, .int nd.2.2.1, .int nd.2.1, .long nd.2.2.2, .int 0, .int t.2.2.1, .int t.2.2.2.1, .int t.2.2.2.2.1, .int t.2.2.2.2.2, .ref (b 7), .long (lN (lo + 4294967296 * hg)), .int 0, .ref (b 8), .ref (b 9), .ref (b 10), .int ((ro z ob).2.2.2.1), .int ((ro z ob).2.2.2.2)]) (C := RX5) (T := TX5) (N := 27) hx hb htb inX5 hown hK hP 0 rfl rfl 20 (by decide) (htb _ kF_X5_123) (fun _ h9 => h9) rfl dX5_write_249 ?_
                refine lv_iconst (v := 4) hx hb dX5_write_252 (by decide) ?_
                refine lv_iload hx hb dX5_write_253 (lv_at hl 3 rfl) ?_
                refine lv_iadd hx hb dX5_write_255 ?_
                refine zb_ti (nI_add 4 (k)) ?_
                refine zb_ci (va_runS (As := [.long (lN (lo + 4294967296 * hg)), .int (nI (4 + (k)))]) (rest := [.int (nI (k)), .ref (b 7)]) ⟨hx, hb, hml, hown, htb⟩ (r_byteOf l D b cA cJ N f (ro z ob) ((pF t.1 0 (k) (sx hg) 0), 0, t.2.2.1, t.2.2.2.1, t.2.2.2.2.1, t.2.2.2.2.2) nd (lN (lo + 4294967296 * hg)) 0 th (lo + 4294967296 * hg) (4 + (k)) (by omega)) (va_cwS 2 htb (wb_S kM_X5_119 kZ_X5_byteOf kN_X5 kD_X5_byteOf) rfl rfl rfl (by decide +kernel) ⟨Nat.le_of_ble_eq_true rfl, Nat.le_of_ble_eq_true rfl⟩) (zp_S hP hK hSt hS hnw) rfl rfl hl.1 rfl (lv_room (Nat.le_of_ble_eq_true rfl)) dX5_write_256 ⟨Nat.le_of_ble_eq_true rfl, Nat.le_of_ble_eq_true rfl⟩) ?_
                refine zb_ti (y := nI (bN (sx hg) k)) (by rw [b4 hlo hhg (by omega)]) ?_
                refine va_iast (i := nI (k)) (x := nI (bN (sx hg) k)) hx hb hK hP hD hS 7 0 rfl rfl (vp_in_nI (by omega) (by decide)) dX5_write_259 (fun H locs hP hD hS => ?_)
                rw [nI_clamp (by omega)] at hP hD
                have hP : va_P D vwCl (rw0 b cA cJ N f (ro z ob) (upd (pF t.1 0 (k) (sx hg) 0) (k) (nI (bN (sx hg) k)), 0, t.2.2.1, t.2.2.2.1, t.2.2.2.2.1, t.2.2.2.2.2) nd (lN (lo + 4294967296 * hg)) 0 th) H := hP
                have hD : va_D A (rw0 b cA cJ N f (ro z ob) (upd (pF t.1 0 (k) (sx hg) 0) (k) (nI (bN (sx hg) k)), 0, t.2.2.1, t.2.2.2.1, t.2.2.2.2.1, t.2.2.2.2.2) nd (lN (lo + 4294967296 * hg)) 0 th) := hD
                rw [pF_u0] at hP hD
                have hP : va_P D vwCl (rw0 b cA cJ N f (ro z ob) ((pF t.1 0 (k + 1) (sx hg) 0), 0, t.2.2.1, t.2.2.2.1, t.2.2.2.2.1, t.2.2.2.2.2) nd (lN (lo + 4294967296 * hg)) 0 th) H := hP
                have hD : va_D A (rw0 b cA cJ N f (ro z ob) ((pF t.1 0 (k + 1) (sx hg) 0), 0, t.2.2.1, t.2.2.2.1, t.2.2.2.2.1, t.2.2.2.2.2) nd (lN (lo + 4294967296 * hg)) 0 th) := hD
                refine lv_iinc (k := 3) (v := nI ((k) + 1)) hx hb dX5_write_260 hl rfl (nI_1 (k)) (by decide) rfl (fun ls hl => ?_)
                have hl : lv_has ls 8 [(7, .int (nI ((k) + 1))), (0, .ref (b 0)), (3, .int (nI e9)), (6, .int (nI (xZ e9)))] := hl
                refine lv_goto (tgt := 235) hx hb dX5_write_263 (by decide) ?_
                exact ih_lp (k + 1) ls _ _ hP hD hS (by omega) (lv_sub hl [1, 2, 3, 0] rfl)
            exact lp (xZ e9 - 0) (0) ls _ _ hP hD hS (by omega) (lv_sub hl [6, 4, 1, 0] rfl)
          refine lv_aload_n hx hb dX5_write_177 rfl (lv_at hl 5 rfl) ?_
          refine lv_iload hx hb dX5_write_178 (lv_at hl 0 rfl) ?_
          refine lv_aload_n hx hb dX5_write_180 rfl (lv_at hl 5 rfl) ?_
          refine va_get (D := D) (ci := 5) (v := .ref (b 3)) (fs := [.int th, .int N, .ref (b 1), .ref (b 2), .ref (b 3), .ref (b 4), .ref (b 5), .ref (b 6), .int 22, .int 95, .int nd.1, .int nd.2.2.1, .int nd.2.1, .long nd.2.2.2, .int 0, .int t.2.2.1, .int t.2.2.2.1, .int t.2.2.2.2.1, .int t.2.2.2.2.2, .ref (b 7), .long (lN (lo + 4294967296 * hg)), .int 0, .ref (b 8), .ref (b 9), .ref (b 10), .int ((ro z ob).2.2.2.1), .int ((ro z ob).2.2.2.2)]) (C := RX5) (T := TX5) (N := 27) hx hb htb inX5 hown hK hP 0 rfl rfl 4 (by decide) (htb _ kF_X5_16) (fun _ h9 => h9) rfl dX5_write_181 ?_
          refine lv_iload_n hx hb dX5_write_184 rfl (lv_at hl 3 rfl) ?_
          refine va_iald (i := nI e9) hx hb hK hP 3 0 rfl rfl (vp_in_nI (by omega) (by decide)) dX5_write_185 ?_
          refine zb_ti (y := nI (xZ e9)) (by rw [nI_clamp (by omega)]) ?_
          refine lv_icmp_le (tgt := 194) hx hb dX5_write_186 (by decide) (fun _ => ?_) (fun hno => absurd hc9 hno)
          refine lv_ldc (v := 101122067) hx hb hown (htb _ kK_X5_163) dX5_write_194 ?_
          refine lv_iconst (v := 0) hx hb dX5_write_196 (by decide) ?_
          refine zb_cv (va_runV (As := [.int 101122067, .int 0]) (rest := []) ⟨hx, hb, hml, hown, htb⟩ (r_abort0 l D b cA cJ N f z ob (t.1, 0, t.2.2.1, t.2.2.2.1, t.2.2.2.2.1, t.2.2.2.2.2) nd (lo + 4294967296 * hg) 0 th _ (lo / 256) 101122067 ho hxa.2.2.1 (by decide)) (cwV 2 htb (wb_V kM_X5_152 kI_X5_abort kS_X5_abort kN_X5 kD_X5_abort) rfl rfl rfl (by decide +kernel) ⟨Nat.le_of_ble_eq_true rfl, Nat.le_of_ble_eq_true rfl⟩) (zp_VW 0 rfl rfl hP hD hK hSt hS hA hnw) rfl rfl hl.1 rfl (lv_room (Nat.le_of_ble_eq_true rfl)) dX5_write_197 ⟨Nat.le_of_ble_eq_true rfl, Nat.le_of_ble_eq_true rfl⟩) hD hS hA (fun H locs hP hD hS => ?_)
          have hP : va_P D vwCl (rw0 b cA cJ N f (ro z (kAns N ob 128 (lo / 256) 101122067)) (t.1, 0, t.2.2.1, t.2.2.2.1, t.2.2.2.2.1, t.2.2.2.2.2) nd (lN (lo + 4294967296 * hg)) 0 th) H := hP
          have hD : va_D A (rw0 b cA cJ N f (ro z (kAns N ob 128 (lo / 256) 101122067)) (t.1, 0, t.2.2.1, t.2.2.2.1, t.2.2.2.2.1, t.2.2.2.2.2) nd (lN (lo + 4294967296 * hg)) 0 th) := hD
          have hs9 : aS e9 2 = 0 := by unfold aS; rw [if_neg hc2]
          have hlF : lF fi (nI hg) (xZ e9) = 101122067 := lF_few hL hc10 hc9
          have hK9 : kWrite N f ob tr nd fi (lo / 256) hg = (f, (kAns N ob 128 (lo / 256) 101122067), tr_end (tr_end tr), nd) := by simp only [kWrite, hme, Option.elim, hs9, if_pos (show nI 0 = 0 from rfl), hlF]; rfl
          rw [hQ]
          have hw9 : (rw0 b cA cJ N f (ro z (kAns N ob 128 (lo / 256) 101122067)) (t.1, 0, t.2.2.1, t.2.2.2.1, t.2.2.2.2.1, t.2.2.2.2.2) nd (lN (lo + 4294967296 * hg)) 0 th) = r4 b cA cJ N z th (kWrite N f ob tr nd fi (lo / 256) hg) ((t.1, 0, t.2.2.1, t.2.2.2.1, t.2.2.2.2.1, t.2.2.2.2.2), (lN (lo + 4294967296 * hg)), 0) := by rw [hK9]; rfl
          have hr9 : rel2 (kWrite N f ob tr nd fi (lo / 256) hg).2.2.1 (t.1, 0, t.2.2.1, t.2.2.2.1, t.2.2.2.2.1, t.2.2.2.2.2) := by rw [hK9]; exact rel2_off (rel2_off hR (t.2.2)) _
          exact W.vret hx hb hr (fun t9 ht hW => ⟨rfl, ((t.1, 0, t.2.2.1, t.2.2.2.1, t.2.2.2.2.1, t.2.2.2.2.2), (lN (lo + 4294967296 * hg)), 0), hr9, by rw [ht, ← hw9]; exact hP, by rw [← hw9]; exact hD, hS.F ht⟩) hS.2.2 dX5_write_200
        refine lv_aload_n hx hb dX5_write_154 rfl (lv_at hl 5 rfl) ?_
        refine va_get (D := D) (ci := 5) (v := .ref (b 3)) (fs := [.int th, .int N, .ref (b 1), .ref (b 2), .ref (b 3), .ref (b 4), .ref (b 5), .ref (b 6), .int 22, .int 95, .int nd.1, .int nd.2.2.1, .int nd.2.1, .long nd.2.2.2, .int 0, .int t.2.2.1, .int t.2.2.2.1, .int t.2.2.2.2.1, .int t.2.2.2.2.2, .ref (b 7), .long (lN (lo + 4294967296 * hg)), .int 0, .ref (b 8), .ref (b 9), .ref (b 10), .int ((ro z ob).2.2.2.1), .int ((ro z ob).2.2.2.2)]) (C := RX5) (T := TX5) (N := 27) hx hb htb inX5 hown hK hP 0 rfl rfl 4 (by decide) (htb _ kF_X5_16) (fun _ h9 => h9) rfl dX5_write_155 ?_
        refine lv_iload_n hx hb dX5_write_158 rfl (lv_at hl 3 rfl) ?_
        refine va_iald (i := nI e9) hx hb hK hP 3 0 rfl rfl (vp_in_nI (by omega) (by decide)) dX5_write_159 ?_
        refine zb_ti (y := nI (xZ e9)) (by rw [nI_clamp (by omega)]) ?_
        refine lv_goto (tgt := 164) hx hb dX5_write_160 (by decide) ?_
        refine lv_istore hx hb dX5_write_164 hl (by decide) rfl (fun ls hl => ?_)
        have hl : lv_has ls 8 [(6, .int (nI (xZ e9))), (5, .int 0), (4, .int 1), (3, .int (nI e9)), (2, .int (nI (lo / 256 % 65536))), (0, .ref (b 0)), (1, .int (nI fi))] := hl
        have hL : lenOf fi (nI hg) (xZ e9) = nI (xZ e9) := by simp only [lenOf, if_neg hc3, if_pos hc8]; exact if_neg (fun h => hc9 (Int32.le_of_lt h))
        refine lv_iload hx hb dX5_write_166 (lv_at hl 0 rfl) ?_
        refine lv_aload_n hx hb dX5_write_168 rfl (lv_at hl 5 rfl) ?_
        refine va_get (D := D) (ci := 5) (v := .ref (b 3)) (fs := [.int th, .int N, .ref (b 1), .ref (b 2), .ref (b 3), .ref (b 4), .ref (b 5), .ref (b 6), .int 22, .int 95, .int nd.1, .int nd.2.2.1, .int nd.2.1, .long nd.2.2.2, .int 0, .int t.2.2.1, .int t.2.2.2.1, .int t.2.2.2.2.1, .int t.2.2.2.2.2, .ref (b 7), .long (lN (lo + 4294967296 * hg)), .int 0, .ref (b 8), .ref (b 9), .ref (b 10), .int ((ro z ob).2.2.2.1), .int ((ro z ob).2.2.2.2)]) (C := RX5) (T := TX5) (N := 27) hx hb htb inX5 hown hK hP 0 rfl rfl 4 (by decide) (htb _ kF_X5_16) (fun _ h9 => h9) rfl dX5_write_169 ?_
        refine lv_iload_n hx hb dX5_write_172 rfl (lv_at hl 3 rfl) ?_
        refine va_iald (i := nI e9) hx hb hK hP 3 0 rfl rfl (vp_in_nI (by omega) (by decide)) dX5_write_173 ?_
        refine zb_ti (y := nI (xZ e9)) (by rw [nI_clamp (by omega)]) ?_
        refine lv_icmp_eq (tgt := 201) hx hb dX5_write_174 (by decide) (fun _ => ?_) (fun hno => absurd (rfl) hno)
        have hLz : nI (xZ e9) = nI (xZ e9) := rfl
        have hlF : lF fi (nI hg) (xZ e9) = 0 := lF_0 hL hLz
        refine lv_iload hx hb dX5_write_201 (lv_at hl 2 rfl) ?_
        refine lv_if_ne (tgt := 232) hx hb dX5_write_203 (by decide) (fun _ => ?_) (fun hno => absurd hno (by decide))
        refine lv_iconst (v := 0) hx hb dX5_write_232 (by decide) ?_
        refine lv_istore hx hb dX5_write_233 hl (by decide) rfl (fun ls hl => ?_)
        have hl : lv_has ls 8 [(7, .int 0), (6, .int (nI (xZ e9))), (5, .int 0), (4, .int 1), (3, .int (nI e9)), (2, .int (nI (lo / 256 % 65536))), (0, .ref (b 0)), (1, .int (nI fi))] := hl
        have hz4 : xZ e9 ≤ 4 := lF_at (by omega) (by rw [hlF]; rfl) hc3
        have e15 : (t.1 : Nat → Int32) = (pF t.1 0 (0) (sx hg) 0) := (pF_0 _ _ _ _).symm
        have hP : va_P D vwCl (rw0 b cA cJ N f (ro z ob) ((pF t.1 0 (0) (sx hg) 0), 0, t.2.2.1, t.2.2.2.1, t.2.2.2.2.1, t.2.2.2.2.2) nd (lN (lo + 4294967296 * hg)) 0 th) _ := Eq.mp (congrArg (fun zz9 : Nat → Int32 => va_P D vwCl (rw0 b cA cJ N f (ro z ob) (zz9, 0, t.2.2.1, t.2.2.2.1, t.2.2.2.2.1, t.2.2.2.2.2) nd (lN (lo + 4294967296 * hg)) 0 th) _) e15) hP
        have hD : va_D A (rw0 b cA cJ N f (ro z ob) ((pF t.1 0 (0) (sx hg) 0), 0, t.2.2.1, t.2.2.2.1, t.2.2.2.2.1, t.2.2.2.2.2) nd (lN (lo + 4294967296 * hg)) 0 th) := Eq.mp (congrArg (fun zz9 : Nat → Int32 => va_D A (rw0 b cA cJ N f (ro z ob) (zz9, 0, t.2.2.1, t.2.2.2.1, t.2.2.2.2.1, t.2.2.2.2.2) nd (lN (lo + 4294967296 * hg)) 0 th)) e15) hD
        have lp : ∀ (nn k : Nat) (ls : Array Slot) (H : Heap) (locs : List Loc), va_P D vwCl (rw0 b cA cJ N f (ro z ob) ((pF t.1 0 (k) (sx hg) 0), 0, t.2.2.1, t.2.2.2.1, t.2.2.2.2.1, t.2.2.2.2.2) nd (lN (lo + 4294967296 * hg)) 0 th) H → va_D A (rw0 b cA cJ N f (ro z ob) ((pF t.1 0 (k) (sx hg) 0), 0, t.2.2.1, t.2.2.2.1, t.2.2.2.2.1, t.2.2.2.2.2) nd (lN (lo + 4294967296 * hg)) 0 th) → va_S A s.heap H locs → k + nn = xZ e9 → lv_has ls 8 [(0, .ref (b 0)), (3, .int (nI e9)), (6, .int (nI (xZ e9))), (7, .int (nI (k)))] → W p l ev ({ frames := 4, cells := 0, slots := 0, locals := 97 } : Room) s m ([.ref (b 0), .int (nI fi)]).toArray below meth c H locs 0 0 Q (F0 m 235 ls []) := by
          intro nn
          induction nn with
          | zero =>
            intro k ls H locs hP hD hS hk_lp  hl
            have hk0_lp : k = xZ e9 := by omega
            refine lv_iload hx hb dX5_write_235 (lv_at hl 3 rfl) ?_
            refine lv_iload hx hb dX5_write_237 (lv_at hl 2 rfl) ?_
            refine lv_icmp_ge (tgt := 266) hx hb dX5_write_239 (by decide) (fun _ => ?_) (fun hno => absurd (by rw [hk0_lp]; exact nI_le (Nat.le_refl _) (by omega)) hno)
            have e16 : ((pF t.1 0 (k) (sx hg) 0) : Nat → Int32) = (pF t.1 0 (xZ e9) (sx hg) 0) := by rw [hk0_lp]
            have hP : va_P D vwCl (rw0 b cA cJ N f (ro z ob) ((pF t.1 0 (xZ e9) (sx hg) 0), 0, t.2.2.1, t.2.2.2.1, t.2.2.2.2.1, t.2.2.2.2.2) nd (lN (lo + 4294967296 * hg)) 0 th) _ := Eq.mp (congrArg (fun zz9 : Nat → Int32 => va_P D vwCl (rw0 b cA cJ N f (ro z ob) (zz9, 0, t.2.2.1, t.2.2.2.1, t.2.2.2.2.1, t.2.2.2.2.2) nd (lN (lo + 4294967296 * hg)) 0 th) _) e16) hP
            have hD : va_D A (rw0 b cA cJ N f (ro z ob) ((pF t.1 0 (xZ e9) (sx hg) 0), 0, t.2.2.1, t.2.2.2.1, t.2.2.2.2.1, t.2.2.2.2.2) nd (lN (lo + 4294967296 * hg)) 0 th) := Eq.mp (congrArg (fun zz9 : Nat → Int32 => va_D A (rw0 b cA cJ N f (ro z ob) (zz9, 0, t.2.2.1, t.2.2.2.1, t.2.2.2.2.1, t.2.2.2.2.2) nd (lN (lo + 4294967296 * hg)) 0 th)) e16) hD
            have hH9 : (trW tr e9 (lo / 256) hg).1 = (pF t.1 0 (xZ e9) (sx hg) 0) := by rw [rel2_h hR]; rfl
            have hV9 : vW tr e9 (lo / 256) hg = sm (pF t.1 0 (xZ e9) (sx hg) 0) 0 (min (xZ e9) 4) := by unfold vW; rw [hH9, Nat.zero_add]
            have hBH : isB (pF t.1 0 (xZ e9) (sx hg) 0) := isB_pF hBh _ _ _ _
            by_cases hc17 : nI (stF nd.1 f e9 (sm (pF t.1 0 (xZ e9) (sx hg) 0) 0 (min (xZ e9) 4))) = 0
            · refine lv_aload_n hx hb dX5_write_266 rfl (lv_at hl 0 rfl) ?_
              refine lv_iload_n hx hb dX5_write_267 rfl (lv_at hl 1 rfl) ?_
              refine zb_cvi (va_runV (As := [.int (nI e9)]) (rest := []) ⟨hx, hb, hml, hown, htb⟩ (r_storeOk l D b cA cJ N f z ob ((pF t.1 0 (xZ e9) (sx hg) 0), 0, t.2.2.1, t.2.2.2.1, t.2.2.2.2.1, t.2.2.2.2.2) nd (lN (lo + 4294967296 * hg)) 0 th _ e9 hB hBH h22 hc17) (cwV 1 htb (wb_V kM_X5_168 kI_X5_store kS_X5_store kN_X5 kD_X5_store) rfl rfl rfl (by decide +kernel) ⟨Nat.le_of_ble_eq_true rfl, Nat.le_of_ble_eq_true rfl⟩) (zp_VW 0 rfl rfl hP hD hK hSt hS hA hnw) rfl rfl hl.1 rfl (lv_room (Nat.le_of_ble_eq_true rfl)) dX5_write_268 ⟨Nat.le_of_ble_eq_true rfl, Nat.le_of_ble_eq_true rfl⟩) hD hS hA (fun H locs hP hD hS => ?_)
              have hP : va_P D vwCl (rw0 b cA cJ N (fSto f (pF t.1 0 (xZ e9) (sx hg) 0) e9) (ro z ob) ((pF t.1 0 (xZ e9) (sx hg) 0), 0, t.2.2.1, t.2.2.2.1, t.2.2.2.2.1, t.2.2.2.2.2) (nSto e9 nd) (lN (lo + 4294967296 * hg)) 0 th) H := hP
              have hD : va_D A (rw0 b cA cJ N (fSto f (pF t.1 0 (xZ e9) (sx hg) 0) e9) (ro z ob) ((pF t.1 0 (xZ e9) (sx hg) 0), 0, t.2.2.1, t.2.2.2.1, t.2.2.2.2.1, t.2.2.2.2.2) (nSto e9 nd) (lN (lo + 4294967296 * hg)) 0 th) := hD
              refine lv_if_eq (tgt := 293) hx hb dX5_write_271 (by decide) (fun hno => absurd hno (by decide)) (fun _ => ?_)
              refine lv_aload_n hx hb dX5_write_274 rfl (lv_at hl 0 rfl) ?_
              refine lv_bipush (v := 96) hx hb dX5_write_275 (by decide) ?_
              refine lv_aload_n hx hb dX5_write_277 rfl (lv_at hl 0 rfl) ?_
              refine va_get (D := D) (ci := 5) (v := .ref (b 1)) (fs := [.int th, .int N, .ref (b 1), .ref (b 2), .ref (b 3), .ref (b 4), .ref (b 5), .ref (b 6), .int 22, .int 95, .int ((nSto e9 nd).1), .int ((nSto e9 nd).2.2.1), .int ((nSto e9 nd).2.1), .long ((nSto e9 nd).2.2.2), .int 0, .int t.2.2.1, .int t.2.2.2.1, .int t.2.2.2.2.1, .int t.2.2.2.2.2, .ref (b 7), .long (lN (lo + 4294967296 * hg)), .int 0, .ref (b 8), .ref (b 9), .ref (b 10), .int ((ro z ob).2.2.2.1), .int ((ro z ob).2.2.2.2)]) (C := RX5) (T := TX5) (N := 27) hx hb htb inX5 hown hK hP 0 rfl rfl 2 (by decide) (htb _ kF_X5_7) (fun _ h9 => h9) rfl dX5_write_278 ?_
              refine lv_iload_n hx hb dX5_write_281 rfl (lv_at hl 1 rfl) ?_
              refine va_iald (i := nI e9) hx hb hK hP 1 0 rfl rfl (vp_in_nI (by omega) (by decide)) dX5_write_282 ?_
              refine zb_ti (y := nI (xI e9)) (by rw [nI_clamp (by omega)]) ?_
              refine lv_aload_n hx hb dX5_write_283 rfl (lv_at hl 0 rfl) ?_
              refine va_get (D := D) (ci := 5) (v := .ref (b 2)) (fs := [.int th, .int N, .ref (b 1), .ref (b 2), .ref (b 3), .ref (b 4), .ref (b 5), .ref (b 6), .int 22, .int 95, .int ((nSto e9 nd).1), .int ((nSto e9 nd).2.2.1), .int ((nSto e9 nd).2.1), .long ((nSto e9 nd).2.2.2), .int 0, .int t.2.2.1, .int t.2.2.2.1, .int t.2.2.2.2.1, .int t.2.2.2.2.2, .ref (b 7), .long (lN (lo + 4294967296 * hg)), .int 0, .ref (b 8), .ref (b 9), .ref (b 10), .int ((ro z ob).2.2.2.1), .int ((ro z ob).2.2.2.2)]) (C := RX5) (T := TX5) (N := 27) hx hb htb inX5 hown hK hP 0 rfl rfl 3 (by decide) (htb _ kF_X5_13) (fun _ h9 => h9) rfl dX5_write_284 ?_
              refine lv_iload_n hx hb dX5_write_287 rfl (lv_at hl 1 rfl) ?_
              refine va_iald (i := nI e9) hx hb hK hP 2 0 rfl rfl (vp_in_nI (by omega) (by decide)) dX5_write_288 ?_
              refine zb_ti (y := nI (xS e9)) (by rw [nI_clamp (by omega)]) ?_
              refine lv_iconst (v := 0) hx hb dX5_write_289 (by decide) ?_
              refine zb_cv (va_runV (As := [.int 96, .int (nI (xI e9)), .int (nI (xS e9)), .int 0]) (rest := []) ⟨hx, hb, hml, hown, htb⟩ (r_answer l D b cA cJ N (fSto f (pF t.1 0 (xZ e9) (sx hg) 0) e9) z ob ((pF t.1 0 (xZ e9) (sx hg) 0), 0, t.2.2.1, t.2.2.2.1, t.2.2.2.2.1, t.2.2.2.2.2) (nSto e9 nd) (lN (lo + 4294967296 * hg)) 0 th _ 96 (xI e9) (xS e9) 0 ho (by decide) (by omega) (by omega) (by decide)) (cwV 4 htb (wb_V kM_X5_131 kI_X5_answer kS_X5_answer kN_X5 kD_X5_answer) rfl rfl rfl (by decide +kernel) ⟨Nat.le_of_ble_eq_true rfl, Nat.le_of_ble_eq_true rfl⟩) (zp_VW 0 rfl rfl hP hD hK hSt hS hA hnw) rfl rfl hl.1 rfl (lv_room (Nat.le_of_ble_eq_true rfl)) dX5_write_290 ⟨Nat.le_of_ble_eq_true rfl, Nat.le_of_ble_eq_true rfl⟩) hD hS hA (fun H locs hP hD hS => ?_)
              have hP : va_P D vwCl (rw0 b cA cJ N (fSto f (pF t.1 0 (xZ e9) (sx hg) 0) e9) (ro z (kAns N ob 96 ((xI e9) + 65536 * (xS e9)) 0)) ((pF t.1 0 (xZ e9) (sx hg) 0), 0, t.2.2.1, t.2.2.2.1, t.2.2.2.2.1, t.2.2.2.2.2) (nSto e9 nd) (lN (lo + 4294967296 * hg)) 0 th) H := hP
              have hD : va_D A (rw0 b cA cJ N (fSto f (pF t.1 0 (xZ e9) (sx hg) 0) e9) (ro z (kAns N ob 96 ((xI e9) + 65536 * (xS e9)) 0)) ((pF t.1 0 (xZ e9) (sx hg) 0), 0, t.2.2.1, t.2.2.2.1, t.2.2.2.2.1, t.2.2.2.2.2) (nSto e9 nd) (lN (lo + 4294967296 * hg)) 0 th) := hD
              have hs9 : aS e9 2 = 0 := by unfold aS; rw [if_neg hc2]
              have hK9 : kWrite N f ob tr nd fi (lo / 256) hg = ((fSto f (pF t.1 0 (xZ e9) (sx hg) 0) e9), (kAns N ob 96 ((xI e9) + 65536 * (xS e9)) 0), tr_end (trW tr e9 (lo / 256) hg), (nSto e9 nd)) := by rw [hadx]; simp only [kWrite, hme, Option.elim, hs9, if_pos (show nI 0 = 0 from rfl), hlF, if_neg hc3, hV9, if_pos hc17, hH9]
              rw [hQ]
              have hw9 : (rw0 b cA cJ N (fSto f (pF t.1 0 (xZ e9) (sx hg) 0) e9) (ro z (kAns N ob 96 ((xI e9) + 65536 * (xS e9)) 0)) ((pF t.1 0 (xZ e9) (sx hg) 0), 0, t.2.2.1, t.2.2.2.1, t.2.2.2.2.1, t.2.2.2.2.2) (nSto e9 nd) (lN (lo + 4294967296 * hg)) 0 th) = r4 b cA cJ N z th (kWrite N f ob tr nd fi (lo / 256) hg) (((pF t.1 0 (xZ e9) (sx hg) 0), 0, t.2.2.1, t.2.2.2.1, t.2.2.2.2.1, t.2.2.2.2.2), (lN (lo + 4294967296 * hg)), 0) := by rw [hK9]; rfl
              have hr9 : rel2 (kWrite N f ob tr nd fi (lo / 256) hg).2.2.1 ((pF t.1 0 (xZ e9) (sx hg) 0), 0, t.2.2.1, t.2.2.2.1, t.2.2.2.2.1, t.2.2.2.2.2) := by rw [hK9]; exact rel_off h22 (Nat.le_of_eq (Nat.zero_add _)) rfl rfl (by rw [rel2_h hR]; rfl) _
              exact W.vret hx hb hr (fun t9 ht hW => ⟨rfl, (((pF t.1 0 (xZ e9) (sx hg) 0), 0, t.2.2.1, t.2.2.2.1, t.2.2.2.2.1, t.2.2.2.2.2), (lN (lo + 4294967296 * hg)), 0), hr9, by rw [ht, ← hw9]; exact hP, by rw [← hw9]; exact hD, hS.F ht⟩) hS.2.2 dX5_write_293
            · refine lv_aload_n hx hb dX5_write_266 rfl (lv_at hl 0 rfl) ?_
              refine lv_iload_n hx hb dX5_write_267 rfl (lv_at hl 1 rfl) ?_
              refine zb_cvi (va_runV (As := [.int (nI e9)]) (rest := []) ⟨hx, hb, hml, hown, htb⟩ (r_storeNo0 l D b cA cJ N f z ob ((pF t.1 0 (xZ e9) (sx hg) 0), 0, t.2.2.1, t.2.2.2.1, t.2.2.2.2.1, t.2.2.2.2.2) nd (lo + 4294967296 * hg) th _ e9 (lo / 256) hB hBH h22 ho hxa.2.2.1 hc17) (cwV 1 htb (wb_V kM_X5_168 kI_X5_store kS_X5_store kN_X5 kD_X5_store) rfl rfl rfl (by decide +kernel) ⟨Nat.le_of_ble_eq_true rfl, Nat.le_of_ble_eq_true rfl⟩) (zp_VW 0 rfl rfl hP hD hK hSt hS hA hnw) rfl rfl hl.1 rfl (lv_room (Nat.le_of_ble_eq_true rfl)) dX5_write_268 ⟨Nat.le_of_ble_eq_true rfl, Nat.le_of_ble_eq_true rfl⟩) hD hS hA (fun H locs hP hD hS => ?_)
              have hP : va_P D vwCl (rw0 b cA cJ N f (ro z (kAns N ob 128 (lo / 256) (stF nd.1 f e9 (sm (pF t.1 0 (xZ e9) (sx hg) 0) 0 (min (xZ e9) 4))))) ((pF t.1 0 (xZ e9) (sx hg) 0), 0, t.2.2.1, t.2.2.2.1, t.2.2.2.2.1, t.2.2.2.2.2) nd (lN (lo + 4294967296 * hg)) 0 th) H := hP
              have hD : va_D A (rw0 b cA cJ N f (ro z (kAns N ob 128 (lo / 256) (stF nd.1 f e9 (sm (pF t.1 0 (xZ e9) (sx hg) 0) 0 (min (xZ e9) 4))))) ((pF t.1 0 (xZ e9) (sx hg) 0), 0, t.2.2.1, t.2.2.2.1, t.2.2.2.2.1, t.2.2.2.2.2) nd (lN (lo + 4294967296 * hg)) 0 th) := hD
              refine lv_if_eq (tgt := 293) hx hb dX5_write_271 (by decide) (fun _ => ?_) (fun hno => absurd (by decide) hno)
              have hs9 : aS e9 2 = 0 := by unfold aS; rw [if_neg hc2]
              have hK9 : kWrite N f ob tr nd fi (lo / 256) hg = (f, (kAns N ob 128 (lo / 256) (stF nd.1 f e9 (sm (pF t.1 0 (xZ e9) (sx hg) 0) 0 (min (xZ e9) 4)))), tr_end (trW tr e9 (lo / 256) hg), nd) := by simp only [kWrite, hme, Option.elim, hs9, if_pos (show nI 0 = 0 from rfl), hlF, if_neg hc3, hV9, if_neg hc17]; rfl
              rw [hQ]
              have hw9 : (rw0 b cA cJ N f (ro z (kAns N ob 128 (lo / 256) (stF nd.1 f e9 (sm (pF t.1 0 (xZ e9) (sx hg) 0) 0 (min (xZ e9) 4))))) ((pF t.1 0 (xZ e9) (sx hg) 0), 0, t.2.2.1, t.2.2.2.1, t.2.2.2.2.1, t.2.2.2.2.2) nd (lN (lo + 4294967296 * hg)) 0 th) = r4 b cA cJ N z th (kWrite N f ob tr nd fi (lo / 256) hg) (((pF t.1 0 (xZ e9) (sx hg) 0), 0, t.2.2.1, t.2.2.2.1, t.2.2.2.2.1, t.2.2.2.2.2), (lN (lo + 4294967296 * hg)), 0) := by rw [hK9]; rfl
              have hr9 : rel2 (kWrite N f ob tr nd fi (lo / 256) hg).2.2.1 ((pF t.1 0 (xZ e9) (sx hg) 0), 0, t.2.2.1, t.2.2.2.1, t.2.2.2.2.1, t.2.2.2.2.2) := by rw [hK9]; exact rel_off h22 (Nat.le_of_eq (Nat.zero_add _)) rfl rfl (by rw [rel2_h hR]; rfl) _
              exact W.vret hx hb hr (fun t9 ht hW => ⟨rfl, (((pF t.1 0 (xZ e9) (sx hg) 0), 0, t.2.2.1, t.2.2.2.1, t.2.2.2.2.1, t.2.2.2.2.2), (lN (lo + 4294967296 * hg)), 0), hr9, by rw [ht, ← hw9]; exact hP, by rw [← hw9]; exact hD, hS.F ht⟩) hS.2.2 dX5_write_293
          | succ nn ih_lp =>
            intro k ls H locs hP hD hS hk_lp  hl
            have hk1_lp : k < xZ e9 := by omega
            refine lv_iload hx hb dX5_write_235 (lv_at hl 3 rfl) ?_
            refine lv_iload hx hb dX5_write_237 (lv_at hl 2 rfl) ?_
            refine lv_icmp_ge (tgt := 266) hx hb dX5_write_239 (by decide) (fun hno => absurd hno (nI_ge (a := k) (b := xZ e9) hk1_lp (by omega))) (fun _ => ?_)
            refine lv_aload_n hx hb dX5_write_242 rfl (lv_at hl 0 rfl) ?_
            refine va_get (D := D) (ci := 5) (v := .ref (b 7)) (fs := [.int th, .int N, .ref (b 1), .ref (b 2), .ref (b 3), .ref (b 4), .ref (b 5), .ref (b 6), .int 22, .int 95, .int nd.1, .int nd.2.2.1, .int nd.2.1, .long nd.2.2.2, .int 0, .int t.2.2.1, .int t.2.2.2.1, .int t.2.2.2.2.1, .int t.2.2.2.2.2, .ref (b 7), .long (lN (lo + 4294967296 * hg)), .int 0, .ref (b 8), .ref (b 9), .ref (b 10), .int ((ro z ob).2.2.2.1), .int ((ro z ob).2.2.2.2)]) (C := RX5) (T := TX5) (N := 27) hx hb htb inX5 hown hK hP 0 rfl rfl 19 (by decide) (htb _ kF_X5_28) (fun _ h9 => h9) rfl dX5_write_243 ?_
            refine lv_iload hx hb dX5_write_246 (lv_at hl 3 rfl) ?_
            refine lv_aload_n hx hb dX5_write_248 rfl (lv_at hl 0 rfl) ?_
            refine va_get (D := D) (ci := 5) (v := .long (lN (lo + 4294967296 * hg))) (fs := [.int th, .int N, .ref (b 1), .ref (b 2), .ref (b 3), .ref (b 4), .ref (b 5), .ref (b 6), .int 22, .int 95, .int nd.1, .int nd.2.2.1, .int nd.2.1, .long nd.2.2.2, .int 0, .int t.2.2.1, .int t.2.2.2.1, .int t.2.2.2.2.1, .int t.2.2.2.2.2, .ref (b 7), .long (lN (lo + 4294967296 * hg)), .int 0, .ref (b 8), .ref (b 9), .ref (b 10), .int ((ro z ob).2.2.2.1), .int ((ro z ob).2.2.2.2)]) (C := RX5) (T := TX5) (N := 27) hx hb htb inX5 hown hK hP 0 rfl rfl 20 (by decide) (htb _ kF_X5_123) (fun _ h9 => h9) rfl dX5_write_249 ?_
            refine lv_iconst (v := 4) hx hb dX5_write_252 (by decide) ?_
            refine lv_iload hx hb dX5_write_253 (lv_at hl 3 rfl) ?_
            refine lv_iadd hx hb dX5_write_255 ?_
            refine zb_ti (nI_add 4 (k)) ?_
            refine zb_ci (va_runS (As := [.long (lN (lo + 4294967296 * hg)), .int (nI (4 + (k)))]) (rest := [.int (nI (k)), .ref (b 7)]) ⟨hx, hb, hml, hown, htb⟩ (r_byteOf l D b cA cJ N f (ro z ob) ((pF t.1 0 (k) (sx hg) 0), 0, t.2.2.1, t.2.2.2.1, t.2.2.2.2.1, t.2.2.2.2.2) nd (lN (lo + 4294967296 * hg)) 0 th (lo + 4294967296 * hg) (4 + (k)) (by omega)) (va_cwS 2 htb (wb_S kM_X5_119 kZ_X5_byteOf kN_X5 kD_X5_byteOf) rfl rfl rfl (by decide +kernel) ⟨Nat.le_of_ble_eq_true rfl, Nat.le_of_ble_eq_true rfl⟩) (zp_S hP hK hSt hS hnw) rfl rfl hl.1 rfl (lv_room (Nat.le_of_ble_eq_true rfl)) dX5_write_256 ⟨Nat.le_of_ble_eq_true rfl, Nat.le_of_ble_eq_true rfl⟩) ?_
            refine zb_ti (y := nI (bN (sx hg) k)) (by rw [b4 hlo hhg (by omega)]) ?_
            refine va_iast (i := nI (k)) (x := nI (bN (sx hg) k)) hx hb hK hP hD hS 7 0 rfl rfl (vp_in_nI (by omega) (by decide)) dX5_write_259 (fun H locs hP hD hS => ?_)
            rw [nI_clamp (by omega)] at hP hD
            have hP : va_P D vwCl (rw0 b cA cJ N f (ro z ob) (upd (pF t.1 0 (k) (sx hg) 0) (k) (nI (bN (sx hg) k)), 0, t.2.2.1, t.2.2.2.1, t.2.2.2.2.1, t.2.2.2.2.2) nd (lN (lo + 4294967296 * hg)) 0 th) H := hP
            have hD : va_D A (rw0 b cA cJ N f (ro z ob) (upd (pF t.1 0 (k) (sx hg) 0) (k) (nI (bN (sx hg) k)), 0, t.2.2.1, t.2.2.2.1, t.2.2.2.2.1, t.2.2.2.2.2) nd (lN (lo + 4294967296 * hg)) 0 th) := hD
            rw [pF_u0] at hP hD
            have hP : va_P D vwCl (rw0 b cA cJ N f (ro z ob) ((pF t.1 0 (k + 1) (sx hg) 0), 0, t.2.2.1, t.2.2.2.1, t.2.2.2.2.1, t.2.2.2.2.2) nd (lN (lo + 4294967296 * hg)) 0 th) H := hP
            have hD : va_D A (rw0 b cA cJ N f (ro z ob) ((pF t.1 0 (k + 1) (sx hg) 0), 0, t.2.2.1, t.2.2.2.1, t.2.2.2.2.1, t.2.2.2.2.2) nd (lN (lo + 4294967296 * hg)) 0 th) := hD
            refine lv_iinc (k := 3) (v := nI ((k) + 1)) hx hb dX5_write_260 hl rfl (nI_1 (k)) (by decide) rfl (fun ls hl => ?_)
            have hl : lv_has ls 8 [(7, .int (nI ((k) + 1))), (0, .ref (b 0)), (3, .int (nI e9)), (6, .int (nI (xZ e9)))] := hl
            refine lv_goto (tgt := 235) hx hb dX5_write_263 (by decide) ?_
            exact ih_lp (k + 1) ls _ _ hP hD hS (by omega) (lv_sub hl [1, 2, 3, 0] rfl)
        exact lp (xZ e9 - 0) (0) ls _ _ hP hD hS (by omega) (lv_sub hl [6, 4, 1, 0] rfl)
      refine lv_iconst (v := 1) hx hb dX5_write_93 (by decide) ?_
      refine lv_goto (tgt := 98) hx hb dX5_write_94 (by decide) ?_
      refine lv_istore hx hb dX5_write_98 hl (by decide) rfl (fun ls hl => ?_)
      have hl : lv_has ls 8 [(5, .int 1), (4, .int 1), (3, .int (nI e9)), (2, .int (nI (lo / 256 % 65536))), (0, .ref (b 0)), (1, .int (nI fi))] := hl
      refine lv_iload hx hb dX5_write_100 (lv_at hl 0 rfl) ?_
      refine lv_if_ne (tgt := 114) hx hb dX5_write_102 (by decide) (fun _ => ?_) (fun hno => absurd hno (by decide))
      refine lv_aload_n hx hb dX5_write_114 rfl (lv_at hl 4 rfl) ?_
      refine va_get (D := D) (ci := 5) (v := .long (lN (lo + 4294967296 * hg))) (fs := [.int th, .int N, .ref (b 1), .ref (b 2), .ref (b 3), .ref (b 4), .ref (b 5), .ref (b 6), .int 22, .int 95, .int nd.1, .int nd.2.2.1, .int nd.2.1, .long nd.2.2.2, .int 0, .int t.2.2.1, .int t.2.2.2.1, .int t.2.2.2.2.1, .int t.2.2.2.2.2, .ref (b 7), .long (lN (lo + 4294967296 * hg)), .int 0, .ref (b 8), .ref (b 9), .ref (b 10), .int ((ro z ob).2.2.2.1), .int ((ro z ob).2.2.2.2)]) (C := RX5) (T := TX5) (N := 27) hx hb htb inX5 hown hK hP 0 rfl rfl 20 (by decide) (htb _ kF_X5_123) (fun _ h9 => h9) rfl dX5_write_115 ?_
      refine lv_bipush (v := 32) hx hb dX5_write_118 (by decide) ?_
      refine lv_lshr hx hb dX5_write_120 rfl ?_
      refine lv_l2i hx hb dX5_write_121 rfl ?_
      refine zb_ti (y := nI hg) (by rw [sar_32, hxa.2.2.2.2]) ?_
      refine lv_istore hx hb dX5_write_122 hl (by decide) rfl (fun ls hl => ?_)
      have hl : lv_has ls 8 [(6, .int (nI hg)), (5, .int 1), (4, .int 1), (3, .int (nI e9)), (2, .int (nI (lo / 256 % 65536))), (0, .ref (b 0)), (1, .int (nI fi))] := hl
      refine lv_iload hx hb dX5_write_124 (lv_at hl 2 rfl) ?_
      refine lv_if_eq (tgt := 166) hx hb dX5_write_126 (by decide) (fun hno => absurd hno (by decide)) (fun _ => ?_)
      refine lv_iload hx hb dX5_write_129 (lv_at hl 1 rfl) ?_
      refine lv_if_eq (tgt := 144) hx hb dX5_write_131 (by decide) (fun hno => absurd hno (by decide)) (fun _ => ?_)
      refine lv_iconst (v := 4) hx hb dX5_write_134 (by decide) ?_
      refine lv_iload_n hx hb dX5_write_135 rfl (lv_at hl 6 rfl) ?_
      refine lv_iconst (v := 2) hx hb dX5_write_136 (by decide) ?_
      refine lv_ishr hx hb dX5_write_137 ?_
      refine lv_iconst (v := 3) hx hb dX5_write_138 (by decide) ?_
      refine lv_iand hx hb dX5_write_139 ?_
      refine lv_isub hx hb dX5_write_140 ?_
      refine lv_goto (tgt := 164) hx hb dX5_write_141 (by decide) ?_
      refine lv_istore hx hb dX5_write_164 hl (by decide) rfl (fun ls hl => ?_)
      have hl : lv_has ls 8 [(6, .int (4 - (((nI fi) >>> ((2 : Int32) &&& 31)) &&& 3))), (5, .int 1), (4, .int 1), (3, .int (nI e9)), (2, .int (nI (lo / 256 % 65536))), (0, .ref (b 0)), (1, .int (nI fi))] := hl
      have hL : lenOf fi (nI hg) (xZ e9) = 4 - (((nI fi) >>> ((2 : Int32) &&& 31)) &&& 3) := by simp only [lenOf, if_neg hc3, if_neg hc8]
      refine lv_iload hx hb dX5_write_166 (lv_at hl 0 rfl) ?_
      refine lv_aload_n hx hb dX5_write_168 rfl (lv_at hl 5 rfl) ?_
      refine va_get (D := D) (ci := 5) (v := .ref (b 3)) (fs := [.int th, .int N, .ref (b 1), .ref (b 2), .ref (b 3), .ref (b 4), .ref (b 5), .ref (b 6), .int 22, .int 95, .int nd.1, .int nd.2.2.1, .int nd.2.1, .long nd.2.2.2, .int 0, .int t.2.2.1, .int t.2.2.2.1, .int t.2.2.2.2.1, .int t.2.2.2.2.2, .ref (b 7), .long (lN (lo + 4294967296 * hg)), .int 0, .ref (b 8), .ref (b 9), .ref (b 10), .int ((ro z ob).2.2.2.1), .int ((ro z ob).2.2.2.2)]) (C := RX5) (T := TX5) (N := 27) hx hb htb inX5 hown hK hP 0 rfl rfl 4 (by decide) (htb _ kF_X5_16) (fun _ h9 => h9) rfl dX5_write_169 ?_
      refine lv_iload_n hx hb dX5_write_172 rfl (lv_at hl 3 rfl) ?_
      refine va_iald (i := nI e9) hx hb hK hP 3 0 rfl rfl (vp_in_nI (by omega) (by decide)) dX5_write_173 ?_
      refine zb_ti (y := nI (xZ e9)) (by rw [nI_clamp (by omega)]) ?_
      refine lv_icmp_eq (tgt := 201) hx hb dX5_write_174 (by decide) (fun hc18 => ?_) (fun hc18 => ?_)
      · have hLz : 4 - (((nI fi) >>> ((2 : Int32) &&& 31)) &&& 3) = nI (xZ e9) := hc18
        have hlF : lF fi (nI hg) (xZ e9) = 0 := lF_0 hL hLz
        have e19 : (4 - (((nI fi) >>> ((2 : Int32) &&& 31)) &&& 3) : Int32) = nI (xZ e9) := hLz
        have hl : lv_has ls 8 [(6, .int (nI (xZ e9))), (5, .int 1), (4, .int 1), (3, .int (nI e9)), (2, .int (nI (lo / 256 % 65536))), (0, .ref (b 0)), (1, .int (nI fi))] := Eq.mp (congrArg (fun zz9 : Int32 => lv_has ls 8 [(6, .int zz9), (5, .int 1), (4, .int 1), (3, .int (nI e9)), (2, .int (nI (lo / 256 % 65536))), (0, .ref (b 0)), (1, .int (nI fi))]) e19) hl
        refine lv_iload hx hb dX5_write_201 (lv_at hl 2 rfl) ?_
        refine lv_if_ne (tgt := 232) hx hb dX5_write_203 (by decide) (fun _ => ?_) (fun hno => absurd hno (by decide))
        refine lv_iconst (v := 0) hx hb dX5_write_232 (by decide) ?_
        refine lv_istore hx hb dX5_write_233 hl (by decide) rfl (fun ls hl => ?_)
        have hl : lv_has ls 8 [(7, .int 0), (6, .int (nI (xZ e9))), (5, .int 1), (4, .int 1), (3, .int (nI e9)), (2, .int (nI (lo / 256 % 65536))), (0, .ref (b 0)), (1, .int (nI fi))] := hl
        have hz4 : xZ e9 ≤ 4 := lF_at (by omega) (by rw [hlF]; rfl) hc3
        have e20 : (t.1 : Nat → Int32) = (pF t.1 0 (0) (sx hg) 0) := (pF_0 _ _ _ _).symm
        have hP : va_P D vwCl (rw0 b cA cJ N f (ro z ob) ((pF t.1 0 (0) (sx hg) 0), 0, t.2.2.1, t.2.2.2.1, t.2.2.2.2.1, t.2.2.2.2.2) nd (lN (lo + 4294967296 * hg)) 0 th) _ := Eq.mp (congrArg (fun zz9 : Nat → Int32 => va_P D vwCl (rw0 b cA cJ N f (ro z ob) (zz9, 0, t.2.2.1, t.2.2.2.1, t.2.2.2.2.1, t.2.2.2.2.2) nd (lN (lo + 4294967296 * hg)) 0 th) _) e20) hP
        have hD : va_D A (rw0 b cA cJ N f (ro z ob) ((pF t.1 0 (0) (sx hg) 0), 0, t.2.2.1, t.2.2.2.1, t.2.2.2.2.1, t.2.2.2.2.2) nd (lN (lo + 4294967296 * hg)) 0 th) := Eq.mp (congrArg (fun zz9 : Nat → Int32 => va_D A (rw0 b cA cJ N f (ro z ob) (zz9, 0, t.2.2.1, t.2.2.2.1, t.2.2.2.2.1, t.2.2.2.2.2) nd (lN (lo + 4294967296 * hg)) 0 th)) e20) hD
        have lp : ∀ (nn k : Nat) (ls : Array Slot) (H : Heap) (locs : List Loc), va_P D vwCl (rw0 b cA cJ N f (ro z ob) ((pF t.1 0 (k) (sx hg) 0), 0, t.2.2.1, t.2.2.2.1, t.2.2.2.2.1, t.2.2.2.2.2) nd (lN (lo + 4294967296 * hg)) 0 th) H → va_D A (rw0 b cA cJ N f (ro z ob) ((pF t.1 0 (k) (sx hg) 0), 0, t.2.2.1, t.2.2.2.1, t.2.2.2.2.1, t.2.2.2.2.2) nd (lN (lo + 4294967296 * hg)) 0 th) → va_S A s.heap H locs → k + nn = xZ e9 → lv_has ls 8 [(0, .ref (b 0)), (3, .int (nI e9)), (6, .int (nI (xZ e9))), (7, .int (nI (k)))] → W p l ev ({ frames := 4, cells := 0, slots := 0, locals := 97 } : Room) s m ([.ref (b 0), .int (nI fi)]).toArray below meth c H locs 0 0 Q (F0 m 235 ls []) := by
          intro nn
          induction nn with
          | zero =>
            intro k ls H locs hP hD hS hk_lp  hl
            have hk0_lp : k = xZ e9 := by omega
            refine lv_iload hx hb dX5_write_235 (lv_at hl 3 rfl) ?_
            refine lv_iload hx hb dX5_write_237 (lv_at hl 2 rfl) ?_
            refine lv_icmp_ge (tgt := 266) hx hb dX5_write_239 (by decide) (fun _ => ?_) (fun hno => absurd (by rw [hk0_lp]; exact nI_le (Nat.le_refl _) (by omega)) hno)
            have e21 : ((pF t.1 0 (k) (sx hg) 0) : Nat → Int32) = (pF t.1 0 (xZ e9) (sx hg) 0) := by rw [hk0_lp]
            have hP : va_P D vwCl (rw0 b cA cJ N f (ro z ob) ((pF t.1 0 (xZ e9) (sx hg) 0), 0, t.2.2.1, t.2.2.2.1, t.2.2.2.2.1, t.2.2.2.2.2) nd (lN (lo + 4294967296 * hg)) 0 th) _ := Eq.mp (congrArg (fun zz9 : Nat → Int32 => va_P D vwCl (rw0 b cA cJ N f (ro z ob) (zz9, 0, t.2.2.1, t.2.2.2.1, t.2.2.2.2.1, t.2.2.2.2.2) nd (lN (lo + 4294967296 * hg)) 0 th) _) e21) hP
            have hD : va_D A (rw0 b cA cJ N f (ro z ob) ((pF t.1 0 (xZ e9) (sx hg) 0), 0, t.2.2.1, t.2.2.2.1, t.2.2.2.2.1, t.2.2.2.2.2) nd (lN (lo + 4294967296 * hg)) 0 th) := Eq.mp (congrArg (fun zz9 : Nat → Int32 => va_D A (rw0 b cA cJ N f (ro z ob) (zz9, 0, t.2.2.1, t.2.2.2.1, t.2.2.2.2.1, t.2.2.2.2.2) nd (lN (lo + 4294967296 * hg)) 0 th)) e21) hD
            have hH9 : (trW tr e9 (lo / 256) hg).1 = (pF t.1 0 (xZ e9) (sx hg) 0) := by rw [rel2_h hR]; rfl
            have hV9 : vW tr e9 (lo / 256) hg = sm (pF t.1 0 (xZ e9) (sx hg) 0) 0 (min (xZ e9) 4) := by unfold vW; rw [hH9, Nat.zero_add]
            have hBH : isB (pF t.1 0 (xZ e9) (sx hg) 0) := isB_pF hBh _ _ _ _
            by_cases hc22 : nI (stF nd.1 f e9 (sm (pF t.1 0 (xZ e9) (sx hg) 0) 0 (min (xZ e9) 4))) = 0
            · refine lv_aload_n hx hb dX5_write_266 rfl (lv_at hl 0 rfl) ?_
              refine lv_iload_n hx hb dX5_write_267 rfl (lv_at hl 1 rfl) ?_
              refine zb_cvi (va_runV (As := [.int (nI e9)]) (rest := []) ⟨hx, hb, hml, hown, htb⟩ (r_storeOk l D b cA cJ N f z ob ((pF t.1 0 (xZ e9) (sx hg) 0), 0, t.2.2.1, t.2.2.2.1, t.2.2.2.2.1, t.2.2.2.2.2) nd (lN (lo + 4294967296 * hg)) 0 th _ e9 hB hBH h22 hc22) (cwV 1 htb (wb_V kM_X5_168 kI_X5_store kS_X5_store kN_X5 kD_X5_store) rfl rfl rfl (by decide +kernel) ⟨Nat.le_of_ble_eq_true rfl, Nat.le_of_ble_eq_true rfl⟩) (zp_VW 0 rfl rfl hP hD hK hSt hS hA hnw) rfl rfl hl.1 rfl (lv_room (Nat.le_of_ble_eq_true rfl)) dX5_write_268 ⟨Nat.le_of_ble_eq_true rfl, Nat.le_of_ble_eq_true rfl⟩) hD hS hA (fun H locs hP hD hS => ?_)
              have hP : va_P D vwCl (rw0 b cA cJ N (fSto f (pF t.1 0 (xZ e9) (sx hg) 0) e9) (ro z ob) ((pF t.1 0 (xZ e9) (sx hg) 0), 0, t.2.2.1, t.2.2.2.1, t.2.2.2.2.1, t.2.2.2.2.2) (nSto e9 nd) (lN (lo + 4294967296 * hg)) 0 th) H := hP
              have hD : va_D A (rw0 b cA cJ N (fSto f (pF t.1 0 (xZ e9) (sx hg) 0) e9) (ro z ob) ((pF t.1 0 (xZ e9) (sx hg) 0), 0, t.2.2.1, t.2.2.2.1, t.2.2.2.2.1, t.2.2.2.2.2) (nSto e9 nd) (lN (lo + 4294967296 * hg)) 0 th) := hD
              refine lv_if_eq (tgt := 293) hx hb dX5_write_271 (by decide) (fun hno => absurd hno (by decide)) (fun _ => ?_)
              refine lv_aload_n hx hb dX5_write_274 rfl (lv_at hl 0 rfl) ?_
              refine lv_bipush (v := 96) hx hb dX5_write_275 (by decide) ?_
              refine lv_aload_n hx hb dX5_write_277 rfl (lv_at hl 0 rfl) ?_
              refine va_get (D := D) (ci := 5) (v := .ref (b 1)) (fs := [.int th, .int N, .ref (b 1), .ref (b 2), .ref (b 3), .ref (b 4), .ref (b 5), .ref (b 6), .int 22, .int 95, .int ((nSto e9 nd).1), .int ((nSto e9 nd).2.2.1), .int ((nSto e9 nd).2.1), .long ((nSto e9 nd).2.2.2), .int 0, .int t.2.2.1, .int t.2.2.2.1, .int t.2.2.2.2.1, .int t.2.2.2.2.2, .ref (b 7), .long (lN (lo + 4294967296 * hg)), .int 0, .ref (b 8), .ref (b 9), .ref (b 10), .int ((ro z ob).2.2.2.1), .int ((ro z ob).2.2.2.2)]) (C := RX5) (T := TX5) (N := 27) hx hb htb inX5 hown hK hP 0 rfl rfl 2 (by decide) (htb _ kF_X5_7) (fun _ h9 => h9) rfl dX5_write_278 ?_
              refine lv_iload_n hx hb dX5_write_281 rfl (lv_at hl 1 rfl) ?_
              refine va_iald (i := nI e9) hx hb hK hP 1 0 rfl rfl (vp_in_nI (by omega) (by decide)) dX5_write_282 ?_
              refine zb_ti (y := nI (xI e9)) (by rw [nI_clamp (by omega)]) ?_
              refine lv_aload_n hx hb dX5_write_283 rfl (lv_at hl 0 rfl) ?_
              refine va_get (D := D) (ci := 5) (v := .ref (b 2)) (fs := [.int th, .int N, .ref (b 1), .ref (b 2), .ref (b 3), .ref (b 4), .ref (b 5), .ref (b 6), .int 22, .int 95, .int ((nSto e9 nd).1), .int ((nSto e9 nd).2.2.1), .int ((nSto e9 nd).2.1), .long ((nSto e9 nd).2.2.2), .int 0, .int t.2.2.1, .int t.2.2.2.1, .int t.2.2.2.2.1, .int t.2.2.2.2.2, .ref (b 7), .long (lN (lo + 4294967296 * hg)), .int 0, .ref (b 8), .ref (b 9), .ref (b 10), .int ((ro z ob).2.2.2.1), .int ((ro z ob).2.2.2.2)]) (C := RX5) (T := TX5) (N := 27) hx hb htb inX5 hown hK hP 0 rfl rfl 3 (by decide) (htb _ kF_X5_13) (fun _ h9 => h9) rfl dX5_write_284 ?_
              refine lv_iload_n hx hb dX5_write_287 rfl (lv_at hl 1 rfl) ?_
              refine va_iald (i := nI e9) hx hb hK hP 2 0 rfl rfl (vp_in_nI (by omega) (by decide)) dX5_write_288 ?_
              refine zb_ti (y := nI (xS e9)) (by rw [nI_clamp (by omega)]) ?_
              refine lv_iconst (v := 0) hx hb dX5_write_289 (by decide) ?_
              refine zb_cv (va_runV (As := [.int 96, .int (nI (xI e9)), .int (nI (xS e9)), .int 0]) (rest := []) ⟨hx, hb, hml, hown, htb⟩ (r_answer l D b cA cJ N (fSto f (pF t.1 0 (xZ e9) (sx hg) 0) e9) z ob ((pF t.1 0 (xZ e9) (sx hg) 0), 0, t.2.2.1, t.2.2.2.1, t.2.2.2.2.1, t.2.2.2.2.2) (nSto e9 nd) (lN (lo + 4294967296 * hg)) 0 th _ 96 (xI e9) (xS e9) 0 ho (by decide) (by omega) (by omega) (by decide)) (cwV 4 htb (wb_V kM_X5_131 kI_X5_answer kS_X5_answer kN_X5 kD_X5_answer) rfl rfl rfl (by decide +kernel) ⟨Nat.le_of_ble_eq_true rfl, Nat.le_of_ble_eq_true rfl⟩) (zp_VW 0 rfl rfl hP hD hK hSt hS hA hnw) rfl rfl hl.1 rfl (lv_room (Nat.le_of_ble_eq_true rfl)) dX5_write_290 ⟨Nat.le_of_ble_eq_true rfl, Nat.le_of_ble_eq_true rfl⟩) hD hS hA (fun H locs hP hD hS => ?_)
              have hP : va_P D vwCl (rw0 b cA cJ N (fSto f (pF t.1 0 (xZ e9) (sx hg) 0) e9) (ro z (kAns N ob 96 ((xI e9) + 65536 * (xS e9)) 0)) ((pF t.1 0 (xZ e9) (sx hg) 0), 0, t.2.2.1, t.2.2.2.1, t.2.2.2.2.1, t.2.2.2.2.2) (nSto e9 nd) (lN (lo + 4294967296 * hg)) 0 th) H := hP
              have hD : va_D A (rw0 b cA cJ N (fSto f (pF t.1 0 (xZ e9) (sx hg) 0) e9) (ro z (kAns N ob 96 ((xI e9) + 65536 * (xS e9)) 0)) ((pF t.1 0 (xZ e9) (sx hg) 0), 0, t.2.2.1, t.2.2.2.1, t.2.2.2.2.1, t.2.2.2.2.2) (nSto e9 nd) (lN (lo + 4294967296 * hg)) 0 th) := hD
              have hs9 : aS e9 2 = 0 := by unfold aS; rw [if_neg hc2]
              have hK9 : kWrite N f ob tr nd fi (lo / 256) hg = ((fSto f (pF t.1 0 (xZ e9) (sx hg) 0) e9), (kAns N ob 96 ((xI e9) + 65536 * (xS e9)) 0), tr_end (trW tr e9 (lo / 256) hg), (nSto e9 nd)) := by rw [hadx]; simp only [kWrite, hme, Option.elim, hs9, if_pos (show nI 0 = 0 from rfl), hlF, if_neg hc3, hV9, if_pos hc22, hH9]
              rw [hQ]
              have hw9 : (rw0 b cA cJ N (fSto f (pF t.1 0 (xZ e9) (sx hg) 0) e9) (ro z (kAns N ob 96 ((xI e9) + 65536 * (xS e9)) 0)) ((pF t.1 0 (xZ e9) (sx hg) 0), 0, t.2.2.1, t.2.2.2.1, t.2.2.2.2.1, t.2.2.2.2.2) (nSto e9 nd) (lN (lo + 4294967296 * hg)) 0 th) = r4 b cA cJ N z th (kWrite N f ob tr nd fi (lo / 256) hg) (((pF t.1 0 (xZ e9) (sx hg) 0), 0, t.2.2.1, t.2.2.2.1, t.2.2.2.2.1, t.2.2.2.2.2), (lN (lo + 4294967296 * hg)), 0) := by rw [hK9]; rfl
              have hr9 : rel2 (kWrite N f ob tr nd fi (lo / 256) hg).2.2.1 ((pF t.1 0 (xZ e9) (sx hg) 0), 0, t.2.2.1, t.2.2.2.1, t.2.2.2.2.1, t.2.2.2.2.2) := by rw [hK9]; exact rel_off h22 (Nat.le_of_eq (Nat.zero_add _)) rfl rfl (by rw [rel2_h hR]; rfl) _
              exact W.vret hx hb hr (fun t9 ht hW => ⟨rfl, (((pF t.1 0 (xZ e9) (sx hg) 0), 0, t.2.2.1, t.2.2.2.1, t.2.2.2.2.1, t.2.2.2.2.2), (lN (lo + 4294967296 * hg)), 0), hr9, by rw [ht, ← hw9]; exact hP, by rw [← hw9]; exact hD, hS.F ht⟩) hS.2.2 dX5_write_293
            · refine lv_aload_n hx hb dX5_write_266 rfl (lv_at hl 0 rfl) ?_
              refine lv_iload_n hx hb dX5_write_267 rfl (lv_at hl 1 rfl) ?_
              refine zb_cvi (va_runV (As := [.int (nI e9)]) (rest := []) ⟨hx, hb, hml, hown, htb⟩ (r_storeNo0 l D b cA cJ N f z ob ((pF t.1 0 (xZ e9) (sx hg) 0), 0, t.2.2.1, t.2.2.2.1, t.2.2.2.2.1, t.2.2.2.2.2) nd (lo + 4294967296 * hg) th _ e9 (lo / 256) hB hBH h22 ho hxa.2.2.1 hc22) (cwV 1 htb (wb_V kM_X5_168 kI_X5_store kS_X5_store kN_X5 kD_X5_store) rfl rfl rfl (by decide +kernel) ⟨Nat.le_of_ble_eq_true rfl, Nat.le_of_ble_eq_true rfl⟩) (zp_VW 0 rfl rfl hP hD hK hSt hS hA hnw) rfl rfl hl.1 rfl (lv_room (Nat.le_of_ble_eq_true rfl)) dX5_write_268 ⟨Nat.le_of_ble_eq_true rfl, Nat.le_of_ble_eq_true rfl⟩) hD hS hA (fun H locs hP hD hS => ?_)
              have hP : va_P D vwCl (rw0 b cA cJ N f (ro z (kAns N ob 128 (lo / 256) (stF nd.1 f e9 (sm (pF t.1 0 (xZ e9) (sx hg) 0) 0 (min (xZ e9) 4))))) ((pF t.1 0 (xZ e9) (sx hg) 0), 0, t.2.2.1, t.2.2.2.1, t.2.2.2.2.1, t.2.2.2.2.2) nd (lN (lo + 4294967296 * hg)) 0 th) H := hP
              have hD : va_D A (rw0 b cA cJ N f (ro z (kAns N ob 128 (lo / 256) (stF nd.1 f e9 (sm (pF t.1 0 (xZ e9) (sx hg) 0) 0 (min (xZ e9) 4))))) ((pF t.1 0 (xZ e9) (sx hg) 0), 0, t.2.2.1, t.2.2.2.1, t.2.2.2.2.1, t.2.2.2.2.2) nd (lN (lo + 4294967296 * hg)) 0 th) := hD
              refine lv_if_eq (tgt := 293) hx hb dX5_write_271 (by decide) (fun _ => ?_) (fun hno => absurd (by decide) hno)
              have hs9 : aS e9 2 = 0 := by unfold aS; rw [if_neg hc2]
              have hK9 : kWrite N f ob tr nd fi (lo / 256) hg = (f, (kAns N ob 128 (lo / 256) (stF nd.1 f e9 (sm (pF t.1 0 (xZ e9) (sx hg) 0) 0 (min (xZ e9) 4)))), tr_end (trW tr e9 (lo / 256) hg), nd) := by simp only [kWrite, hme, Option.elim, hs9, if_pos (show nI 0 = 0 from rfl), hlF, if_neg hc3, hV9, if_neg hc22]; rfl
              rw [hQ]
              have hw9 : (rw0 b cA cJ N f (ro z (kAns N ob 128 (lo / 256) (stF nd.1 f e9 (sm (pF t.1 0 (xZ e9) (sx hg) 0) 0 (min (xZ e9) 4))))) ((pF t.1 0 (xZ e9) (sx hg) 0), 0, t.2.2.1, t.2.2.2.1, t.2.2.2.2.1, t.2.2.2.2.2) nd (lN (lo + 4294967296 * hg)) 0 th) = r4 b cA cJ N z th (kWrite N f ob tr nd fi (lo / 256) hg) (((pF t.1 0 (xZ e9) (sx hg) 0), 0, t.2.2.1, t.2.2.2.1, t.2.2.2.2.1, t.2.2.2.2.2), (lN (lo + 4294967296 * hg)), 0) := by rw [hK9]; rfl
              have hr9 : rel2 (kWrite N f ob tr nd fi (lo / 256) hg).2.2.1 ((pF t.1 0 (xZ e9) (sx hg) 0), 0, t.2.2.1, t.2.2.2.1, t.2.2.2.2.1, t.2.2.2.2.2) := by rw [hK9]; exact rel_off h22 (Nat.le_of_eq (Nat.zero_add _)) rfl rfl (by rw [rel2_h hR]; rfl) _
              exact W.vret hx hb hr (fun t9 ht hW => ⟨rfl, (((pF t.1 0 (xZ e9) (sx hg) 0), 0, t.2.2.1, t.2.2.2.1, t.2.2.2.2.1, t.2.2.2.2.2), (lN (lo + 4294967296 * hg)), 0), hr9, by rw [ht, ← hw9]; exact hP, by rw [← hw9]; exact hD, hS.F ht⟩) hS.2.2 dX5_write_293
          | succ nn ih_lp =>
            intro k ls H locs hP hD hS hk_lp  hl
            have hk1_lp : k < xZ e9 := by omega
            refine lv_iload hx hb dX5_write_235 (lv_at hl 3 rfl) ?_
            refine lv_iload hx hb dX5_write_237 (lv_at hl 2 rfl) ?_
            refine lv_icmp_ge (tgt := 266) hx hb dX5_write_239 (by decide) (fun hno => absurd hno (nI_ge (a := k) (b := xZ e9) hk1_lp (by omega))) (fun _ => ?_)
            refine lv_aload_n hx hb dX5_write_242 rfl (lv_at hl 0 rfl) ?_
            refine va_get (D := D) (ci := 5) (v := .ref (b 7)) (fs := [.int th, .int N, .ref (b 1), .ref (b 2), .ref (b 3), .ref (b 4), .ref (b 5), .ref (b 6), .int 22, .int 95, .int nd.1, .int nd.2.2.1, .int nd.2.1, .long nd.2.2.2, .int 0, .int t.2.2.1, .int t.2.2.2.1, .int t.2.2.2.2.1, .int t.2.2.2.2.2, .ref (b 7), .long (lN (lo + 4294967296 * hg)), .int 0, .ref (b 8), .ref (b 9), .ref (b 10), .int ((ro z ob).2.2.2.1), .int ((ro z ob).2.2.2.2)]) (C := RX5) (T := TX5) (N := 27) hx hb htb inX5 hown hK hP 0 rfl rfl 19 (by decide) (htb _ kF_X5_28) (fun _ h9 => h9) rfl dX5_write_243 ?_
            refine lv_iload hx hb dX5_write_246 (lv_at hl 3 rfl) ?_
            refine lv_aload_n hx hb dX5_write_248 rfl (lv_at hl 0 rfl) ?_
            refine va_get (D := D) (ci := 5) (v := .long (lN (lo + 4294967296 * hg))) (fs := [.int th, .int N, .ref (b 1), .ref (b 2), .ref (b 3), .ref (b 4), .ref (b 5), .ref (b 6), .int 22, .int 95, .int nd.1, .int nd.2.2.1, .int nd.2.1, .long nd.2.2.2, .int 0, .int t.2.2.1, .int t.2.2.2.1, .int t.2.2.2.2.1, .int t.2.2.2.2.2, .ref (b 7), .long (lN (lo + 4294967296 * hg)), .int 0, .ref (b 8), .ref (b 9), .ref (b 10), .int ((ro z ob).2.2.2.1), .int ((ro z ob).2.2.2.2)]) (C := RX5) (T := TX5) (N := 27) hx hb htb inX5 hown hK hP 0 rfl rfl 20 (by decide) (htb _ kF_X5_123) (fun _ h9 => h9) rfl dX5_write_249 ?_
            refine lv_iconst (v := 4) hx hb dX5_write_252 (by decide) ?_
            refine lv_iload hx hb dX5_write_253 (lv_at hl 3 rfl) ?_
            refine lv_iadd hx hb dX5_write_255 ?_
            refine zb_ti (nI_add 4 (k)) ?_
            refine zb_ci (va_runS (As := [.long (lN (lo + 4294967296 * hg)), .int (nI (4 + (k)))]) (rest := [.int (nI (k)), .ref (b 7)]) ⟨hx, hb, hml, hown, htb⟩ (r_byteOf l D b cA cJ N f (ro z ob) ((pF t.1 0 (k) (sx hg) 0), 0, t.2.2.1, t.2.2.2.1, t.2.2.2.2.1, t.2.2.2.2.2) nd (lN (lo + 4294967296 * hg)) 0 th (lo + 4294967296 * hg) (4 + (k)) (by omega)) (va_cwS 2 htb (wb_S kM_X5_119 kZ_X5_byteOf kN_X5 kD_X5_byteOf) rfl rfl rfl (by decide +kernel) ⟨Nat.le_of_ble_eq_true rfl, Nat.le_of_ble_eq_true rfl⟩) (zp_S hP hK hSt hS hnw) rfl rfl hl.1 rfl (lv_room (Nat.le_of_ble_eq_true rfl)) dX5_write_256 ⟨Nat.le_of_ble_eq_true rfl, Nat.le_of_ble_eq_true rfl⟩) ?_
            refine zb_ti (y := nI (bN (sx hg) k)) (by rw [b4 hlo hhg (by omega)]) ?_
            refine va_iast (i := nI (k)) (x := nI (bN (sx hg) k)) hx hb hK hP hD hS 7 0 rfl rfl (vp_in_nI (by omega) (by decide)) dX5_write_259 (fun H locs hP hD hS => ?_)
            rw [nI_clamp (by omega)] at hP hD
            have hP : va_P D vwCl (rw0 b cA cJ N f (ro z ob) (upd (pF t.1 0 (k) (sx hg) 0) (k) (nI (bN (sx hg) k)), 0, t.2.2.1, t.2.2.2.1, t.2.2.2.2.1, t.2.2.2.2.2) nd (lN (lo + 4294967296 * hg)) 0 th) H := hP
            have hD : va_D A (rw0 b cA cJ N f (ro z ob) (upd (pF t.1 0 (k) (sx hg) 0) (k) (nI (bN (sx hg) k)), 0, t.2.2.1, t.2.2.2.1, t.2.2.2.2.1, t.2.2.2.2.2) nd (lN (lo + 4294967296 * hg)) 0 th) := hD
            rw [pF_u0] at hP hD
            have hP : va_P D vwCl (rw0 b cA cJ N f (ro z ob) ((pF t.1 0 (k + 1) (sx hg) 0), 0, t.2.2.1, t.2.2.2.1, t.2.2.2.2.1, t.2.2.2.2.2) nd (lN (lo + 4294967296 * hg)) 0 th) H := hP
            have hD : va_D A (rw0 b cA cJ N f (ro z ob) ((pF t.1 0 (k + 1) (sx hg) 0), 0, t.2.2.1, t.2.2.2.1, t.2.2.2.2.1, t.2.2.2.2.2) nd (lN (lo + 4294967296 * hg)) 0 th) := hD
            refine lv_iinc (k := 3) (v := nI ((k) + 1)) hx hb dX5_write_260 hl rfl (nI_1 (k)) (by decide) rfl (fun ls hl => ?_)
            have hl : lv_has ls 8 [(7, .int (nI ((k) + 1))), (0, .ref (b 0)), (3, .int (nI e9)), (6, .int (nI (xZ e9)))] := hl
            refine lv_goto (tgt := 235) hx hb dX5_write_263 (by decide) ?_
            exact ih_lp (k + 1) ls _ _ hP hD hS (by omega) (lv_sub hl [1, 2, 3, 0] rfl)
        exact lp (xZ e9 - 0) (0) ls _ _ hP hD hS (by omega) (lv_sub hl [6, 4, 1, 0] rfl)
      refine lv_aload_n hx hb dX5_write_177 rfl (lv_at hl 5 rfl) ?_
      refine lv_iload hx hb dX5_write_178 (lv_at hl 0 rfl) ?_
      refine lv_aload_n hx hb dX5_write_180 rfl (lv_at hl 5 rfl) ?_
      refine va_get (D := D) (ci := 5) (v := .ref (b 3)) (fs := [.int th, .int N, .ref (b 1), .ref (b 2), .ref (b 3), .ref (b 4), .ref (b 5), .ref (b 6), .int 22, .int 95, .int nd.1, .int nd.2.2.1, .int nd.2.1, .long nd.2.2.2, .int 0, .int t.2.2.1, .int t.2.2.2.1, .int t.2.2.2.2.1, .int t.2.2.2.2.2, .ref (b 7), .long (lN (lo + 4294967296 * hg)), .int 0, .ref (b 8), .ref (b 9), .ref (b 10), .int ((ro z ob).2.2.2.1), .int ((ro z ob).2.2.2.2)]) (C := RX5) (T := TX5) (N := 27) hx hb htb inX5 hown hK hP 0 rfl rfl 4 (by decide) (htb _ kF_X5_16) (fun _ h9 => h9) rfl dX5_write_181 ?_
      refine lv_iload_n hx hb dX5_write_184 rfl (lv_at hl 3 rfl) ?_
      refine va_iald (i := nI e9) hx hb hK hP 3 0 rfl rfl (vp_in_nI (by omega) (by decide)) dX5_write_185 ?_
      refine zb_ti (y := nI (xZ e9)) (by rw [nI_clamp (by omega)]) ?_
      refine lv_icmp_le (tgt := 194) hx hb dX5_write_186 (by decide) (fun hc23 => ?_) (fun hc23 => ?_)
      · refine lv_ldc (v := 101122067) hx hb hown (htb _ kK_X5_163) dX5_write_194 ?_
        refine lv_iconst (v := 0) hx hb dX5_write_196 (by decide) ?_
        refine zb_cv (va_runV (As := [.int 101122067, .int 0]) (rest := []) ⟨hx, hb, hml, hown, htb⟩ (r_abort0 l D b cA cJ N f z ob (t.1, 0, t.2.2.1, t.2.2.2.1, t.2.2.2.2.1, t.2.2.2.2.2) nd (lo + 4294967296 * hg) 0 th _ (lo / 256) 101122067 ho hxa.2.2.1 (by decide)) (cwV 2 htb (wb_V kM_X5_152 kI_X5_abort kS_X5_abort kN_X5 kD_X5_abort) rfl rfl rfl (by decide +kernel) ⟨Nat.le_of_ble_eq_true rfl, Nat.le_of_ble_eq_true rfl⟩) (zp_VW 0 rfl rfl hP hD hK hSt hS hA hnw) rfl rfl hl.1 rfl (lv_room (Nat.le_of_ble_eq_true rfl)) dX5_write_197 ⟨Nat.le_of_ble_eq_true rfl, Nat.le_of_ble_eq_true rfl⟩) hD hS hA (fun H locs hP hD hS => ?_)
        have hP : va_P D vwCl (rw0 b cA cJ N f (ro z (kAns N ob 128 (lo / 256) 101122067)) (t.1, 0, t.2.2.1, t.2.2.2.1, t.2.2.2.2.1, t.2.2.2.2.2) nd (lN (lo + 4294967296 * hg)) 0 th) H := hP
        have hD : va_D A (rw0 b cA cJ N f (ro z (kAns N ob 128 (lo / 256) 101122067)) (t.1, 0, t.2.2.1, t.2.2.2.1, t.2.2.2.2.1, t.2.2.2.2.2) nd (lN (lo + 4294967296 * hg)) 0 th) := hD
        have hs9 : aS e9 2 = 0 := by unfold aS; rw [if_neg hc2]
        have hlF : lF fi (nI hg) (xZ e9) = 101122067 := lF_few hL hc18 hc23
        have hK9 : kWrite N f ob tr nd fi (lo / 256) hg = (f, (kAns N ob 128 (lo / 256) 101122067), tr_end (tr_end tr), nd) := by simp only [kWrite, hme, Option.elim, hs9, if_pos (show nI 0 = 0 from rfl), hlF]; rfl
        rw [hQ]
        have hw9 : (rw0 b cA cJ N f (ro z (kAns N ob 128 (lo / 256) 101122067)) (t.1, 0, t.2.2.1, t.2.2.2.1, t.2.2.2.2.1, t.2.2.2.2.2) nd (lN (lo + 4294967296 * hg)) 0 th) = r4 b cA cJ N z th (kWrite N f ob tr nd fi (lo / 256) hg) ((t.1, 0, t.2.2.1, t.2.2.2.1, t.2.2.2.2.1, t.2.2.2.2.2), (lN (lo + 4294967296 * hg)), 0) := by rw [hK9]; rfl
        have hr9 : rel2 (kWrite N f ob tr nd fi (lo / 256) hg).2.2.1 (t.1, 0, t.2.2.1, t.2.2.2.1, t.2.2.2.2.1, t.2.2.2.2.2) := by rw [hK9]; exact rel2_off (rel2_off hR (t.2.2)) _
        exact W.vret hx hb hr (fun t9 ht hW => ⟨rfl, ((t.1, 0, t.2.2.1, t.2.2.2.1, t.2.2.2.2.1, t.2.2.2.2.2), (lN (lo + 4294967296 * hg)), 0), hr9, by rw [ht, ← hw9]; exact hP, by rw [← hw9]; exact hD, hS.F ht⟩) hS.2.2 dX5_write_200
      refine lv_ldc (v := 101122066) hx hb hown (htb _ kK_X5_162) dX5_write_189 ?_
      refine lv_goto (tgt := 196) hx hb dX5_write_191 (by decide) ?_
      refine lv_iconst (v := 0) hx hb dX5_write_196 (by decide) ?_
      refine zb_cv (va_runV (As := [.int 101122066, .int 0]) (rest := []) ⟨hx, hb, hml, hown, htb⟩ (r_abort0 l D b cA cJ N f z ob (t.1, 0, t.2.2.1, t.2.2.2.1, t.2.2.2.2.1, t.2.2.2.2.2) nd (lo + 4294967296 * hg) 0 th _ (lo / 256) 101122066 ho hxa.2.2.1 (by decide)) (cwV 2 htb (wb_V kM_X5_152 kI_X5_abort kS_X5_abort kN_X5 kD_X5_abort) rfl rfl rfl (by decide +kernel) ⟨Nat.le_of_ble_eq_true rfl, Nat.le_of_ble_eq_true rfl⟩) (zp_VW 0 rfl rfl hP hD hK hSt hS hA hnw) rfl rfl hl.1 rfl (lv_room (Nat.le_of_ble_eq_true rfl)) dX5_write_197 ⟨Nat.le_of_ble_eq_true rfl, Nat.le_of_ble_eq_true rfl⟩) hD hS hA (fun H locs hP hD hS => ?_)
      have hP : va_P D vwCl (rw0 b cA cJ N f (ro z (kAns N ob 128 (lo / 256) 101122066)) (t.1, 0, t.2.2.1, t.2.2.2.1, t.2.2.2.2.1, t.2.2.2.2.2) nd (lN (lo + 4294967296 * hg)) 0 th) H := hP
      have hD : va_D A (rw0 b cA cJ N f (ro z (kAns N ob 128 (lo / 256) 101122066)) (t.1, 0, t.2.2.1, t.2.2.2.1, t.2.2.2.2.1, t.2.2.2.2.2) nd (lN (lo + 4294967296 * hg)) 0 th) := hD
      have hs9 : aS e9 2 = 0 := by unfold aS; rw [if_neg hc2]
      have hlF : lF fi (nI hg) (xZ e9) = 101122066 := lF_many hL hc23
      have hK9 : kWrite N f ob tr nd fi (lo / 256) hg = (f, (kAns N ob 128 (lo / 256) 101122066), tr_end (tr_end tr), nd) := by simp only [kWrite, hme, Option.elim, hs9, if_pos (show nI 0 = 0 from rfl), hlF]; rfl
      rw [hQ]
      have hw9 : (rw0 b cA cJ N f (ro z (kAns N ob 128 (lo / 256) 101122066)) (t.1, 0, t.2.2.1, t.2.2.2.1, t.2.2.2.2.1, t.2.2.2.2.2) nd (lN (lo + 4294967296 * hg)) 0 th) = r4 b cA cJ N z th (kWrite N f ob tr nd fi (lo / 256) hg) ((t.1, 0, t.2.2.1, t.2.2.2.1, t.2.2.2.2.1, t.2.2.2.2.2), (lN (lo + 4294967296 * hg)), 0) := by rw [hK9]; rfl
      have hr9 : rel2 (kWrite N f ob tr nd fi (lo / 256) hg).2.2.1 (t.1, 0, t.2.2.1, t.2.2.2.1, t.2.2.2.2.1, t.2.2.2.2.2) := by rw [hK9]; exact rel2_off (rel2_off hR (t.2.2)) _
      exact W.vret hx hb hr (fun t9 ht hW => ⟨rfl, ((t.1, 0, t.2.2.1, t.2.2.2.1, t.2.2.2.2.1, t.2.2.2.2.2), (lN (lo + 4294967296 * hg)), 0), hr9, by rw [ht, ← hw9]; exact hP, by rw [← hw9]; exact hD, hS.F ht⟩) hS.2.2 dX5_write_200
    refine lv_aload_n hx hb dX5_write_66 rfl (lv_at hl 2 rfl) ?_
    refine lv_ldc (v := 100728834) hx hb hown (htb _ kK_X5_161) dX5_write_67 ?_
    refine lv_iconst (v := 0) hx hb dX5_write_69 (by decide) ?_
    refine zb_cv (va_runV (As := [.int 100728834, .int 0]) (rest := []) ⟨hx, hb, hml, hown, htb⟩ (r_abort0 l D b cA cJ N f z ob (t.1, 0, t.2.2.1, t.2.2.2.1, t.2.2.2.2.1, t.2.2.2.2.2) nd (lo + 4294967296 * hg) 0 th _ (lo / 256) 100728834 ho hxa.2.2.1 (by decide)) (cwV 2 htb (wb_V kM_X5_152 kI_X5_abort kS_X5_abort kN_X5 kD_X5_abort) rfl rfl rfl (by decide +kernel) ⟨Nat.le_of_ble_eq_true rfl, Nat.le_of_ble_eq_true rfl⟩) (zp_VW 0 rfl rfl hP hD hK hSt hS hA hnw) rfl rfl hl.1 rfl (lv_room (Nat.le_of_ble_eq_true rfl)) dX5_write_70 ⟨Nat.le_of_ble_eq_true rfl, Nat.le_of_ble_eq_true rfl⟩) hD hS hA (fun H locs hP hD hS => ?_)
    have hP : va_P D vwCl (rw0 b cA cJ N f (ro z (kAns N ob 128 (lo / 256) 100728834)) (t.1, 0, t.2.2.1, t.2.2.2.1, t.2.2.2.2.1, t.2.2.2.2.2) nd (lN (lo + 4294967296 * hg)) 0 th) H := hP
    have hD : va_D A (rw0 b cA cJ N f (ro z (kAns N ob 128 (lo / 256) 100728834)) (t.1, 0, t.2.2.1, t.2.2.2.1, t.2.2.2.2.1, t.2.2.2.2.2) nd (lN (lo + 4294967296 * hg)) 0 th) := hD
    have hs9 : aS e9 2 = 100728834 := by unfold aS; rw [if_pos hc2]; rfl
    have hK9 : kWrite N f ob tr nd fi (lo / 256) hg = (f, (kAns N ob 128 (lo / 256) 100728834), tr_end (tr_end tr), nd) := by simp only [kWrite, hme, Option.elim, hs9]; rfl
    rw [hQ]
    have hw9 : (rw0 b cA cJ N f (ro z (kAns N ob 128 (lo / 256) 100728834)) (t.1, 0, t.2.2.1, t.2.2.2.1, t.2.2.2.2.1, t.2.2.2.2.2) nd (lN (lo + 4294967296 * hg)) 0 th) = r4 b cA cJ N z th (kWrite N f ob tr nd fi (lo / 256) hg) ((t.1, 0, t.2.2.1, t.2.2.2.1, t.2.2.2.2.1, t.2.2.2.2.2), (lN (lo + 4294967296 * hg)), 0) := by rw [hK9]; rfl
    have hr9 : rel2 (kWrite N f ob tr nd fi (lo / 256) hg).2.2.1 (t.1, 0, t.2.2.1, t.2.2.2.1, t.2.2.2.2.1, t.2.2.2.2.2) := by rw [hK9]; exact rel2_off (rel2_off hR (t.2.2)) _
    exact W.vret hx hb hr (fun t9 ht hW => ⟨rfl, ((t.1, 0, t.2.2.1, t.2.2.2.1, t.2.2.2.2.1, t.2.2.2.2.2), (lN (lo + 4294967296 * hg)), 0), hr9, by rw [ht, ← hw9]; exact hP, by rw [← hw9]; exact hD, hS.F ht⟩) hS.2.2 dX5_write_73
