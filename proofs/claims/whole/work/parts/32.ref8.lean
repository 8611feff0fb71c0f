def goodF (fid ln : Int32) : Prop := ¬ fid < 0 ∧ ¬ 2047 < fid ∧ ¬ ln < 0 ∧ ln ≤ 8
set_option maxHeartbeats 4000000 in
set_option maxRecDepth 100000 in
theorem r_frameNo (l : Launch) (D : va_G) (b : Nat → Nat) (cA cJ : ClassId) (N : Int32) (f : Nat → Int32) (z : Int32) (ob : OB) (t : RT) (nd : ND) (q : Int64) (sg th : Int32) (sz : Nat) (fid ln lo hg : Int32) (hbad : fid < 0 ∨ 2047 < fid ∨ ln < 0 ∨ 8 < ln) : Met l yX5_frame (wX5_frame :: wb) ({ frames := 6, cells := 0, slots := 0, locals := 148 } : Room) (va_Pc [.ref (b 0), .int fid, .int ln, .int lo, .int hg] (zPre D [(cA, .int), (cJ, .long)] (rw0 b cA cJ N f (ro z ob) t nd q sg th) sz)) (zb_Vi 0 D vwCl (rw0 b cA cJ N f (ro z ob) t nd q sg 1) (va_A (rw0 b cA cJ N f (ro z ob) t nd q sg th) sz)) 0 0 (va_A (rw0 b cA cJ N f (ro z ob) t nd q sg th) sz) := by
  refine Met.ofW (cc := cX5_frame) (maxL := 7) (ret := (some .int)) (by decide) rfl ?_
  intro p ev s m args below meth c s₁ B hml hv
  obtain ⟨rfl, hsz, hP, hK, hD0, hSt, hnw⟩ := hv
  have hx := B.exec
  have hb := B.bytes
  have hr := B.returns
  have hts := atoms_spec (ws := wX5_frame :: wb) B.pre
  have htb : ∀ w ∈ wb, w.before ([.ref (b 0), .int fid, .int ln, .int lo, .int hg]).toArray s = true := fun w h => hts w (List.mem_cons_of_mem _ h)
  have hown : s.vm.findClass RX5 = some m.cls := findClass_of_methodNamed B.named
  have hlocks := B.notSynchronized
  subst hsz
  have hD := hD0.self (sz := s.heap.size)
  clear hD0
  generalize hAe : va_A (rw0 b cA cJ N f (ro z ob) t nd q sg th) s.heap.size = A at hD hSt ⊢
  have hA : ∀ q : Nat, s.heap.size ≤ q → A q := fun q h => by rw [← hAe]; exact Or.inr h
  have hS : va_S A s.heap s.heap [] := va_S.rf
  obtain ⟨⟨tt, ff, hZT, hTT, hZF, hTF⟩, hXS⟩ := id hSt
  have hl := lv_entry ([.ref (b 0), .int fid, .int ln, .int lo, .int hg]) (n := 7) (Nat.le_of_ble_eq_true rfl)
  rw [lg_entry_eq]
  generalize (lg_sl ([.ref (b 0), .int fid, .int ln, .int lo, .int hg]) ++ List.replicate (7 - (lg_sl ([.ref (b 0), .int fid, .int ln, .int lo, .int hg])).length) Slot.unset).toArray = ls at hl ⊢
  have hl : lv_has ls 7 [(0, .ref (b 0)), (1, .int fid), (2, .int ln), (3, .int lo), (4, .int hg)] := hl
  refine zb_abs (fun Q hQ => ?_)
  refine lv_aload_n hx hb dX5_frame_0 rfl (lv_at hl 0 rfl) ?_
  refine lv_iload_n hx hb dX5_frame_1 rfl (lv_at hl 1 rfl) ?_
  refine lv_if_lt (tgt := 22) hx hb dX5_frame_2 (by decide) (fun hc1 => ?_) (fun hc1 => ?_)
  · refine lv_iconst (v := 1) hx hb dX5_frame_22 (by decide) ?_
    refine lv_goto (tgt := 27) hx hb dX5_frame_23 (by decide) ?_
    refine va_put (D := D) (ci := 5) (v := .int 1) (fs := [.int th, .int N, .ref (b 1), .ref (b 2), .ref (b 3), .ref (b 4), .ref (b 5), .ref (b 6), .int 22, .int 95, .int nd.1, .int nd.2.2.1, .int nd.2.1, .long nd.2.2.2, .int t.2.1, .int t.2.2.1, .int t.2.2.2.1, .int t.2.2.2.2.1, .int t.2.2.2.2.2, .ref (b 7), .long q, .int sg, .ref (b 8), .ref (b 9), .ref (b 10), .int ((ro z ob).2.2.2.1), .int ((ro z ob).2.2.2.2)]) (ty := .int) (C := RX5) (T := TX5) (N := 27) hx hb htb inX5 tyX5 tyX5_ok nmX5 hown hK hP hD hS 0 rfl rfl 0 (by decide) (htb _ kF_X5_67) (fun _ h9 => h9) rfl (by decide +kernel) rfl rfl (Nat.le_of_ble_eq_true rfl) dX5_frame_27 (fun H locs hP hD hS => ?_)
    have hP : va_P D vwCl (rw0 b cA cJ N f (ro z ob) t nd q sg 1) H := hP
    have hD : va_D A (rw0 b cA cJ N f (ro z ob) t nd q sg 1) := hD
    refine lv_aload_n hx hb dX5_frame_30 rfl (lv_at hl 0 rfl) ?_
    refine va_get (D := D) (ci := 5) (v := .int 1) (fs := [.int 1, .int N, .ref (b 1), .ref (b 2), .ref (b 3), .ref (b 4), .ref (b 5), .ref (b 6), .int 22, .int 95, .int nd.1, .int nd.2.2.1, .int nd.2.1, .long nd.2.2.2, .int t.2.1, .int t.2.2.1, .int t.2.2.2.1, .int t.2.2.2.2.1, .int t.2.2.2.2.2, .ref (b 7), .long q, .int sg, .ref (b 8), .ref (b 9), .ref (b 10), .int ((ro z ob).2.2.2.1), .int ((ro z ob).2.2.2.2)]) (C := RX5) (T := TX5) (N := 27) hx hb htb inX5 hown hK hP 0 rfl rfl 0 (by decide) (htb _ kF_X5_67) (fun _ h9 => h9) rfl dX5_frame_31 ?_
    refine lv_if_le (tgt := 39) hx hb dX5_frame_34 (by decide) (fun hno => absurd hno (by decide)) (fun _ => ?_)
    refine lv_iconst (v := 0) hx hb dX5_frame_37 (by decide) ?_
    rw [hQ]
    have hw9 : (rw0 b cA cJ N f (ro z ob) t nd q sg 1) = (rw0 b cA cJ N f (ro z ob) t nd q sg 1) := rfl
    exact W.iret (v := 0) hx hb hr (fun t9 ht hW => ⟨congrArg (fun z => Outcome.returned (some (Value.int z))) (rfl), by rw [ht, ← hw9]; exact hP, by rw [← hw9]; exact hD, hS.F ht⟩) hS.2.2 dX5_frame_38
  refine lv_iload_n hx hb dX5_frame_5 rfl (lv_at hl 1 rfl) ?_
  refine lv_sipush (v := 2047) hx hb dX5_frame_6 (by decide) ?_
  refine lv_icmp_gt (tgt := 22) hx hb dX5_frame_9 (by decide) (fun hc2 => ?_) (fun hc2 => ?_)
  · refine lv_iconst (v := 1) hx hb dX5_frame_22 (by decide) ?_
    refine lv_goto (tgt := 27) hx hb dX5_frame_23 (by decide) ?_
    refine va_put (D := D) (ci := 5) (v := .int 1) (fs := [.int th, .int N, .ref (b 1), .ref (b 2), .ref (b 3), .ref (b 4), .ref (b 5), .ref (b 6), .int 22, .int 95, .int nd.1, .int nd.2.2.1, .int nd.2.1, .long nd.2.2.2, .int t.2.1, .int t.2.2.1, .int t.2.2.2.1, .int t.2.2.2.2.1, .int t.2.2.2.2.2, .ref (b 7), .long q, .int sg, .ref (b 8), .ref (b 9), .ref (b 10), .int ((ro z ob).2.2.2.1), .int ((ro z ob).2.2.2.2)]) (ty := .int) (C := RX5) (T := TX5) (N := 27) hx hb htb inX5 tyX5 tyX5_ok nmX5 hown hK hP hD hS 0 rfl rfl 0 (by decide) (htb _ kF_X5_67) (fun _ h9 => h9) rfl (by decide +kernel) rfl rfl (Nat.le_of_ble_eq_true rfl) dX5_frame_27 (fun H locs hP hD hS => ?_)
    have hP : va_P D vwCl (rw0 b cA cJ N f (ro z ob) t nd q sg 1) H := hP
    have hD : va_D A (rw0 b cA cJ N f (ro z ob) t nd q sg 1) := hD
    refine lv_aload_n hx hb dX5_frame_30 rfl (lv_at hl 0 rfl) ?_
    refine va_get (D := D) (ci := 5) (v := .int 1) (fs := [.int 1, .int N, .ref (b 1), .ref (b 2), .ref (b 3), .ref (b 4), .ref (b 5), .ref (b 6), .int 22, .int 95, .int nd.1, .int nd.2.2.1, .int nd.2.1, .long nd.2.2.2, .int t.2.1, .int t.2.2.1, .int t.2.2.2.1, .int t.2.2.2.2.1, .int t.2.2.2.2.2, .ref (b 7), .long q, .int sg, .ref (b 8), .ref (b 9), .ref (b 10), .int ((ro z ob).2.2.2.1), .int ((ro z ob).2.2.2.2)]) (C := RX5) (T := TX5) (N := 27) hx hb htb inX5 hown hK hP 0 rfl rfl 0 (by decide) (htb _ kF_X5_67) (fun _ h9 => h9) rfl dX5_frame_31 ?_
    refine lv_if_le (tgt := 39) hx hb dX5_frame_34 (by decide) (fun hno => absurd hno (by decide)) (fun _ => ?_)
    refine lv_iconst (v := 0) hx hb dX5_frame_37 (by decide) ?_
    rw [hQ]
    have hw9 : (rw0 b cA cJ N f (ro z ob) t nd q sg 1) = (rw0 b cA cJ N f (ro z ob) t nd q sg 1) := rfl
    exact W.iret (v := 0) hx hb hr (fun t9 ht hW => ⟨congrArg (fun z => Outcome.returned (some (Value.int z))) (rfl), by rw [ht, ← hw9]; exact hP, by rw [← hw9]; exact hD, hS.F ht⟩) hS.2.2 dX5_frame_38
  refine lv_iload_n hx hb dX5_frame_12 rfl (lv_at hl 2 rfl) ?_
  refine lv_if_lt (tgt := 22) hx hb dX5_frame_13 (by decide) (fun hc3 => ?_) (fun hc3 => ?_)
  · refine lv_iconst (v := 1) hx hb dX5_frame_22 (by decide) ?_
    refine lv_goto (tgt := 27) hx hb dX5_frame_23 (by decide) ?_
    refine va_put (D := D) (ci := 5) (v := .int 1) (fs := [.int th, .int N, .ref (b 1), .ref (b 2), .ref (b 3), .ref (b 4), .ref (b 5), .ref (b 6), .int 22, .int 95, .int nd.1, .int nd.2.2.1, .int nd.2.1, .long nd.2.2.2, .int t.2.1, .int t.2.2.1, .int t.2.2.2.1, .int t.2.2.2.2.1, .int t.2.2.2.2.2, .ref (b 7), .long q, .int sg, .ref (b 8), .ref (b 9), .ref (b 10), .int ((ro z ob).2.2.2.1), .int ((ro z ob).2.2.2.2)]) (ty := .int) (C := RX5) (T := TX5) (N := 27) hx hb htb inX5 tyX5 tyX5_ok nmX5 hown hK hP hD hS 0 rfl rfl 0 (by decide) (htb _ kF_X5_67) (fun _ h9 => h9) rfl (by decide +kernel) rfl rfl (Nat.le_of_ble_eq_true rfl) dX5_frame_27 (fun H locs hP hD hS => ?_)
    have hP : va_P D vwCl (rw0 b cA cJ N f (ro z ob) t nd q sg 1) H := hP
    have hD : va_D A (rw0 b cA cJ N f (ro z ob) t nd q sg 1) := hD
    refine lv_aload_n hx hb dX5_frame_30 rfl (lv_at hl 0 rfl) ?_
    refine va_get (D := D) (ci := 5) (v := .int 1) (fs := [.int 1, .int N, .ref (b 1), .ref (b 2), .ref (b 3), .ref (b 4), .ref (b 5), .ref (b 6), .int 22, .int 95, .int nd.1, .int nd.2.2.1, .int nd.2.1, .long nd.2.2.2, .int t.2.1, .int t.2.2.1, .int t.2.2.2.1, .int t.2.2.2.2.1, .int t.2.2.2.2.2, .ref (b 7), .long q, .int sg, .ref (b 8), .ref (b 9), .ref (b 10), .int ((ro z ob).2.2.2.1), .int ((ro z ob).2.2.2.2)]) (C := RX5) (T := TX5) (N := 27) hx hb htb inX5 hown hK hP 0 rfl rfl 0 (by decide) (htb _ kF_X5_67) (fun _ h9 => h9) rfl dX5_frame_31 ?_
    refine lv_if_le (tgt := 39) hx hb dX5_frame_34 (by decide) (fun hno => absurd hno (by decide)) (fun _ => ?_)
    refine lv_iconst (v := 0) hx hb dX5_frame_37 (by decide) ?_
    rw [hQ]
    have hw9 : (rw0 b cA cJ N f (ro z ob) t nd q sg 1) = (rw0 b cA cJ N f (ro z ob) t nd q sg 1) := rfl
    exact W.iret (v := 0) hx hb hr (fun t9 ht hW => ⟨congrArg (fun z => Outcome.returned (some (Value.int z))) (rfl), by rw [ht, ← hw9]; exact hP, by rw [← hw9]; exact hD, hS.F ht⟩) hS.2.2 dX5_frame_38
  refine lv_iload_n hx hb dX5_frame_16 rfl (lv_at hl 2 rfl) ?_
  refine lv_bipush (v := 8) hx hb dX5_frame_17 (by decide) ?_
  refine lv_icmp_le (tgt := 26) hx hb dX5_frame_19 (by decide) (fun hc4 => ?_) (fun hc4 => ?_)
  · exact absurd hbad (by rintro (h | h | h | h); exact hc1 h; exact hc2 h; exact hc3 h; exact Int32.not_lt.mpr hc4 h)
  refine lv_iconst (v := 1) hx hb dX5_frame_22 (by decide) ?_
  refine lv_goto (tgt := 27) hx hb dX5_frame_23 (by decide) ?_
  refine va_put (D := D) (ci := 5) (v := .int 1) (fs := [.int th, .int N, .ref (b 1), .ref (b 2), .ref (b 3), .ref (b 4), .ref (b 5), .ref (b 6), .int 22, .int 95, .int nd.1, .int nd.2.2.1, .int nd.2.1, .long nd.2.2.2, .int t.2.1, .int t.2.2.1, .int t.2.2.2.1, .int t.2.2.2.2.1, .int t.2.2.2.2.2, .ref (b 7), .long q, .int sg, .ref (b 8), .ref (b 9), .ref (b 10), .int ((ro z ob).2.2.2.1), .int ((ro z ob).2.2.2.2)]) (ty := .int) (C := RX5) (T := TX5) (N := 27) hx hb htb inX5 tyX5 tyX5_ok nmX5 hown hK hP hD hS 0 rfl rfl 0 (by decide) (htb _ kF_X5_67) (fun _ h9 => h9) rfl (by decide +kernel) rfl rfl (Nat.le_of_ble_eq_true rfl) dX5_frame_27 (fun H locs hP hD hS => ?_)
  have hP : va_P D vwCl (rw0 b cA cJ N f (ro z ob) t nd q sg 1) H := hP
  have hD : va_D A (rw0 b cA cJ N f (ro z ob) t nd q sg 1) := hD
  refine lv_aload_n hx hb dX5_frame_30 rfl (lv_at hl 0 rfl) ?_
  refine va_get (D := D) (ci := 5) (v := .int 1) (fs := [.int 1, .int N, .ref (b 1), .ref (b 2), .ref (b 3), .ref (b 4), .ref (b 5), .ref (b 6), .int 22, .int 95, .int nd.1, .int nd.2.2.1, .int nd.2.1, .long nd.2.2.2, .int t.2.1, .int t.2.2.1, .int t.2.2.2.1, .int t.2.2.2.2.1, .int t.2.2.2.2.2, .ref (b 7), .long q, .int sg, .ref (b 8), .ref (b 9), .ref (b 10), .int ((ro z ob).2.2.2.1), .int ((ro z ob).2.2.2.2)]) (C := RX5) (T := TX5) (N := 27) hx hb htb inX5 hown hK hP 0 rfl rfl 0 (by decide) (htb _ kF_X5_67) (fun _ h9 => h9) rfl dX5_frame_31 ?_
  refine lv_if_le (tgt := 39) hx hb dX5_frame_34 (by decide) (fun hno => absurd hno (by decide)) (fun _ => ?_)
  refine lv_iconst (v := 0) hx hb dX5_frame_37 (by decide) ?_
  rw [hQ]
  have hw9 : (rw0 b cA cJ N f (ro z ob) t nd q sg 1) = (rw0 b cA cJ N f (ro z ob) t nd q sg 1) := rfl
  exact W.iret (v := 0) hx hb hr (fun t9 ht hW => ⟨congrArg (fun z => Outcome.returned (some (Value.int z))) (rfl), by rw [ht, ← hw9]; exact hP, by rw [← hw9]; exact hD, hS.F ht⟩) hS.2.2 dX5_frame_38
set_option maxHeartbeats 4000000 in
set_option maxRecDepth 100000 in
theorem r_tick (l : Launch) (D : va_G) (b : Nat → Nat) (cA cJ : ClassId) (N : Int32) (f : Nat → Int32) (z : Int32) (ob : OB) (t : RT) (nd : ND) (x : Nat) (sg th : Int32) (sz : Nat) (tr : TR) (e d ad sv : Nat) (hB : isB f) (ho : obK ob) (hN : trN tr e d ad) (hrel : rel tr t e d ad) (hst : nd.1 = nI sv) (hsv : sv < 128) (htc0 : tr.2.1 = 0 ∨ ∃ tk, tk < 8 ∧ tr.2.2.2.2.2.2.2 = nI tk) : Met l yX5_tick (wX5_tick :: wb) ({ frames := 3, cells := 0, slots := 0, locals := 72 } : Room) (va_Pc [.ref (b 0)] (zPre D [(cA, .int), (cJ, .long)] (rw0 b cA cJ N f (ro z ob) t nd (lN x) sg th) sz)) (zb_E (some (.int ((kTick N f ob tr nd sv ad).2.1.2.2 - ob.2.2))) D vwCl (r4 b cA cJ N ob.2.2 0 (kTick N f ob tr nd sv ad)) (fun y => rel2 (kTick N f ob tr nd sv ad).2.2.1 y.1) (va_A (rw0 b cA cJ N f (ro z ob) t nd (lN x) sg th) sz)) 0 0 (va_A (rw0 b cA cJ N f (ro z ob) t nd (lN x) sg th) sz) := by
  refine Met.ofW (cc := cX5_tick) (maxL := 2) (ret := (some .int)) (by decide) rfl ?_
  intro p ev s m args below meth c s₁ B hml hv
  obtain ⟨rfl, hsz, hP, hK, hD0, hSt, hnw⟩ := hv
  have hx := B.exec
  have hb := B.bytes
  have hr := B.returns
  have hts := atoms_spec (ws := wX5_tick :: wb) B.pre
  have htb : ∀ w ∈ wb, w.before ([.ref (b 0)]).toArray s = true := fun w h => hts w (List.mem_cons_of_mem _ h)
  have hown : s.vm.findClass RX5 = some m.cls := findClass_of_methodNamed B.named
  have hlocks := B.notSynchronized
  subst hsz
  have hD := hD0.self (sz := s.heap.size)
  clear hD0
  generalize hAe : va_A (rw0 b cA cJ N f (ro z ob) t nd (lN x) sg th) s.heap.size = A at hD hSt ⊢
  have hA : ∀ q : Nat, s.heap.size ≤ q → A q := fun q h => by rw [← hAe]; exact Or.inr h
  have hS : va_S A s.heap s.heap [] := va_S.rf
  obtain ⟨⟨tt, ff, hZT, hTT, hZF, hTF⟩, hXS⟩ := id hSt
  have hl := lv_entry ([.ref (b 0)]) (n := 2) (Nat.le_of_ble_eq_true rfl)
  rw [lg_entry_eq]
  generalize (lg_sl ([.ref (b 0)]) ++ List.replicate (2 - (lg_sl ([.ref (b 0)])).length) Slot.unset).toArray = ls at hl ⊢
  have hl : lv_has ls 2 [(0, .ref (b 0))] := hl
  refine zb_abs (fun Q hQ => ?_)
  obtain ⟨kp, hkp32, hkp⟩ := id ho
  have hrel0 := hrel
  obtain ⟨hrh, ⟨hg0, ht0, hz0⟩ | ⟨hg1, hw, hen, hadd, ⟨u, hu2, hdu, htu⟩, hdn, htk⟩⟩ := hrel
  all_goals obtain ⟨he, hd, hN1, hN2, hN3, had⟩ := id hN
  all_goals have hft := x_fit e he
  · refine lv_aload_n hx hb dX5_tick_0 rfl (lv_at hl 0 rfl) ?_
    refine lv_iconst (v := 0) hx hb dX5_tick_1 (by decide) ?_
    refine va_put (D := D) (ci := 5) (v := .int 0) (fs := [.int th, .int N, .ref (b 1), .ref (b 2), .ref (b 3), .ref (b 4), .ref (b 5), .ref (b 6), .int 22, .int 95, .int nd.1, .int nd.2.2.1, .int nd.2.1, .long nd.2.2.2, .int t.2.1, .int t.2.2.1, .int t.2.2.2.1, .int t.2.2.2.2.1, .int t.2.2.2.2.2, .ref (b 7), .long (lN x), .int sg, .ref (b 8), .ref (b 9), .ref (b 10), .int ((ro z ob).2.2.2.1), .int ((ro z ob).2.2.2.2)]) (ty := .int) (C := RX5) (T := TX5) (N := 27) hx hb htb inX5 tyX5 tyX5_ok nmX5 hown hK hP hD hS 0 rfl rfl 0 (by decide) (htb _ kF_X5_67) (fun _ h9 => h9) rfl (by decide +kernel) rfl rfl (Nat.le_of_ble_eq_true rfl) dX5_tick_2 (fun H locs hP hD hS => ?_)
    have hP : va_P D vwCl (rw0 b cA cJ N f (ro z ob) t nd (lN x) sg 0) H := hP
    have hD : va_D A (rw0 b cA cJ N f (ro z ob) t nd (lN x) sg 0) := hD
    refine lv_aload_n hx hb dX5_tick_5 rfl (lv_at hl 0 rfl) ?_
    refine lv_iconst (v := 0) hx hb dX5_tick_6 (by decide) ?_
    refine va_put (D := D) (ci := 5) (v := .int 0) (fs := [.int 0, .int N, .ref (b 1), .ref (b 2), .ref (b 3), .ref (b 4), .ref (b 5), .ref (b 6), .int 22, .int 95, .int nd.1, .int nd.2.2.1, .int nd.2.1, .long nd.2.2.2, .int t.2.1, .int t.2.2.1, .int t.2.2.2.1, .int t.2.2.2.2.1, .int t.2.2.2.2.2, .ref (b 7), .long (lN x), .int sg, .ref (b 8), .ref (b 9), .ref (b 10), .int ((ro z ob).2.2.2.1), .int ((ro z ob).2.2.2.2)]) (ty := .int) (C := RX5) (T := TX5) (N := 27) hx hb htb inX5 tyX5 tyX5_ok nmX5 hown hK hP hD hS 0 rfl rfl 26 (by decide) (htb _ kF_X5_72) (fun _ h9 => h9) rfl (by decide +kernel) rfl rfl (Nat.le_of_ble_eq_true rfl) dX5_tick_7 (fun H locs hP hD hS => ?_)
    have hP : va_P D vwCl (rw0 b cA cJ N f ((ro z ob).1, (ro z ob).2.1, (ro z ob).2.2.1, (ro z ob).2.2.2.1, 0) t nd (lN x) sg 0) H := hP
    have hD : va_D A (rw0 b cA cJ N f ((ro z ob).1, (ro z ob).2.1, (ro z ob).2.2.1, (ro z ob).2.2.2.1, 0) t nd (lN x) sg 0) := hD
    rw [ro_0] at hP hD
    have hP : va_P D vwCl (rw0 b cA cJ N f (ro ob.2.2 ob) t nd (lN x) sg 0) H := hP
    have hD : va_D A (rw0 b cA cJ N f (ro ob.2.2 ob) t nd (lN x) sg 0) := hD
    refine lv_aload_n hx hb dX5_tick_10 rfl (lv_at hl 0 rfl) ?_
    refine lv_iconst (v := 2) hx hb dX5_tick_11 (by decide) ?_
    refine zb_ci (va_runV (As := [.int 2]) (rest := []) ⟨hx, hb, hml, hown, htb⟩ (r_number l D b cA cJ N f (ro ob.2.2 ob) t nd (lN x) sg 0 2 hB (by omega)) (cwV 1 htb (wb_V kM_X5_97 kI_X5_number kS_X5_number kN_X5 kD_X5_number) rfl rfl rfl (by decide +kernel) ⟨Nat.le_of_ble_eq_true rfl, Nat.le_of_ble_eq_true rfl⟩) (zp_V 0 rfl rfl hP hK hSt hS hnw) rfl rfl hl.1 rfl (lv_room (Nat.le_of_ble_eq_true rfl)) dX5_tick_12 ⟨Nat.le_of_ble_eq_true rfl, Nat.le_of_ble_eq_true rfl⟩) ?_
    refine zb_ti (y := nI (kLife f)) (rfl) ?_
    refine lv_istore_n hx hb dX5_tick_15 rfl hl (by decide) rfl (fun ls hl => ?_)
    have hl : lv_has ls 2 [(1, .int (nI (kLife f))), (0, .ref (b 0))] := hl
    refine lv_iload_n hx hb dX5_tick_16 rfl (lv_at hl 0 rfl) ?_
    refine lv_if_eq (tgt := 61) hx hb dX5_tick_17 (by decide) (fun hc1 => ?_) (fun hc1 => ?_)
    · have hkb : kBeat N f ob nd sv = ob := by simp only [kBeat, if_pos hc1]
      have hnb : nBeat f nd = nd := by simp only [nBeat, if_pos hc1]
      have hP : va_P D vwCl (rw0 b cA cJ N f (ro ob.2.2 (kBeat N f ob nd sv)) t (nBeat f nd) (lN x) sg 0) H := by rw [hkb, hnb]; exact hP
      have hD : va_D A (rw0 b cA cJ N f (ro ob.2.2 (kBeat N f ob nd sv)) t (nBeat f nd) (lN x) sg 0) := by rw [hkb, hnb]; exact hD
      refine lv_aload_n hx hb dX5_tick_61 rfl (lv_at hl 1 rfl) ?_
      refine va_get (D := D) (ci := 5) (v := .int t.2.1) (fs := [.int 0, .int N, .ref (b 1), .ref (b 2), .ref (b 3), .ref (b 4), .ref (b 5), .ref (b 6), .int 22, .int 95, .int ((nBeat f nd).1), .int ((nBeat f nd).2.2.1), .int ((nBeat f nd).2.1), .long ((nBeat f nd).2.2.2), .int t.2.1, .int t.2.2.1, .int t.2.2.2.1, .int t.2.2.2.2.1, .int t.2.2.2.2.2, .ref (b 7), .long (lN x), .int sg, .ref (b 8), .ref (b 9), .ref (b 10), .int ((ro ob.2.2 (kBeat N f ob nd sv)).2.2.2.1), .int ((ro ob.2.2 (kBeat N f ob nd sv)).2.2.2.2)]) (C := RX5) (T := TX5) (N := 27) hx hb htb inX5 hown hK hP 0 rfl rfl 14 (by decide) (htb _ kF_X5_85) (fun _ h9 => h9) rfl dX5_tick_62 ?_
      refine lv_if_eq (tgt := 94) hx hb dX5_tick_65 (by decide) (fun _ => ?_) (fun hno => absurd ht0 hno)
      refine lv_aload_n hx hb dX5_tick_94 rfl (lv_at hl 1 rfl) ?_
      refine va_get (D := D) (ci := 5) (v := .int ((ro ob.2.2 (kBeat N f ob nd sv)).2.2.2.2)) (fs := [.int 0, .int N, .ref (b 1), .ref (b 2), .ref (b 3), .ref (b 4), .ref (b 5), .ref (b 6), .int 22, .int 95, .int ((nBeat f nd).1), .int ((nBeat f nd).2.2.1), .int ((nBeat f nd).2.1), .long ((nBeat f nd).2.2.2), .int t.2.1, .int t.2.2.1, .int t.2.2.2.1, .int t.2.2.2.2.1, .int t.2.2.2.2.2, .ref (b 7), .long (lN x), .int sg, .ref (b 8), .ref (b 9), .ref (b 10), .int ((ro ob.2.2 (kBeat N f ob nd sv)).2.2.2.1), .int ((ro ob.2.2 (kBeat N f ob nd sv)).2.2.2.2)]) (C := RX5) (T := TX5) (N := 27) hx hb htb inX5 hown hK hP 0 rfl rfl 26 (by decide) (htb _ kF_X5_72) (fun _ h9 => h9) rfl dX5_tick_95 ?_
      have hK9 : kTick N f ob tr nd sv ad = (f, (kBeat N f ob nd sv), tr, (nBeat f nd)) := by simp only [kTick, if_pos hg0]
      rw [hQ]
      have hw9 : (rw0 b cA cJ N f (ro ob.2.2 (kBeat N f ob nd sv)) t (nBeat f nd) (lN x) sg 0) = r4 b cA cJ N ob.2.2 0 (kTick N f ob tr nd sv ad) (t, (lN x), sg) := by rw [hK9]; rfl
      have hr9 : rel2 (kTick N f ob tr nd sv ad).2.2.1 t := by rw [hK9]; exact ⟨e, d, ad, hN, hrel0⟩
      exact W.iret (v := (ro ob.2.2 (kBeat N f ob nd sv)).2.2.2.2) hx hb hr (fun t9 ht hW => ⟨congrArg (fun z => Outcome.returned (some (Value.int z))) (by rw [hK9]; rfl), (t, (lN x), sg), hr9, by rw [ht, ← hw9]; exact hP, by rw [← hw9]; exact hD, hS.F ht⟩) hS.2.2 dX5_tick_98
    refine lv_aload_n hx hb dX5_tick_20 rfl (lv_at hl 1 rfl) ?_
    refine lv_dup hx hb dX5_tick_21 rfl ?_
    refine va_get (D := D) (ci := 5) (v := .int nd.2.2.1) (fs := [.int 0, .int N, .ref (b 1), .ref (b 2), .ref (b 3), .ref (b 4), .ref (b 5), .ref (b 6), .int 22, .int 95, .int nd.1, .int nd.2.2.1, .int nd.2.1, .long nd.2.2.2, .int t.2.1, .int t.2.2.1, .int t.2.2.2.1, .int t.2.2.2.2.1, .int t.2.2.2.2.2, .ref (b 7), .long (lN x), .int sg, .ref (b 8), .ref (b 9), .ref (b 10), .int ((ro ob.2.2 ob).2.2.2.1), .int ((ro ob.2.2 ob).2.2.2.2)]) (C := RX5) (T := TX5) (N := 27) hx hb htb inX5 hown hK hP 0 rfl rfl 11 (by decide) (htb _ kF_X5_88) (fun _ h9 => h9) rfl dX5_tick_22 ?_
    refine lv_iconst (v := 1) hx hb dX5_tick_25 (by decide) ?_
    refine lv_iadd hx hb dX5_tick_26 ?_
    refine va_put (D := D) (ci := 5) (v := .int (nd.2.2.1 + 1)) (fs := [.int 0, .int N, .ref (b 1), .ref (b 2), .ref (b 3), .ref (b 4), .ref (b 5), .ref (b 6), .int 22, .int 95, .int nd.1, .int nd.2.2.1, .int nd.2.1, .long nd.2.2.2, .int t.2.1, .int t.2.2.1, .int t.2.2.2.1, .int t.2.2.2.2.1, .int t.2.2.2.2.2, .ref (b 7), .long (lN x), .int sg, .ref (b 8), .ref (b 9), .ref (b 10), .int ((ro ob.2.2 ob).2.2.2.1), .int ((ro ob.2.2 ob).2.2.2.2)]) (ty := .int) (C := RX5) (T := TX5) (N := 27) hx hb htb inX5 tyX5 tyX5_ok nmX5 hown hK hP hD hS 0 rfl rfl 11 (by decide) (htb _ kF_X5_88) (fun _ h9 => h9) rfl (by decide +kernel) rfl rfl (Nat.le_of_ble_eq_true rfl) dX5_tick_27 (fun H locs hP hD hS => ?_)
    have hP : va_P D vwCl (rw0 b cA cJ N f (ro ob.2.2 ob) t (nd.1, nd.2.1, nd.2.2.1 + 1, nd.2.2.2) (lN x) sg 0) H := hP
    have hD : va_D A (rw0 b cA cJ N f (ro ob.2.2 ob) t (nd.1, nd.2.1, nd.2.2.1 + 1, nd.2.2.2) (lN x) sg 0) := hD
    refine lv_aload_n hx hb dX5_tick_30 rfl (lv_at hl 1 rfl) ?_
    refine va_get (D := D) (ci := 5) (v := .int (nd.2.2.1 + 1)) (fs := [.int 0, .int N, .ref (b 1), .ref (b 2), .ref (b 3), .ref (b 4), .ref (b 5), .ref (b 6), .int 22, .int 95, .int nd.1, .int (nd.2.2.1 + 1), .int nd.2.1, .long nd.2.2.2, .int t.2.1, .int t.2.2.1, .int t.2.2.2.1, .int t.2.2.2.2.1, .int t.2.2.2.2.2, .ref (b 7), .long (lN x), .int sg, .ref (b 8), .ref (b 9), .ref (b 10), .int ((ro ob.2.2 ob).2.2.2.1), .int ((ro ob.2.2 ob).2.2.2.2)]) (C := RX5) (T := TX5) (N := 27) hx hb htb inX5 hown hK hP 0 rfl rfl 11 (by decide) (htb _ kF_X5_88) (fun _ h9 => h9) rfl dX5_tick_31 ?_
    refine lv_iload_n hx hb dX5_tick_34 rfl (lv_at hl 0 rfl) ?_
    refine lv_icmp_lt (tgt := 61) hx hb dX5_tick_35 (by decide) (fun hc2 => ?_) (fun hc2 => ?_)
    · have hkb : kBeat N f ob nd sv = ob := by simp only [kBeat, if_neg hc1, if_pos hc2]
      have hnb : nBeat f nd = (nd.1, nd.2.1, nd.2.2.1 + 1, nd.2.2.2) := by simp only [nBeat, if_neg hc1, if_pos hc2]
      have hP : va_P D vwCl (rw0 b cA cJ N f (ro ob.2.2 (kBeat N f ob nd sv)) t (nBeat f nd) (lN x) sg 0) H := by rw [hkb, hnb]; exact hP
      have hD : va_D A (rw0 b cA cJ N f (ro ob.2.2 (kBeat N f ob nd sv)) t (nBeat f nd) (lN x) sg 0) := by rw [hkb, hnb]; exact hD
      refine lv_aload_n hx hb dX5_tick_61 rfl (lv_at hl 1 rfl) ?_
      refine va_get (D := D) (ci := 5) (v := .int t.2.1) (fs := [.int 0, .int N, .ref (b 1), .ref (b 2), .ref (b 3), .ref (b 4), .ref (b 5), .ref (b 6), .int 22, .int 95, .int ((nBeat f nd).1), .int ((nBeat f nd).2.2.1), .int ((nBeat f nd).2.1), .long ((nBeat f nd).2.2.2), .int t.2.1, .int t.2.2.1, .int t.2.2.2.1, .int t.2.2.2.2.1, .int t.2.2.2.2.2, .ref (b 7), .long (lN x), .int sg, .ref (b 8), .ref (b 9), .ref (b 10), .int ((ro ob.2.2 (kBeat N f ob nd sv)).2.2.2.1), .int ((ro ob.2.2 (kBeat N f ob nd sv)).2.2.2.2)]) (C := RX5) (T := TX5) (N := 27) hx hb htb inX5 hown hK hP 0 rfl rfl 14 (by decide) (htb _ kF_X5_85) (fun _ h9 => h9) rfl dX5_tick_62 ?_
      refine lv_if_eq (tgt := 94) hx hb dX5_tick_65 (by decide) (fun _ => ?_) (fun hno => absurd ht0 hno)
      refine lv_aload_n hx hb dX5_tick_94 rfl (lv_at hl 1 rfl) ?_
      refine va_get (D := D) (ci := 5) (v := .int ((ro ob.2.2 (kBeat N f ob nd sv)).2.2.2.2)) (fs := [.int 0, .int N, .ref (b 1), .ref (b 2), .ref (b 3), .ref (b 4), .ref (b 5), .ref (b 6), .int 22, .int 95, .int ((nBeat f nd).1), .int ((nBeat f nd).2.2.1), .int ((nBeat f nd).2.1), .long ((nBeat f nd).2.2.2), .int t.2.1, .int t.2.2.1, .int t.2.2.2.1, .int t.2.2.2.2.1, .int t.2.2.2.2.2, .ref (b 7), .long (lN x), .int sg, .ref (b 8), .ref (b 9), .ref (b 10), .int ((ro ob.2.2 (kBeat N f ob nd sv)).2.2.2.1), .int ((ro ob.2.2 (kBeat N f ob nd sv)).2.2.2.2)]) (C := RX5) (T := TX5) (N := 27) hx hb htb inX5 hown hK hP 0 rfl rfl 26 (by decide) (htb _ kF_X5_72) (fun _ h9 => h9) rfl dX5_tick_95 ?_
      have hK9 : kTick N f ob tr nd sv ad = (f, (kBeat N f ob nd sv), tr, (nBeat f nd)) := by simp only [kTick, if_pos hg0]
      rw [hQ]
      have hw9 : (rw0 b cA cJ N f (ro ob.2.2 (kBeat N f ob nd sv)) t (nBeat f nd) (lN x) sg 0) = r4 b cA cJ N ob.2.2 0 (kTick N f ob tr nd sv ad) (t, (lN x), sg) := by rw [hK9]; rfl
      have hr9 : rel2 (kTick N f ob tr nd sv ad).2.2.1 t := by rw [hK9]; exact ⟨e, d, ad, hN, hrel0⟩
      exact W.iret (v := (ro ob.2.2 (kBeat N f ob nd sv)).2.2.2.2) hx hb hr (fun t9 ht hW => ⟨congrArg (fun z => Outcome.returned (some (Value.int z))) (by rw [hK9]; rfl), (t, (lN x), sg), hr9, by rw [ht, ← hw9]; exact hP, by rw [← hw9]; exact hD, hS.F ht⟩) hS.2.2 dX5_tick_98
    refine lv_aload_n hx hb dX5_tick_38 rfl (lv_at hl 1 rfl) ?_
    refine lv_iconst (v := 0) hx hb dX5_tick_39 (by decide) ?_
    refine va_put (D := D) (ci := 5) (v := .int 0) (fs := [.int 0, .int N, .ref (b 1), .ref (b 2), .ref (b 3), .ref (b 4), .ref (b 5), .ref (b 6), .int 22, .int 95, .int nd.1, .int (nd.2.2.1 + 1), .int nd.2.1, .long nd.2.2.2, .int t.2.1, .int t.2.2.1, .int t.2.2.2.1, .int t.2.2.2.2.1, .int t.2.2.2.2.2, .ref (b 7), .long (lN x), .int sg, .ref (b 8), .ref (b 9), .ref (b 10), .int ((ro ob.2.2 ob).2.2.2.1), .int ((ro ob.2.2 ob).2.2.2.2)]) (ty := .int) (C := RX5) (T := TX5) (N := 27) hx hb htb inX5 tyX5 tyX5_ok nmX5 hown hK hP hD hS 0 rfl rfl 11 (by decide) (htb _ kF_X5_88) (fun _ h9 => h9) rfl (by decide +kernel) rfl rfl (Nat.le_of_ble_eq_true rfl) dX5_tick_40 (fun H locs hP hD hS => ?_)
    have hP : va_P D vwCl (rw0 b cA cJ N f (ro ob.2.2 ob) t (nd.1, nd.2.1, 0, nd.2.2.2) (lN x) sg 0) H := hP
    have hD : va_D A (rw0 b cA cJ N f (ro ob.2.2 ob) t (nd.1, nd.2.1, 0, nd.2.2.2) (lN x) sg 0) := hD
    refine lv_aload_n hx hb dX5_tick_43 rfl (lv_at hl 1 rfl) ?_
    refine lv_sipush (v := 1792) hx hb dX5_tick_44 (by decide) ?_
    refine lv_aload_n hx hb dX5_tick_47 rfl (lv_at hl 1 rfl) ?_
    refine va_get (D := D) (ci := 5) (v := .int N) (fs := [.int 0, .int N, .ref (b 1), .ref (b 2), .ref (b 3), .ref (b 4), .ref (b 5), .ref (b 6), .int 22, .int 95, .int nd.1, .int 0, .int nd.2.1, .long nd.2.2.2, .int t.2.1, .int t.2.2.1, .int t.2.2.2.1, .int t.2.2.2.2.1, .int t.2.2.2.2.2, .ref (b 7), .long (lN x), .int sg, .ref (b 8), .ref (b 9), .ref (b 10), .int ((ro ob.2.2 ob).2.2.2.1), .int ((ro ob.2.2 ob).2.2.2.2)]) (C := RX5) (T := TX5) (N := 27) hx hb htb inX5 hown hK hP 0 rfl rfl 1 (by decide) (htb _ kF_X5_41) (fun _ h9 => h9) rfl dX5_tick_48 ?_
    refine lv_iadd hx hb dX5_tick_51 ?_
    refine lv_iconst (v := 1) hx hb dX5_tick_52 (by decide) ?_
    refine lv_aload_n hx hb dX5_tick_53 rfl (lv_at hl 1 rfl) ?_
    refine va_get (D := D) (ci := 5) (v := .int nd.1) (fs := [.int 0, .int N, .ref (b 1), .ref (b 2), .ref (b 3), .ref (b 4), .ref (b 5), .ref (b 6), .int 22, .int 95, .int nd.1, .int 0, .int nd.2.1, .long nd.2.2.2, .int t.2.1, .int t.2.2.1, .int t.2.2.2.1, .int t.2.2.2.2.1, .int t.2.2.2.2.2, .ref (b 7), .long (lN x), .int sg, .ref (b 8), .ref (b 9), .ref (b 10), .int ((ro ob.2.2 ob).2.2.2.1), .int ((ro ob.2.2 ob).2.2.2.2)]) (C := RX5) (T := TX5) (N := 27) hx hb htb inX5 hown hK hP 0 rfl rfl 10 (by decide) (htb _ kF_X5_82) (fun _ h9 => h9) rfl dX5_tick_54 ?_
    refine lv_i2l hx hb dX5_tick_57 rfl ?_
    refine zb_tl (y := lN sv) (by rw [hst]; exact nI_l (by omega)) ?_
    refine zb_cv (va_runV (As := [.int (1792 + N), .int 1, .long (lN sv)]) (rest := []) ⟨hx, hb, hml, hown, htb⟩ (r_send l D b cA cJ N f ob.2.2 ob t (nd.1, nd.2.1, 0, nd.2.2.2) (lN x) sg 0 _ kp (1792 + N) 1 sv hkp hkp32 (by omega)) (cwV 3 htb (wb_V kM_X5_78 kI_X5_send kS_X5_send kN_X5 kD_X5_send) rfl rfl rfl (by decide +kernel) ⟨Nat.le_of_ble_eq_true rfl, Nat.le_of_ble_eq_true rfl⟩) (zp_VW 0 rfl rfl hP hD hK hSt hS hA hnw) rfl rfl hl.1 rfl (lv_room (Nat.le_of_ble_eq_true rfl)) dX5_tick_58 ⟨Nat.le_of_ble_eq_true rfl, Nat.le_of_ble_eq_true rfl⟩) hD hS hA (fun H locs hP hD hS => ?_)
    have hP : va_P D vwCl (rw0 b cA cJ N f (ro ob.2.2 (ob_send ob (1792 + N) 1 sv)) t (nd.1, nd.2.1, 0, nd.2.2.2) (lN x) sg 0) H := hP
    have hD : va_D A (rw0 b cA cJ N f (ro ob.2.2 (ob_send ob (1792 + N) 1 sv)) t (nd.1, nd.2.1, 0, nd.2.2.2) (lN x) sg 0) := hD
    have hkb : kBeat N f ob nd sv = (ob_send ob (1792 + N) 1 sv) := by simp only [kBeat, if_neg hc1, if_neg hc2]
    have hnb : nBeat f nd = (nd.1, nd.2.1, 0, nd.2.2.2) := by simp only [nBeat, if_neg hc1, if_neg hc2]
    have hP : va_P D vwCl (rw0 b cA cJ N f (ro ob.2.2 (kBeat N f ob nd sv)) t (nBeat f nd) (lN x) sg 0) H := by rw [hkb, hnb]; exact hP
    have hD : va_D A (rw0 b cA cJ N f (ro ob.2.2 (kBeat N f ob nd sv)) t (nBeat f nd) (lN x) sg 0) := by rw [hkb, hnb]; exact hD
    refine lv_aload_n hx hb dX5_tick_61 rfl (lv_at hl 1 rfl) ?_
    refine va_get (D := D) (ci := 5) (v := .int t.2.1) (fs := [.int 0, .int N, .ref (b 1), .ref (b 2), .ref (b 3), .ref (b 4), .ref (b 5), .ref (b 6), .int 22, .int 95, .int ((nBeat f nd).1), .int ((nBeat f nd).2.2.1), .int ((nBeat f nd).2.1), .long ((nBeat f nd).2.2.2), .int t.2.1, .int t.2.2.1, .int t.2.2.2.1, .int t.2.2.2.2.1, .int t.2.2.2.2.2, .ref (b 7), .long (lN x), .int sg, .ref (b 8), .ref (b 9), .ref (b 10), .int ((ro ob.2.2 (kBeat N f ob nd sv)).2.2.2.1), .int ((ro ob.2.2 (kBeat N f ob nd sv)).2.2.2.2)]) (C := RX5) (T := TX5) (N := 27) hx hb htb inX5 hown hK hP 0 rfl rfl 14 (by decide) (htb _ kF_X5_85) (fun _ h9 => h9) rfl dX5_tick_62 ?_
    refine lv_if_eq (tgt := 94) hx hb dX5_tick_65 (by decide) (fun _ => ?_) (fun hno => absurd ht0 hno)
    refine lv_aload_n hx hb dX5_tick_94 rfl (lv_at hl 1 rfl) ?_
    refine va_get (D := D) (ci := 5) (v := .int ((ro ob.2.2 (kBeat N f ob nd sv)).2.2.2.2)) (fs := [.int 0, .int N, .ref (b 1), .ref (b 2), .ref (b 3), .ref (b 4), .ref (b 5), .ref (b 6), .int 22, .int 95, .int ((nBeat f nd).1), .int ((nBeat f nd).2.2.1), .int ((nBeat f nd).2.1), .long ((nBeat f nd).2.2.2), .int t.2.1, .int t.2.2.1, .int t.2.2.2.1, .int t.2.2.2.2.1, .int t.2.2.2.2.2, .ref (b 7), .long (lN x), .int sg, .ref (b 8), .ref (b 9), .ref (b 10), .int ((ro ob.2.2 (kBeat N f ob nd sv)).2.2.2.1), .int ((ro ob.2.2 (kBeat N f ob nd sv)).2.2.2.2)]) (C := RX5) (T := TX5) (N := 27) hx hb htb inX5 hown hK hP 0 rfl rfl 26 (by decide) (htb _ kF_X5_72) (fun _ h9 => h9) rfl dX5_tick_95 ?_
    have hK9 : kTick N f ob tr nd sv ad = (f, (kBeat N f ob nd sv), tr, (nBeat f nd)) := by simp only [kTick, if_pos hg0]
    rw [hQ]
    have hw9 : (rw0 b cA cJ N f (ro ob.2.2 (kBeat N f ob nd sv)) t (nBeat f nd) (lN x) sg 0) = r4 b cA cJ N ob.2.2 0 (kTick N f ob tr nd sv ad) (t, (lN x), sg) := by rw [hK9]; rfl
    have hr9 : rel2 (kTick N f ob tr nd sv ad).2.2.1 t := by rw [hK9]; exact ⟨e, d, ad, hN, hrel0⟩
    exact W.iret (v := (ro ob.2.2 (kBeat N f ob nd sv)).2.2.2.2) hx hb hr (fun t9 ht hW => ⟨congrArg (fun z => Outcome.returned (some (Value.int z))) (by rw [hK9]; rfl), (t, (lN x), sg), hr9, by rw [ht, ← hw9]; exact hP, by rw [← hw9]; exact hD, hS.F ht⟩) hS.2.2 dX5_tick_98
  · have hnz : ¬ t.2.1 = 0 := by rcases hw with ⟨_, h9⟩ | ⟨_, h9⟩ <;> rw [h9] <;> decide
    obtain ⟨tk, htk8, htc⟩ := htc0.resolve_left (by rw [hg1]; decide)
    have e3 : (t.2.2.2.2.2 : Int32) = nI tk := htk.trans htc
    have hP : va_P D vwCl (rw0 b cA cJ N f (ro z ob) (t.1, t.2.1, t.2.2.1, t.2.2.2.1, t.2.2.2.2.1, nI tk) nd (lN x) sg th) _ := Eq.mp (congrArg (fun zz9 : Int32 => va_P D vwCl (rw0 b cA cJ N f (ro z ob) (t.1, t.2.1, t.2.2.1, t.2.2.2.1, t.2.2.2.2.1, zz9) nd (lN x) sg th) _) e3) hP
    have hD : va_D A (rw0 b cA cJ N f (ro z ob) (t.1, t.2.1, t.2.2.1, t.2.2.2.1, t.2.2.2.2.1, nI tk) nd (lN x) sg th) := Eq.mp (congrArg (fun zz9 : Int32 => va_D A (rw0 b cA cJ N f (ro z ob) (t.1, t.2.1, t.2.2.1, t.2.2.2.1, t.2.2.2.2.1, zz9) nd (lN x) sg th)) e3) hD
    refine lv_aload_n hx hb dX5_tick_0 rfl (lv_at hl 0 rfl) ?_
    refine lv_iconst (v := 0) hx hb dX5_tick_1 (by decide) ?_
    refine va_put (D := D) (ci := 5) (v := .int 0) (fs := [.int th, .int N, .ref (b 1), .ref (b 2), .ref (b 3), .ref (b 4), .ref (b 5), .ref (b 6), .int 22, .int 95, .int nd.1, .int nd.2.2.1, .int nd.2.1, .long nd.2.2.2, .int t.2.1, .int t.2.2.1, .int t.2.2.2.1, .int t.2.2.2.2.1, .int (nI tk), .ref (b 7), .long (lN x), .int sg, .ref (b 8), .ref (b 9), .ref (b 10), .int ((ro z ob).2.2.2.1), .int ((ro z ob).2.2.2.2)]) (ty := .int) (C := RX5) (T := TX5) (N := 27) hx hb htb inX5 tyX5 tyX5_ok nmX5 hown hK hP hD hS 0 rfl rfl 0 (by decide) (htb _ kF_X5_67) (fun _ h9 => h9) rfl (by decide +kernel) rfl rfl (Nat.le_of_ble_eq_true rfl) dX5_tick_2 (fun H locs hP hD hS => ?_)
    have hP : va_P D vwCl (rw0 b cA cJ N f (ro z ob) (t.1, t.2.1, t.2.2.1, t.2.2.2.1, t.2.2.2.2.1, nI tk) nd (lN x) sg 0) H := hP
    have hD : va_D A (rw0 b cA cJ N f (ro z ob) (t.1, t.2.1, t.2.2.1, t.2.2.2.1, t.2.2.2.2.1, nI tk) nd (lN x) sg 0) := hD
    refine lv_aload_n hx hb dX5_tick_5 rfl (lv_at hl 0 rfl) ?_
    refine lv_iconst (v := 0) hx hb dX5_tick_6 (by decide) ?_
    refine va_put (D := D) (ci := 5) (v := .int 0) (fs := [.int 0, .int N, .ref (b 1), .ref (b 2), .ref (b 3), .ref (b 4), .ref (b 5), .ref (b 6), .int 22, .int 95, .int nd.1, .int nd.2.2.1, .int nd.2.1, .long nd.2.2.2, .int t.2.1, .int t.2.2.1, .int t.2.2.2.1, .int t.2.2.2.2.1, .int (nI tk), .ref (b 7), .long (lN x), .int sg, .ref (b 8), .ref (b 9), .ref (b 10), .int ((ro z ob).2.2.2.1), .int ((ro z ob).2.2.2.2)]) (ty := .int) (C := RX5) (T := TX5) (N := 27) hx hb htb inX5 tyX5 tyX5_ok nmX5 hown hK hP hD hS 0 rfl rfl 26 (by decide) (htb _ kF_X5_72) (fun _ h9 => h9) rfl (by decide +kernel) rfl rfl (Nat.le_of_ble_eq_true rfl) dX5_tick_7 (fun H locs hP hD hS => ?_)
    have hP : va_P D vwCl (rw0 b cA cJ N f ((ro z ob).1, (ro z ob).2.1, (ro z ob).2.2.1, (ro z ob).2.2.2.1, 0) (t.1, t.2.1, t.2.2.1, t.2.2.2.1, t.2.2.2.2.1, nI tk) nd (lN x) sg 0) H := hP
    have hD : va_D A (rw0 b cA cJ N f ((ro z ob).1, (ro z ob).2.1, (ro z ob).2.2.1, (ro z ob).2.2.2.1, 0) (t.1, t.2.1, t.2.2.1, t.2.2.2.1, t.2.2.2.2.1, nI tk) nd (lN x) sg 0) := hD
    rw [ro_0] at hP hD
    have hP : va_P D vwCl (rw0 b cA cJ N f (ro ob.2.2 ob) (t.1, t.2.1, t.2.2.1, t.2.2.2.1, t.2.2.2.2.1, nI tk) nd (lN x) sg 0) H := hP
    have hD : va_D A (rw0 b cA cJ N f (ro ob.2.2 ob) (t.1, t.2.1, t.2.2.1, t.2.2.2.1, t.2.2.2.2.1, nI tk) nd (lN x) sg 0) := hD
    refine lv_aload_n hx hb dX5_tick_10 rfl (lv_at hl 0 rfl) ?_
    refine lv_iconst (v := 2) hx hb dX5_tick_11 (by decide) ?_
    refine zb_ci (va_runV (As := [.int 2]) (rest := []) ⟨hx, hb, hml, hown, htb⟩ (r_number l D b cA cJ N f (ro ob.2.2 ob) (t.1, t.2.1, t.2.2.1, t.2.2.2.1, t.2.2.2.2.1, nI tk) nd (lN x) sg 0 2 hB (by omega)) (cwV 1 htb (wb_V kM_X5_97 kI_X5_number kS_X5_number kN_X5 kD_X5_number) rfl rfl rfl (by decide +kernel) ⟨Nat.le_of_ble_eq_true rfl, Nat.le_of_ble_eq_true rfl⟩) (zp_V 0 rfl rfl hP hK hSt hS hnw) rfl rfl hl.1 rfl (lv_room (Nat.le_of_ble_eq_true rfl)) dX5_tick_12 ⟨Nat.le_of_ble_eq_true rfl, Nat.le_of_ble_eq_true rfl⟩) ?_
    refine zb_ti (y := nI (kLife f)) (rfl) ?_
    refine lv_istore_n hx hb dX5_tick_15 rfl hl (by decide) rfl (fun ls hl => ?_)
    have hl : lv_has ls 2 [(1, .int (nI (kLife f))), (0, .ref (b 0))] := hl
    refine lv_iload_n hx hb dX5_tick_16 rfl (lv_at hl 0 rfl) ?_
    refine lv_if_eq (tgt := 61) hx hb dX5_tick_17 (by decide) (fun hc4 => ?_) (fun hc4 => ?_)
    · have hkb : kBeat N f ob nd sv = ob := by simp only [kBeat, if_pos hc4]
      have hnb : nBeat f nd = nd := by simp only [nBeat, if_pos hc4]
      have hP : va_P D vwCl (rw0 b cA cJ N f (ro ob.2.2 (kBeat N f ob nd sv)) (t.1, t.2.1, t.2.2.1, t.2.2.2.1, t.2.2.2.2.1, nI tk) (nBeat f nd) (lN x) sg 0) H := by rw [hkb, hnb]; exact hP
      have hD : va_D A (rw0 b cA cJ N f (ro ob.2.2 (kBeat N f ob nd sv)) (t.1, t.2.1, t.2.2.1, t.2.2.2.1, t.2.2.2.2.1, nI tk) (nBeat f nd) (lN x) sg 0) := by rw [hkb, hnb]; exact hD
      refine lv_aload_n hx hb dX5_tick_61 rfl (lv_at hl 1 rfl) ?_
      refine va_get (D := D) (ci := 5) (v := .int t.2.1) (fs := [.int 0, .int N, .ref (b 1), .ref (b 2), .ref (b 3), .ref (b 4), .ref (b 5), .ref (b 6), .int 22, .int 95, .int ((nBeat f nd).1), .int ((nBeat f nd).2.2.1), .int ((nBeat f nd).2.1), .long ((nBeat f nd).2.2.2), .int t.2.1, .int t.2.2.1, .int t.2.2.2.1, .int t.2.2.2.2.1, .int (nI tk), .ref (b 7), .long (lN x), .int sg, .ref (b 8), .ref (b 9), .ref (b 10), .int ((ro ob.2.2 (kBeat N f ob nd sv)).2.2.2.1), .int ((ro ob.2.2 (kBeat N f ob nd sv)).2.2.2.2)]) (C := RX5) (T := TX5) (N := 27) hx hb htb inX5 hown hK hP 0 rfl rfl 14 (by decide) (htb _ kF_X5_85) (fun _ h9 => h9) rfl dX5_tick_62 ?_
      refine lv_if_eq (tgt := 94) hx hb dX5_tick_65 (by decide) (fun hno => absurd hno hnz) (fun _ => ?_)
      refine lv_aload_n hx hb dX5_tick_68 rfl (lv_at hl 1 rfl) ?_
      refine lv_dup hx hb dX5_tick_69 rfl ?_
      refine va_get (D := D) (ci := 5) (v := .int (nI tk)) (fs := [.int 0, .int N, .ref (b 1), .ref (b 2), .ref (b 3), .ref (b 4), .ref (b 5), .ref (b 6), .int 22, .int 95, .int ((nBeat f nd).1), .int ((nBeat f nd).2.2.1), .int ((nBeat f nd).2.1), .long ((nBeat f nd).2.2.2), .int t.2.1, .int t.2.2.1, .int t.2.2.2.1, .int t.2.2.2.2.1, .int (nI tk), .ref (b 7), .long (lN x), .int sg, .ref (b 8), .ref (b 9), .ref (b 10), .int ((ro ob.2.2 (kBeat N f ob nd sv)).2.2.2.1), .int ((ro ob.2.2 (kBeat N f ob nd sv)).2.2.2.2)]) (C := RX5) (T := TX5) (N := 27) hx hb htb inX5 hown hK hP 0 rfl rfl 18 (by decide) (htb _ kF_X5_94) (fun _ h9 => h9) rfl dX5_tick_70 ?_
      refine lv_iconst (v := 1) hx hb dX5_tick_73 (by decide) ?_
      refine lv_iadd hx hb dX5_tick_74 ?_
      refine zb_ti (nI_add tk 1) ?_
      refine va_put (D := D) (ci := 5) (v := .int (nI (tk + 1))) (fs := [.int 0, .int N, .ref (b 1), .ref (b 2), .ref (b 3), .ref (b 4), .ref (b 5), .ref (b 6), .int 22, .int 95, .int ((nBeat f nd).1), .int ((nBeat f nd).2.2.1), .int ((nBeat f nd).2.1), .long ((nBeat f nd).2.2.2), .int t.2.1, .int t.2.2.1, .int t.2.2.2.1, .int t.2.2.2.2.1, .int (nI tk), .ref (b 7), .long (lN x), .int sg, .ref (b 8), .ref (b 9), .ref (b 10), .int ((ro ob.2.2 (kBeat N f ob nd sv)).2.2.2.1), .int ((ro ob.2.2 (kBeat N f ob nd sv)).2.2.2.2)]) (ty := .int) (C := RX5) (T := TX5) (N := 27) hx hb htb inX5 tyX5 tyX5_ok nmX5 hown hK hP hD hS 0 rfl rfl 18 (by decide) (htb _ kF_X5_94) (fun _ h9 => h9) rfl (by decide +kernel) rfl rfl (Nat.le_of_ble_eq_true rfl) dX5_tick_75 (fun H locs hP hD hS => ?_)
      have hP : va_P D vwCl (rw0 b cA cJ N f (ro ob.2.2 (kBeat N f ob nd sv)) (t.1, t.2.1, t.2.2.1, t.2.2.2.1, t.2.2.2.2.1, nI (tk + 1)) (nBeat f nd) (lN x) sg 0) H := hP
      have hD : va_D A (rw0 b cA cJ N f (ro ob.2.2 (kBeat N f ob nd sv)) (t.1, t.2.1, t.2.2.1, t.2.2.2.1, t.2.2.2.2.1, nI (tk + 1)) (nBeat f nd) (lN x) sg 0) := hD
      refine lv_aload_n hx hb dX5_tick_78 rfl (lv_at hl 1 rfl) ?_
      refine va_get (D := D) (ci := 5) (v := .int (nI (tk + 1))) (fs := [.int 0, .int N, .ref (b 1), .ref (b 2), .ref (b 3), .ref (b 4), .ref (b 5), .ref (b 6), .int 22, .int 95, .int ((nBeat f nd).1), .int ((nBeat f nd).2.2.1), .int ((nBeat f nd).2.1), .long ((nBeat f nd).2.2.2), .int t.2.1, .int t.2.2.1, .int t.2.2.2.1, .int t.2.2.2.2.1, .int (nI (tk + 1)), .ref (b 7), .long (lN x), .int sg, .ref (b 8), .ref (b 9), .ref (b 10), .int ((ro ob.2.2 (kBeat N f ob nd sv)).2.2.2.1), .int ((ro ob.2.2 (kBeat N f ob nd sv)).2.2.2.2)]) (C := RX5) (T := TX5) (N := 27) hx hb htb inX5 hown hK hP 0 rfl rfl 18 (by decide) (htb _ kF_X5_94) (fun _ h9 => h9) rfl dX5_tick_79 ?_
      refine lv_bipush (v := 8) hx hb dX5_tick_82 (by decide) ?_
      refine lv_icmp_ne (tgt := 94) hx hb dX5_tick_84 (by decide) (fun hc5 => ?_) (fun hc5 => ?_)
      · refine lv_aload_n hx hb dX5_tick_94 rfl (lv_at hl 1 rfl) ?_
        refine va_get (D := D) (ci := 5) (v := .int ((ro ob.2.2 (kBeat N f ob nd sv)).2.2.2.2)) (fs := [.int 0, .int N, .ref (b 1), .ref (b 2), .ref (b 3), .ref (b 4), .ref (b 5), .ref (b 6), .int 22, .int 95, .int ((nBeat f nd).1), .int ((nBeat f nd).2.2.1), .int ((nBeat f nd).2.1), .long ((nBeat f nd).2.2.2), .int t.2.1, .int t.2.2.1, .int t.2.2.2.1, .int t.2.2.2.2.1, .int (nI (tk + 1)), .ref (b 7), .long (lN x), .int sg, .ref (b 8), .ref (b 9), .ref (b 10), .int ((ro ob.2.2 (kBeat N f ob nd sv)).2.2.2.1), .int ((ro ob.2.2 (kBeat N f ob nd sv)).2.2.2.2)]) (C := RX5) (T := TX5) (N := 27) hx hb htb inX5 hown hK hP 0 rfl rfl 26 (by decide) (htb _ kF_X5_72) (fun _ h9 => h9) rfl dX5_tick_95 ?_
        have hg0 : ¬ tr.2.1 = 0 := by rw [hg1]; decide
        have hK9 : kTick N f ob tr nd sv ad = (f, (kBeat N f ob nd sv), trTick tr, (nBeat f nd)) := by simp only [kTick, if_neg hg0, if_pos (show tr.2.2.2.2.2.2.2 + 1 < 8 by rw [htc, nI_1]; exact nI_lt (b := 8) (by have h9 : ¬ tk + 1 = 8 := fun h => hc5 (by rw [h]; rfl); omega) (by decide))]
        rw [hQ]
        have hw9 : (rw0 b cA cJ N f (ro ob.2.2 (kBeat N f ob nd sv)) (t.1, t.2.1, t.2.2.1, t.2.2.2.1, t.2.2.2.2.1, nI (tk + 1)) (nBeat f nd) (lN x) sg 0) = r4 b cA cJ N ob.2.2 0 (kTick N f ob tr nd sv ad) ((t.1, t.2.1, t.2.2.1, t.2.2.2.1, t.2.2.2.2.1, nI (tk + 1)), (lN x), sg) := by rw [hK9]; rfl
        have hr9 : rel2 (kTick N f ob tr nd sv ad).2.2.1 (t.1, t.2.1, t.2.2.1, t.2.2.2.1, t.2.2.2.2.1, nI (tk + 1)) := by rw [hK9]; exact ⟨e, d, ad, ⟨he, hd, hN1, hN2, hN3, had⟩, hrh, Or.inr ⟨hg1, hw, hen, hadd, ⟨u, hu2, hdu, htu⟩, hdn, by show nI (tk + 1) = tr.2.2.2.2.2.2.2 + 1; rw [htc, nI_1]⟩⟩
        exact W.iret (v := (ro ob.2.2 (kBeat N f ob nd sv)).2.2.2.2) hx hb hr (fun t9 ht hW => ⟨congrArg (fun z => Outcome.returned (some (Value.int z))) (by rw [hK9]; rfl), ((t.1, t.2.1, t.2.2.1, t.2.2.2.1, t.2.2.2.2.1, nI (tk + 1)), (lN x), sg), hr9, by rw [ht, ← hw9]; exact hP, by rw [← hw9]; exact hD, hS.F ht⟩) hS.2.2 dX5_tick_98
      refine lv_aload_n hx hb dX5_tick_87 rfl (lv_at hl 1 rfl) ?_
      refine lv_ldc (v := 84148224) hx hb hown (htb _ kK_X5_213) dX5_tick_88 ?_
      refine lv_iconst (v := 1) hx hb dX5_tick_90 (by decide) ?_
      refine zb_cv (va_runV (As := [.int 84148224, .int 1]) (rest := []) ⟨hx, hb, hml, hown, htb⟩ (r_abort1 l D b cA cJ N f ob.2.2 (kBeat N f ob nd sv) (t.1, t.2.1, t.2.2.1, t.2.2.2.1, t.2.2.2.2.1, nI (tk + 1)) (nBeat f nd) x sg 0 _ (trTick tr) e d ad 84148224 (obK_beat ho) ⟨he, hd, hN1, hN2, hN3, had⟩ ⟨hrh, Or.inr ⟨hg1, hw, hen, hadd, ⟨u, hu2, hdu, htu⟩, hdn, by show nI (tk + 1) = tr.2.2.2.2.2.2.2 + 1; rw [htc, nI_1]⟩⟩ (by decide)) (cwV 2 htb (wb_V kM_X5_152 kI_X5_abort kS_X5_abort kN_X5 kD_X5_abort) rfl rfl rfl (by decide +kernel) ⟨Nat.le_of_ble_eq_true rfl, Nat.le_of_ble_eq_true rfl⟩) (zp_VW 0 rfl rfl hP hD hK hSt hS hA hnw) rfl rfl hl.1 rfl (lv_room (Nat.le_of_ble_eq_true rfl)) dX5_tick_91 ⟨Nat.le_of_ble_eq_true rfl, Nat.le_of_ble_eq_true rfl⟩) hD hS hA (fun H locs hP hD hS => ?_)
      have hP : va_P D vwCl (rw0 b cA cJ N f (ro ob.2.2 (kAns N (kBeat N f ob nd sv) 128 ad 84148224)) (t.1, 0, t.2.2.1, t.2.2.2.1, t.2.2.2.2.1, nI (tk + 1)) (nBeat f nd) (lN x) sg 0) H := hP
      have hD : va_D A (rw0 b cA cJ N f (ro ob.2.2 (kAns N (kBeat N f ob nd sv) 128 ad 84148224)) (t.1, 0, t.2.2.1, t.2.2.2.1, t.2.2.2.2.1, nI (tk + 1)) (nBeat f nd) (lN x) sg 0) := hD
      refine lv_aload_n hx hb dX5_tick_94 rfl (lv_at hl 1 rfl) ?_
      refine va_get (D := D) (ci := 5) (v := .int ((ro ob.2.2 (kAns N (kBeat N f ob nd sv) 128 ad 84148224)).2.2.2.2)) (fs := [.int 0, .int N, .ref (b 1), .ref (b 2), .ref (b 3), .ref (b 4), .ref (b 5), .ref (b 6), .int 22, .int 95, .int ((nBeat f nd).1), .int ((nBeat f nd).2.2.1), .int ((nBeat f nd).2.1), .long ((nBeat f nd).2.2.2), .int 0, .int t.2.2.1, .int t.2.2.2.1, .int t.2.2.2.2.1, .int (nI (tk + 1)), .ref (b 7), .long (lN x), .int sg, .ref (b 8), .ref (b 9), .ref (b 10), .int ((ro ob.2.2 (kAns N (kBeat N f ob nd sv) 128 ad 84148224)).2.2.2.1), .int ((ro ob.2.2 (kAns N (kBeat N f ob nd sv) 128 ad 84148224)).2.2.2.2)]) (C := RX5) (T := TX5) (N := 27) hx hb htb inX5 hown hK hP 0 rfl rfl 26 (by decide) (htb _ kF_X5_72) (fun _ h9 => h9) rfl dX5_tick_95 ?_
      have hg0 : ¬ tr.2.1 = 0 := by rw [hg1]; decide
      have hK9 : kTick N f ob tr nd sv ad = (f, (kAns N (kBeat N f ob nd sv) 128 ad 84148224), tr_end (trTick tr), (nBeat f nd)) := by simp only [kTick, if_neg hg0, if_neg (show ¬ tr.2.2.2.2.2.2.2 + 1 < 8 by rw [htc, nI_1, hc5]; decide)]
      rw [hQ]
      have hw9 : (rw0 b cA cJ N f (ro ob.2.2 (kAns N (kBeat N f ob nd sv) 128 ad 84148224)) (t.1, 0, t.2.2.1, t.2.2.2.1, t.2.2.2.2.1, nI (tk + 1)) (nBeat f nd) (lN x) sg 0) = r4 b cA cJ N ob.2.2 0 (kTick N f ob tr nd sv ad) ((t.1, 0, t.2.2.1, t.2.2.2.1, t.2.2.2.2.1, nI (tk + 1)), (lN x), sg) := by rw [hK9]; rfl
      have hr9 : rel2 (kTick N f ob tr nd sv ad).2.2.1 (t.1, 0, t.2.2.1, t.2.2.2.1, t.2.2.2.2.1, nI (tk + 1)) := by rw [hK9]; exact rel_off (tr := trTick tr) he hd hN1 hN2 hrh _
      exact W.iret (v := (ro ob.2.2 (kAns N (kBeat N f ob nd sv) 128 ad 84148224)).2.2.2.2) hx hb hr (fun t9 ht hW => ⟨congrArg (fun z => Outcome.returned (some (Value.int z))) (by rw [hK9]; rfl), ((t.1, 0, t.2.2.1, t.2.2.2.1, t.2.2.2.2.1, nI (tk + 1)), (lN x), sg), hr9, by rw [ht, ← hw9]; exact hP, by rw [← hw9]; exact hD, hS.F ht⟩) hS.2.2 dX5_tick_98
    refine lv_aload_n hx hb dX5_tick_20 rfl (lv_at hl 1 rfl) ?_
    refine lv_dup hx hb dX5_tick_21 rfl ?_
    refine va_get (D := D) (ci := 5) (v := .int nd.2.2.1) (fs := [.int 0, .int N, .ref (b 1), .ref (b 2), .ref (b 3), .ref (b 4), .ref (b 5), .ref (b 6), .int 22, .int 95, .int nd.1, .int nd.2.2.1, .int nd.2.1, .long nd.2.2.2, .int t.2.1, .int t.2.2.1, .int t.2.2.2.1, .int t.2.2.2.2.1, .int (nI tk), .ref (b 7), .long (lN x), .int sg, .ref (b 8), .ref (b 9), .ref (b 10), .int ((ro ob.2.2 ob).2.2.2.1), .int ((ro ob.2.2 ob).2.2.2.2)]) (C := RX5) (T := TX5) (N := 27) hx hb htb inX5 hown hK hP 0 rfl rfl 11 (by decide) (htb _ kF_X5_88) (fun _ h9 => h9) rfl dX5_tick_22 ?_
    refine lv_iconst (v := 1) hx hb dX5_tick_25 (by decide) ?_
    refine lv_iadd hx hb dX5_tick_26 ?_
    refine va_put (D := D) (ci := 5) (v := .int (nd.2.2.1 + 1)) (fs := [.int 0, .int N, .ref (b 1), .ref (b 2), .ref (b 3), .ref (b 4), .ref (b 5), .ref (b 6), .int 22, .int 95, .int nd.1, .int nd.2.2.1, .int nd.2.1, .long nd.2.2.2, .int t.2.1, .int t.2.2.1, .int t.2.2.2.1, .int t.2.2.2.2.1, .int (nI tk), .ref (b 7), .long (lN x), .int sg, .ref (b 8), .ref (b 9), .ref (b 10), .int ((ro ob.2.2 ob).2.2.2.1), .int ((ro ob.2.2 ob).2.2.2.2)]) (ty := .int) (C := RX5) (T := TX5) (N := 27) hx hb htb inX5 tyX5 tyX5_ok nmX5 hown hK hP hD hS 0 rfl rfl 11 (by decide) (htb _ kF_X5_88) (fun _ h9 => h9) rfl (by decide +kernel) rfl rfl (Nat.le_of_ble_eq_true rfl) dX5_tick_27 (fun H locs hP hD hS => ?_)
    have hP : va_P D vwCl (rw0 b cA cJ N f (ro ob.2.2 ob) (t.1, t.2.1, t.2.2.1, t.2.2.2.1, t.2.2.2.2.1, nI tk) (nd.1, nd.2.1, nd.2.2.1 + 1, nd.2.2.2) (lN x) sg 0) H := hP
    have hD : va_D A (rw0 b cA cJ N f (ro ob.2.2 ob) (t.1, t.2.1, t.2.2.1, t.2.2.2.1, t.2.2.2.2.1, nI tk) (nd.1, nd.2.1, nd.2.2.1 + 1, nd.2.2.2) (lN x) sg 0) := hD
    refine lv_aload_n hx hb dX5_tick_30 rfl (lv_at hl 1 rfl) ?_
    refine va_get (D := D) (ci := 5) (v := .int (nd.2.2.1 + 1)) (fs := [.int 0, .int N, .ref (b 1), .ref (b 2), .ref (b 3), .ref (b 4), .ref (b 5), .ref (b 6), .int 22, .int 95, .int nd.1, .int (nd.2.2.1 + 1), .int nd.2.1, .long nd.2.2.2, .int t.2.1, .int t.2.2.1, .int t.2.2.2.1, .int t.2.2.2.2.1, .int (nI tk), .ref (b 7), .long (lN x), .int sg, .ref (b 8), .ref (b 9), .ref (b 10), .int ((ro ob.2.2 ob).2.2.2.1), .int ((ro ob.2.2 ob).2.2.2.2)]) (C := RX5) (T := TX5) (N := 27) hx hb htb inX5 hown hK hP 0 rfl rfl 11 (by decide) (htb _ kF_X5_88) (fun _ h9 => h9) rfl dX5_tick_31 ?_
    refine lv_iload_n hx hb dX5_tick_34 rfl (lv_at hl 0 rfl) ?_
    refine lv_icmp_lt (tgt := 61) hx hb dX5_tick_35 (by decide) (fun hc6 => ?_) (fun hc6 => ?_)
    · have hkb : kBeat N f ob nd sv = ob := by simp only [kBeat, if_neg hc4, if_pos hc6]
      have hnb : nBeat f nd = (nd.1, nd.2.1, nd.2.2.1 + 1, nd.2.2.2) := by simp only [nBeat, if_neg hc4, if_pos hc6]
      have hP : va_P D vwCl (rw0 b cA cJ N f (ro ob.2.2 (kBeat N f ob nd sv)) (t.1, t.2.1, t.2.2.1, t.2.2.2.1, t.2.2.2.2.1, nI tk) (nBeat f nd) (lN x) sg 0) H := by rw [hkb, hnb]; exact hP
      have hD : va_D A (rw0 b cA cJ N f (ro ob.2.2 (kBeat N f ob nd sv)) (t.1, t.2.1, t.2.2.1, t.2.2.2.1, t.2.2.2.2.1, nI tk) (nBeat f nd) (lN x) sg 0) := by rw [hkb, hnb]; exact hD
      refine lv_aload_n hx hb dX5_tick_61 rfl (lv_at hl 1 rfl) ?_
      refine va_get (D := D) (ci := 5) (v := .int t.2.1) (fs := [.int 0, .int N, .ref (b 1), .ref (b 2), .ref (b 3), .ref (b 4), .ref (b 5), .ref (b 6), .int 22, .int 95, .int ((nBeat f nd).1), .int ((nBeat f nd).2.2.1), .int ((nBeat f nd).2.1), .long ((nBeat f nd).2.2.2), .int t.2.1, .int t.2.2.1, .int t.2.2.2.1, .int t.2.2.2.2.1, .int (nI tk), .ref (b 7), .long (lN x), .int sg, .ref (b 8), .ref (b 9), .ref (b 10), .int ((ro ob.2.2 (kBeat N f ob nd sv)).2.2.2.1), .int ((ro ob.2.2 (kBeat N f ob nd sv)).2.2.2.2)]) (C := RX5) (T := TX5) (N := 27) hx hb htb inX5 hown hK hP 0 rfl rfl 14 (by decide) (htb _ kF_X5_85) (fun _ h9 => h9) rfl dX5_tick_62 ?_
      refine lv_if_eq (tgt := 94) hx hb dX5_tick_65 (by decide) (fun hno => absurd hno hnz) (fun _ => ?_)
      refine lv_aload_n hx hb dX5_tick_68 rfl (lv_at hl 1 rfl) ?_
      refine lv_dup hx hb dX5_tick_69 rfl ?_
      refine va_get (D := D) (ci := 5) (v := .int (nI tk)) (fs := [.int 0, .int N, .ref (b 1), .ref (b 2), .ref (b 3), .ref (b 4), .ref (b 5), .ref (b 6), .int 22, .int 95, .int ((nBeat f nd).1), .int ((nBeat f nd).2.2.1), .int ((nBeat f nd).2.1), .long ((nBeat f nd).2.2.2), .int t.2.1, .int t.2.2.1, .int t.2.2.2.1, .int t.2.2.2.2.1, .int (nI tk), .ref (b 7), .long (lN x), .int sg, .ref (b 8), .ref (b 9), .ref (b 10), .int ((ro ob.2.2 (kBeat N f ob nd sv)).2.2.2.1), .int ((ro ob.2.2 (kBeat N f ob nd sv)).2.2.2.2)]) (C := RX5) (T := TX5) (N := 27) hx hb htb inX5 hown hK hP 0 rfl rfl 18 (by decide) (htb _ kF_X5_94) (fun _ h9 => h9) rfl dX5_tick_70 ?_
      refine lv_iconst (v := 1) hx hb dX5_tick_73 (by decide) ?_
      refine lv_iadd hx hb dX5_tick_74 ?_
      refine zb_ti (nI_add tk 1) ?_
      refine va_put (D := D) (ci := 5) (v := .int (nI (tk + 1))) (fs := [.int 0, .int N, .ref (b 1), .ref (b 2), .ref (b 3), .ref (b 4), .ref (b 5), .ref (b 6), .int 22, .int 95, .int ((nBeat f nd).1), .int ((nBeat f nd).2.2.1), .int ((nBeat f nd).2.1), .long ((nBeat f nd).2.2.2), .int t.2.1, .int t.2.2.1, .int t.2.2.2.1, .int t.2.2.2.2.1, .int (nI tk), .ref (b 7), .long (lN x), .int sg, .ref (b 8), .ref (b 9), .ref (b 10), .int ((ro ob.2.2 (kBeat N f ob nd sv)).2.2.2.1), .int ((ro ob.2.2 (kBeat N f ob nd sv)).2.2.2.2)]) (ty := .int) (C := RX5) (T := TX5) (N := 27) hx hb htb inX5 tyX5 tyX5_ok nmX5 hown hK hP hD hS 0 rfl rfl 18 (by decide) (htb _ kF_X5_94) (fun _ h9 => h9) rfl (by decide +kernel) rfl rfl (Nat.le_of_ble_eq_true rfl) dX5_tick_75 (fun H locs hP hD hS => ?_)
      have hP : va_P D vwCl (rw0 b cA cJ N f (ro ob.2.2 (kBeat N f ob nd sv)) (t.1, t.2.1, t.2.2.1, t.2.2.2.1, t.2.2.2.2.1, nI (tk + 1)) (nBeat f nd) (lN x) sg 0) H := hP
      have hD : va_D A (rw0 b cA cJ N f (ro ob.2.2 (kBeat N f ob nd sv)) (t.1, t.2.1, t.2.2.1, t.2.2.2.1, t.2.2.2.2.1, nI (tk + 1)) (nBeat f nd) (lN x) sg 0) := hD
      refine lv_aload_n hx hb dX5_tick_78 rfl (lv_at hl 1 rfl) ?_
      refine va_get (D := D) (ci := 5) (v := .int (nI (tk + 1))) (fs := [.int 0, .int N, .ref (b 1), .ref (b 2), .ref (b 3), .ref (b 4), .ref (b 5), .ref (b 6), .int 22, .int 95, .int ((nBeat f nd).1), .int ((nBeat f nd).2.2.1), .int ((nBeat f nd).2.1), .long ((nBeat f nd).2.2.2), .int t.2.1, .int t.2.2.1, .int t.2.2.2.1, .int t.2.2.2.2.1, .int (nI (tk + 1)), .ref (b 7), .long (lN x), .int sg, .ref (b 8), .ref (b 9), .ref (b 10), .int ((ro ob.2.2 (kBeat N f ob nd sv)).2.2.2.1), .int ((ro ob.2.2 (kBeat N f ob nd sv)).2.2.2.2)]) (C := RX5) (T := TX5) (N := 27) hx hb htb inX5 hown hK hP 0 rfl rfl 18 (by decide) (htb _ kF_X5_94) (fun _ h9 => h9) rfl dX5_tick_79 ?_
      refine lv_bipush (v := 8) hx hb dX5_tick_82 (by decide) ?_
      refine lv_icmp_ne (tgt := 94) hx hb dX5_tick_84 (by decide) (fun hc7 => ?_) (fun hc7 => ?_)
      · refine lv_aload_n hx hb dX5_tick_94 rfl (lv_at hl 1 rfl) ?_
        refine va_get (D := D) (ci := 5) (v := .int ((ro ob.2.2 (kBeat N f ob nd sv)).2.2.2.2)) (fs := [.int 0, .int N, .ref (b 1), .ref (b 2), .ref (b 3), .ref (b 4), .ref (b 5), .ref (b 6), .int 22, .int 95, .int ((nBeat f nd).1), .int ((nBeat f nd).2.2.1), .int ((nBeat f nd).2.1), .long ((nBeat f nd).2.2.2), .int t.2.1, .int t.2.2.1, .int t.2.2.2.1, .int t.2.2.2.2.1, .int (nI (tk + 1)), .ref (b 7), .long (lN x), .int sg, .ref (b 8), .ref (b 9), .ref (b 10), .int ((ro ob.2.2 (kBeat N f ob nd sv)).2.2.2.1), .int ((ro ob.2.2 (kBeat N f ob nd sv)).2.2.2.2)]) (C := RX5) (T := TX5) (N := 27) hx hb htb inX5 hown hK hP 0 rfl rfl 26 (by decide) (htb _ kF_X5_72) (fun _ h9 => h9) rfl dX5_tick_95 ?_
        have hg0 : ¬ tr.2.1 = 0 := by rw [hg1]; decide
        have hK9 : kTick N f ob tr nd sv ad = (f, (kBeat N f ob nd sv), trTick tr, (nBeat f nd)) := by simp only [kTick, if_neg hg0, if_pos (show tr.2.2.2.2.2.2.2 + 1 < 8 by rw [htc, nI_1]; exact nI_lt (b := 8) (by have h9 : ¬ tk + 1 = 8 := fun h => hc7 (by rw [h]; rfl); omega) (by decide))]
        rw [hQ]
        have hw9 : (rw0 b cA cJ N f (ro ob.2.2 (kBeat N f ob nd sv)) (t.1, t.2.1, t.2.2.1, t.2.2.2.1, t.2.2.2.2.1, nI (tk + 1)) (nBeat f nd) (lN x) sg 0) = r4 b cA cJ N ob.2.2 0 (kTick N f ob tr nd sv ad) ((t.1, t.2.1, t.2.2.1, t.2.2.2.1, t.2.2.2.2.1, nI (tk + 1)), (lN x), sg) := by rw [hK9]; rfl
        have hr9 : rel2 (kTick N f ob tr nd sv ad).2.2.1 (t.1, t.2.1, t.2.2.1, t.2.2.2.1, t.2.2.2.2.1, nI (tk + 1)) := by rw [hK9]; exact ⟨e, d, ad, ⟨he, hd, hN1, hN2, hN3, had⟩, hrh, Or.inr ⟨hg1, hw, hen, hadd, ⟨u, hu2, hdu, htu⟩, hdn, by show nI (tk + 1) = tr.2.2.2.2.2.2.2 + 1; rw [htc, nI_1]⟩⟩
        exact W.iret (v := (ro ob.2.2 (kBeat N f ob nd sv)).2.2.2.2) hx hb hr (fun t9 ht hW => ⟨congrArg (fun z => Outcome.returned (some (Value.int z))) (by rw [hK9]; rfl), ((t.1, t.2.1, t.2.2.1, t.2.2.2.1, t.2.2.2.2.1, nI (tk + 1)), (lN x), sg), hr9, by rw [ht, ← hw9]; exact hP, by rw [← hw9]; exact hD, hS.F ht⟩) hS.2.2 dX5_tick_98
      refine lv_aload_n hx hb dX5_tick_87 rfl (lv_at hl 1 rfl) ?_
      refine lv_ldc (v := 84148224) hx hb hown (htb _ kK_X5_213) dX5_tick_88 ?_
      refine lv_iconst (v := 1) hx hb dX5_tick_90 (by decide) ?_
      refine zb_cv (va_runV (As := [.int 84148224, .int 1]) (rest := []) ⟨hx, hb, hml, hown, htb⟩ (r_abort1 l D b cA cJ N f ob.2.2 (kBeat N f ob nd sv) (t.1, t.2.1, t.2.2.1, t.2.2.2.1, t.2.2.2.2.1, nI (tk + 1)) (nBeat f nd) x sg 0 _ (trTick tr) e d ad 84148224 (obK_beat ho) ⟨he, hd, hN1, hN2, hN3, had⟩ ⟨hrh, Or.inr ⟨hg1, hw, hen, hadd, ⟨u, hu2, hdu, htu⟩, hdn, by show nI (tk + 1) = tr.2.2.2.2.2.2.2 + 1; rw [htc, nI_1]⟩⟩ (by decide)) (cwV 2 htb (wb_V kM_X5_152 kI_X5_abort kS_X5_abort kN_X5 kD_X5_abort) rfl rfl rfl (by decide +kernel) ⟨Nat.le_of_ble_eq_true rfl, Nat.le_of_ble_eq_true rfl⟩) (zp_VW 0 rfl rfl hP hD hK hSt hS hA hnw) rfl rfl hl.1 rfl (lv_room (Nat.le_of_ble_eq_true rfl)) dX5_tick_91 ⟨Nat.le_of_ble_eq_true rfl, Nat.le_of_ble_eq_true rfl⟩) hD hS hA (fun H locs hP hD hS => ?_)
      have hP : va_P D vwCl (rw0 b cA cJ N f (ro ob.2.2 (kAns N (kBeat N f ob nd sv) 128 ad 84148224)) (t.1, 0, t.2.2.1, t.2.2.2.1, t.2.2.2.2.1, nI (tk + 1)) (nBeat f nd) (lN x) sg 0) H := hP
      have hD : va_D A (rw0 b cA cJ N f (ro ob.2.2 (kAns N (kBeat N f ob nd sv) 128 ad 84148224)) (t.1, 0, t.2.2.1, t.2.2.2.1, t.2.2.2.2.1, nI (tk + 1)) (nBeat f nd) (lN x) sg 0) := hD
      refine lv_aload_n hx hb dX5_tick_94 rfl (lv_at hl 1 rfl) ?_
      refine va_get (D := D) (ci := 5) (v := .int ((ro ob.2.2 (kAns N (kBeat N f ob nd sv) 128 ad 84148224)).2.2.2.2)) (fs := [.int 0, .int N, .ref (b 1), .ref (b 2), .ref (b 3), .ref (b 4), .ref (b 5), .ref (b 6), .int 22, .int 95, .int ((nBeat f nd).1), .int ((nBeat f nd).2.2.1), .int ((nBeat f nd).2.1), .long ((nBeat f nd).2.2.2), .int 0, .int t.2.2.1, .int t.2.2.2.1, .int t.2.2.2.2.1, .int (nI (tk + 1)), .ref (b 7), .long (lN x), .int sg, .ref (b 8), .ref (b 9), .ref (b 10), .int ((ro ob.2.2 (kAns N (kBeat N f ob nd sv) 128 ad 84148224)).2.2.2.1), .int ((ro ob.2.2 (kAns N (kBeat N f ob nd sv) 128 ad 84148224)).2.2.2.2)]) (C := RX5) (T := TX5) (N := 27) hx hb htb inX5 hown hK hP 0 rfl rfl 26 (by decide) (htb _ kF_X5_72) (fun _ h9 => h9) rfl dX5_tick_95 ?_
      have hg0 : ¬ tr.2.1 = 0 := by rw [hg1]; decide
      have hK9 : kTick N f ob tr nd sv ad = (f, (kAns N (kBeat N f ob nd sv) 128 ad 84148224), tr_end (trTick tr), (nBeat f nd)) := by simp only [kTick, if_neg hg0, if_neg (show ¬ tr.2.2.2.2.2.2.2 + 1 < 8 by rw [htc, nI_1, hc7]; decide)]
      rw [hQ]
      have hw9 : (rw0 b cA cJ N f (ro ob.2.2 (kAns N (kBeat N f ob nd sv) 128 ad 84148224)) (t.1, 0, t.2.2.1, t.2.2.2.1, t.2.2.2.2.1, nI (tk + 1)) (nBeat f nd) (lN x) sg 0) = r4 b cA cJ N ob.2.2 0 (kTick N f ob tr nd sv ad) ((t.1, 0, t.2.2.1, t.2.2.2.1, t.2.2.2.2.1, nI (tk + 1)), (lN x), sg) := by rw [hK9]; rfl
      have hr9 : rel2 (kTick N f ob tr nd sv ad).2.2.1 (t.1, 0, t.2.2.1, t.2.2.2.1, t.2.2.2.2.1, nI (tk + 1)) := by rw [hK9]; exact rel_off (tr := trTick tr) he hd hN1 hN2 hrh _
      exact W.iret (v := (ro ob.2.2 (kAns N (kBeat N f ob nd sv) 128 ad 84148224)).2.2.2.2) hx hb hr (fun t9 ht hW => ⟨congrArg (fun z => Outcome.returned (some (Value.int z))) (by rw [hK9]; rfl), ((t.1, 0, t.2.2.1, t.2.2.2.1, t.2.2.2.2.1, nI (tk + 1)), (lN x), sg), hr9, by rw [ht, ← hw9]; exact hP, by rw [← hw9]; exact hD, hS.F ht⟩) hS.2.2 dX5_tick_98
    refine lv_aload_n hx hb dX5_tick_38 rfl (lv_at hl 1 rfl) ?_
    refine lv_iconst (v := 0) hx hb dX5_tick_39 (by decide) ?_
    refine va_put (D := D) (ci := 5) (v := .int 0) (fs := [.int 0, .int N, .ref (b 1), .ref (b 2), .ref (b 3), .ref (b 4), .ref (b 5), .ref (b 6), .int 22, .int 95, .int nd.1, .int (nd.2.2.1 + 1), .int nd.2.1, .long nd.2.2.2, .int t.2.1, .int t.2.2.1, .int t.2.2.2.1, .int t.2.2.2.2.1, .int (nI tk), .ref (b 7), .long (lN x), .int sg, .ref (b 8), .ref (b 9), .ref (b 10), .int ((ro ob.2.2 ob).2.2.2.1), .int ((ro ob.2.2 ob).2.2.2.2)]) (ty := .int) (C := RX5) (T := TX5) (N := 27) hx hb htb inX5 tyX5 tyX5_ok nmX5 hown hK hP hD hS 0 rfl rfl 11 (by decide) (htb _ kF_X5_88) (fun _ h9 => h9) rfl (by decide +kernel) rfl rfl (Nat.le_of_ble_eq_true rfl) dX5_tick_40 (fun H locs hP hD hS => ?_)
    have hP : va_P D vwCl (rw0 b cA cJ N f (ro ob.2.2 ob) (t.1, t.2.1, t.2.2.1, t.2.2.2.1, t.2.2.2.2.1, nI tk) (nd.1, nd.2.1, 0, nd.2.2.2) (lN x) sg 0) H := hP
    have hD : va_D A (rw0 b cA cJ N f (ro ob.2.2 ob) (t.1, t.2.1, t.2.2.1, t.2.2.2.1, t.2.2.2.2.1, nI tk) (nd.1, nd.2.1, 0, nd.2.2.2) (lN x) sg 0) := hD
    refine lv_aload_n hx hb dX5_tick_43 rfl (lv_at hl 1 rfl) ?_
    refine lv_sipush (v := 1792) hx hb dX5_tick_44 (by decide) ?_
    refine lv_aload_n hx hb dX5_tick_47 rfl (lv_at hl 1 rfl) ?_
    refine va_get (D := D) (ci := 5) (v := .int N) (fs := [.int 0, .int N, .ref (b 1), .ref (b 2), .ref (b 3), .ref (b 4), .ref (b 5), .ref (b 6), .int 22, .int 95, .int nd.1, .int 0, .int nd.2.1, .long nd.2.2.2, .int t.2.1, .int t.2.2.1, .int t.2.2.2.1, .int t.2.2.2.2.1, .int (nI tk), .ref (b 7), .long (lN x), .int sg, .ref (b 8), .ref (b 9), .ref (b 10), .int ((ro ob.2.2 ob).2.2.2.1), .int ((ro ob.2.2 ob).2.2.2.2)]) (C := RX5) (T := TX5) (N := 27) hx hb htb inX5 hown hK hP 0 rfl rfl 1 (by decide) (htb _ kF_X5_41) (fun _ h9 => h9) rfl dX5_tick_48 ?_
    refine lv_iadd hx hb dX5_tick_51 ?_
    refine lv_iconst (v := 1) hx hb dX5_tick_52 (by decide) ?_
    refine lv_aload_n hx hb dX5_tick_53 rfl (lv_at hl 1 rfl) ?_
    refine va_get (D := D) (ci := 5) (v := .int nd.1) (fs := [.int 0, .int N, .ref (b 1), .ref (b 2), .ref (b 3), .ref (b 4), .ref (b 5), .ref (b 6), .int 22, .int 95, .int nd.1, .int 0, .int nd.2.1, .long nd.2.2.2, .int t.2.1, .int t.2.2.1, .int t.2.2.2.1, .int t.2.2.2.2.1, .int (nI tk), .ref (b 7), .long (lN x), .int sg, .ref (b 8), .ref (b 9), .ref (b 10), .int ((ro ob.2.2 ob).2.2.2.1), .int ((ro ob.2.2 ob).2.2.2.2)]) (C := RX5) (T := TX5) (N := 27) hx hb htb inX5 hown hK hP 0 rfl rfl 10 (by decide) (htb _ kF_X5_82) (fun _ h9 => h9) rfl dX5_tick_54 ?_
    refine lv_i2l hx hb dX5_tick_57 rfl ?_
    refine zb_tl (y := lN sv) (by rw [hst]; exact nI_l (by omega)) ?_
    refine zb_cv (va_runV (As := [.int (1792 + N), .int 1, .long (lN sv)]) (rest := []) ⟨hx, hb, hml, hown, htb⟩ (r_send l D b cA cJ N f ob.2.2 ob (t.1, t.2.1, t.2.2.1, t.2.2.2.1, t.2.2.2.2.1, nI tk) (nd.1, nd.2.1, 0, nd.2.2.2) (lN x) sg 0 _ kp (1792 + N) 1 sv hkp hkp32 (by omega)) (cwV 3 htb (wb_V kM_X5_78 kI_X5_send kS_X5_send kN_X5 kD_X5_send) rfl rfl rfl (by decide +kernel) ⟨Nat.le_of_ble_eq_true rfl, Nat.le_of_ble_eq_true rfl⟩) (zp_VW 0 rfl rfl hP hD hK hSt hS hA hnw) rfl rfl hl.1 rfl (lv_room (Nat.le_of_ble_eq_true rfl)) dX5_tick_58 ⟨Nat.le_of_ble_eq_true rfl, Nat.le_of_ble_eq_true rfl⟩) hD hS hA (fun H locs hP hD hS => ?_)
    have hP : va_P D vwCl (rw0 b cA cJ N f (ro ob.2.2 (ob_send ob (1792 + N) 1 sv)) (t.1, t.2.1, t.2.2.1, t.2.2.2.1, t.2.2.2.2.1, nI tk) (nd.1, nd.2.1, 0, nd.2.2.2) (lN x) sg 0) H := hP
    have hD : va_D A (rw0 b cA cJ N f (ro ob.2.2 (ob_send ob (1792 + N) 1 sv)) (t.1, t.2.1, t.2.2.1, t.2.2.2.1, t.2.2.2.2.1, nI tk) (nd.1, nd.2.1, 0, nd.2.2.2) (lN x) sg 0) := hD
    have hkb : kBeat N f ob nd sv = (ob_send ob (1792 + N) 1 sv) := by simp only [kBeat, if_neg hc4, if_neg hc6]
    have hnb : nBeat f nd = (nd.1, nd.2.1, 0, nd.2.2.2) := by simp only [nBeat, if_neg hc4, if_neg hc6]
    have hP : va_P D vwCl (rw0 b cA cJ N f (ro ob.2.2 (kBeat N f ob nd sv)) (t.1, t.2.1, t.2.2.1, t.2.2.2.1, t.2.2.2.2.1, nI tk) (nBeat f nd) (lN x) sg 0) H := by rw [hkb, hnb]; exact hP
    have hD : va_D A (rw0 b cA cJ N f (ro ob.2.2 (kBeat N f ob nd sv)) (t.1, t.2.1, t.2.2.1, t.2.2.2.1, t.2.2.2.2.1, nI tk) (nBeat f nd) (lN x) sg 0) := by rw [hkb, hnb]; exact hD
    refine lv_aload_n hx hb dX5_tick_61 rfl (lv_at hl 1 rfl) ?_
    refine va_get (D := D) (ci := 5) (v := .int t.2.1) (fs := [.int 0, .int N, .ref (b 1), .ref (b 2), .ref (b 3), .ref (b 4), .ref (b 5), .ref (b 6), .int 22, .int 95, .int ((nBeat f nd).1), .int ((nBeat f nd).2.2.1), .int ((nBeat f nd).2.1), .long ((nBeat f nd).2.2.2), .int t.2.1, .int t.2.2.1, .int t.2.2.2.1, .int t.2.2.2.2.1, .int (nI tk), .ref (b 7), .long (lN x), .int sg, .ref (b 8), .ref (b 9), .ref (b 10), .int ((ro ob.2.2 (kBeat N f ob nd sv)).2.2.2.1), .int ((ro ob.2.2 (kBeat N f ob nd sv)).2.2.2.2)]) (C := RX5) (T := TX5) (N := 27) hx hb htb inX5 hown hK hP 0 rfl rfl 14 (by decide) (htb _ kF_X5_85) (fun _ h9 => h9) rfl dX5_tick_62 ?_
    refine lv_if_eq (tgt := 94) hx hb dX5_tick_65 (by decide) (fun hno => absurd hno hnz) (fun _ => ?_)
    refine lv_aload_n hx hb dX5_tick_68 rfl (lv_at hl 1 rfl) ?_
    refine lv_dup hx hb dX5_tick_69 rfl ?_
    refine va_get (D := D) (ci := 5) (v := .int (nI tk)) (fs := [.int 0, .int N, .ref (b 1), .ref (b 2), .ref (b 3), .ref (b 4), .ref (b 5), .ref (b 6), .int 22, .int 95, .int ((nBeat f nd).1), .int ((nBeat f nd).2.2.1), .int ((nBeat f nd).2.1), .long ((nBeat f nd).2.2.2), .int t.2.1, .int t.2.2.1, .int t.2.2.2.1, .int t.2.2.2.2.1, .int (nI tk), .ref (b 7), .long (lN x), .int sg, .ref (b 8), .ref (b 9), .ref (b 10), .int ((ro ob.2.2 (kBeat N f ob nd sv)).2.2.2.1), .int ((ro ob.2.2 (kBeat N f ob nd sv)).2.2.2.2)]) (C := RX5) (T := TX5) (N := 27) hx hb htb inX5 hown hK hP 0 rfl rfl 18 (by decide) (htb _ kF_X5_94) (fun _ h9 => h9) rfl dX5_tick_70 ?_
    refine lv_iconst (v := 1) hx hb dX5_tick_73 (by decide) ?_
    refine lv_iadd hx hb dX5_tick_74 ?_
    refine zb_ti (nI_add tk 1) ?_
    refine va_put (D := D) (ci := 5) (v := .int (nI (tk + 1))) (fs := [.int 0, .int N, .ref (b 1), .ref (b 2), .ref (b 3), .ref (b 4), .ref (b 5), .ref (b 6), .int 22, .int 95, .int ((nBeat f nd).1), .int ((nBeat f nd).2.2.1), .int ((nBeat f nd).2.1), .long ((nBeat f nd).2.2.2), .int t.2.1, .int t.2.2.1, .int t.2.2.2.1, .int t.2.2.2.2.1, .int (nI tk), .ref (b 7), .long (lN x), .int sg, .ref (b 8), .ref (b 9), .ref (b 10), .int ((ro ob.2.2 (kBeat N f ob nd sv)).2.2.2.1), .int ((ro ob.2.2 (kBeat N f ob nd sv)).2.2.2.2)]) (ty := .int) (C := RX5) (T := TX5) (N := 27) hx hb htb inX5 tyX5 tyX5_ok nmX5 hown hK hP hD hS 0 rfl rfl 18 (by decide) (htb _ kF_X5_94) (fun _ h9 => h9) rfl (by decide +kernel) rfl rfl (Nat.le_of_ble_eq_true rfl) dX5_tick_75 (fun H locs hP hD hS => ?_)
    have hP : va_P D vwCl (rw0 b cA cJ N f (ro ob.2.2 (kBeat N f ob nd sv)) (t.1, t.2.1, t.2.2.1, t.2.2.2.1, t.2.2.2.2.1, nI (tk + 1)) (nBeat f nd) (lN x) sg 0) H := hP
    have hD : va_D A (rw0 b cA cJ N f (ro ob.2.2 (kBeat N f ob nd sv)) (t.1, t.2.1, t.2.2.1, t.2.2.2.1, t.2.2.2.2.1, nI (tk + 1)) (nBeat f nd) (lN x) sg 0) := hD
    refine lv_aload_n hx hb dX5_tick_78 rfl (lv_at hl 1 rfl) ?_
    refine va_get (D := D) (ci := 5) (v := .int (nI (tk + 1))) (fs := [.int 0, .int N, .ref (b 1), .ref (b 2), .ref (b 3), .ref (b 4), .ref (b 5), .ref (b 6), .int 22, .int 95, .int ((nBeat f nd).1), .int ((nBeat f nd).2.2.1), .int ((nBeat f nd).2.1), .long ((nBeat f nd).2.2.2), .int t.2.1, .int t.2.2.1, .int t.2.2.2.1, .int t.2.2.2.2.1, .int (nI (tk + 1)), .ref (b 7), .long (lN x), .int sg, .ref (b 8), .ref (b 9), .ref (b 10), .int ((ro ob.2.2 (kBeat N f ob nd sv)).2.2.2.1), .int ((ro ob.2.2 (kBeat N f ob nd sv)).2.2.2.2)]) (C := RX5) (T := TX5) (N := 27) hx hb htb inX5 hown hK hP 0 rfl rfl 18 (by decide) (htb _ kF_X5_94) (fun _ h9 => h9) rfl dX5_tick_79 ?_
    refine lv_bipush (v := 8) hx hb dX5_tick_82 (by decide) ?_
    refine lv_icmp_ne (tgt := 94) hx hb dX5_tick_84 (by decide) (fun hc8 => ?_) (fun hc8 => ?_)
    · refine lv_aload_n hx hb dX5_tick_94 rfl (lv_at hl 1 rfl) ?_
      refine va_get (D := D) (ci := 5) (v := .int ((ro ob.2.2 (kBeat N f ob nd sv)).2.2.2.2)) (fs := [.int 0, .int N, .ref (b 1), .ref (b 2), .ref (b 3), .ref (b 4), .ref (b 5), .ref (b 6), .int 22, .int 95, .int ((nBeat f nd).1), .int ((nBeat f nd).2.2.1), .int ((nBeat f nd).2.1), .long ((nBeat f nd).2.2.2), .int t.2.1, .int t.2.2.1, .int t.2.2.2.1, .int t.2.2.2.2.1, .int (nI (tk + 1)), .ref (b 7), .long (lN x), .int sg, .ref (b 8), .ref (b 9), .ref (b 10), .int ((ro ob.2.2 (kBeat N f ob nd sv)).2.2.2.1), .int ((ro ob.2.2 (kBeat N f ob nd sv)).2.2.2.2)]) (C := RX5) (T := TX5) (N := 27) hx hb htb inX5 hown hK hP 0 rfl rfl 26 (by decide) (htb _ kF_X5_72) (fun _ h9 => h9) rfl dX5_tick_95 ?_
      have hg0 : ¬ tr.2.1 = 0 := by rw [hg1]; decide
      have hK9 : kTick N f ob tr nd sv ad = (f, (kBeat N f ob nd sv), trTick tr, (nBeat f nd)) := by simp only [kTick, if_neg hg0, if_pos (show tr.2.2.2.2.2.2.2 + 1 < 8 by rw [htc, nI_1]; exact nI_lt (b := 8) (by have h9 : ¬ tk + 1 = 8 := fun h => hc8 (by rw [h]; rfl); omega) (by decide))]
      rw [hQ]
      have hw9 : (rw0 b cA cJ N f (ro ob.2.2 (kBeat N f ob nd sv)) (t.1, t.2.1, t.2.2.1, t.2.2.2.1, t.2.2.2.2.1, nI (tk + 1)) (nBeat f nd) (lN x) sg 0) = r4 b cA cJ N ob.2.2 0 (kTick N f ob tr nd sv ad) ((t.1, t.2.1, t.2.2.1, t.2.2.2.1, t.2.2.2.2.1, nI (tk + 1)), (lN x), sg) := by rw [hK9]; rfl
      have hr9 : rel2 (kTick N f ob tr nd sv ad).2.2.1 (t.1, t.2.1, t.2.2.1, t.2.2.2.1, t.2.2.2.2.1, nI (tk + 1)) := by rw [hK9]; exact ⟨e, d, ad, ⟨he, hd, hN1, hN2, hN3, had⟩, hrh, Or.inr ⟨hg1, hw, hen, hadd, ⟨u, hu2, hdu, htu⟩, hdn, by show nI (tk + 1) = tr.2.2.2.2.2.2.2 + 1; rw [htc, nI_1]⟩⟩
      exact W.iret (v := (ro ob.2.2 (kBeat N f ob nd sv)).2.2.2.2) hx hb hr (fun t9 ht hW => ⟨congrArg (fun z => Outcome.returned (some (Value.int z))) (by rw [hK9]; rfl), ((t.1, t.2.1, t.2.2.1, t.2.2.2.1, t.2.2.2.2.1, nI (tk + 1)), (lN x), sg), hr9, by rw [ht, ← hw9]; exact hP, by rw [← hw9]; exact hD, hS.F ht⟩) hS.2.2 dX5_tick_98
    refine lv_aload_n hx hb dX5_tick_87 rfl (lv_at hl 1 rfl) ?_
    refine lv_ldc (v := 84148224) hx hb hown (htb _ kK_X5_213) dX5_tick_88 ?_
    refine lv_iconst (v := 1) hx hb dX5_tick_90 (by decide) ?_
    refine zb_cv (va_runV (As := [.int 84148224, .int 1]) (rest := []) ⟨hx, hb, hml, hown, htb⟩ (r_abort1 l D b cA cJ N f ob.2.2 (kBeat N f ob nd sv) (t.1, t.2.1, t.2.2.1, t.2.2.2.1, t.2.2.2.2.1, nI (tk + 1)) (nBeat f nd) x sg 0 _ (trTick tr) e d ad 84148224 (obK_beat ho) ⟨he, hd, hN1, hN2, hN3, had⟩ ⟨hrh, Or.inr ⟨hg1, hw, hen, hadd, ⟨u, hu2, hdu, htu⟩, hdn, by show nI (tk + 1) = tr.2.2.2.2.2.2.2 + 1; rw [htc, nI_1]⟩⟩ (by decide)) (cwV 2 htb (wb_V kM_X5_152 kI_X5_abort kS_X5_abort kN_X5 kD_X5_abort) rfl rfl rfl (by decide +kernel) ⟨Nat.le_of_ble_eq_true rfl, Nat.le_of_ble_eq_true rfl⟩) (zp_VW 0 rfl rfl hP hD hK hSt hS hA hnw) rfl rfl hl.1 rfl (lv_room (Nat.le_of_ble_eq_true rfl)) dX5_tick_91 ⟨Nat.le_of_ble_eq_true rfl, Nat.le_of_ble_eq_true rfl⟩) hD hS hA (fun H locs hP hD hS => ?_)
    have hP : va_P D vwCl (rw0 b cA cJ N f (ro ob.2.2 (kAns N (kBeat N f ob nd sv) 128 ad 84148224)) (t.1, 0, t.2.2.1, t.2.2.2.1, t.2.2.2.2.1, nI (tk + 1)) (nBeat f nd) (lN x) sg 0) H := hP
    have hD : va_D A (rw0 b cA cJ N f (ro ob.2.2 (kAns N (kBeat N f ob nd sv) 128 ad 84148224)) (t.1, 0, t.2.2.1, t.2.2.2.1, t.2.2.2.2.1, nI (tk + 1)) (nBeat f nd) (lN x) sg 0) := hD
    refine lv_aload_n hx hb dX5_tick_94 rfl (lv_at hl 1 rfl) ?_
    refine va_get (D := D) (ci := 5) (v := .int ((ro ob.2.2 (kAns N (kBeat N f ob nd sv) 128 ad 84148224)).2.2.2.2)) (fs := [.int 0, .int N, .ref (b 1), .ref (b 2), .ref (b 3), .ref (b 4), .ref (b 5), .ref (b 6), .int 22, .int 95, .int ((nBeat f nd).1), .int ((nBeat f nd).2.2.1), .int ((nBeat f nd).2.1), .long ((nBeat f nd).2.2.2), .int 0, .int t.2.2.1, .int t.2.2.2.1, .int t.2.2.2.2.1, .int (nI (tk + 1)), .ref (b 7), .long (lN x), .int sg, .ref (b 8), .ref (b 9), .ref (b 10), .int ((ro ob.2.2 (kAns N (kBeat N f ob nd sv) 128 ad 84148224)).2.2.2.1), .int ((ro ob.2.2 (kAns N (kBeat N f ob nd sv) 128 ad 84148224)).2.2.2.2)]) (C := RX5) (T := TX5) (N := 27) hx hb htb inX5 hown hK hP 0 rfl rfl 26 (by decide) (htb _ kF_X5_72) (fun _ h9 => h9) rfl dX5_tick_95 ?_
    have hg0 : ¬ tr.2.1 = 0 := by rw [hg1]; decide
    have hK9 : kTick N f ob tr nd sv ad = (f, (kAns N (kBeat N f ob nd sv) 128 ad 84148224), tr_end (trTick tr), (nBeat f nd)) := by simp only [kTick, if_neg hg0, if_neg (show ¬ tr.2.2.2.2.2.2.2 + 1 < 8 by rw [htc, nI_1, hc8]; decide)]
    rw [hQ]
    have hw9 : (rw0 b cA cJ N f (ro ob.2.2 (kAns N (kBeat N f ob nd sv) 128 ad 84148224)) (t.1, 0, t.2.2.1, t.2.2.2.1, t.2.2.2.2.1, nI (tk + 1)) (nBeat f nd) (lN x) sg 0) = r4 b cA cJ N ob.2.2 0 (kTick N f ob tr nd sv ad) ((t.1, 0, t.2.2.1, t.2.2.2.1, t.2.2.2.2.1, nI (tk + 1)), (lN x), sg) := by rw [hK9]; rfl
    have hr9 : rel2 (kTick N f ob tr nd sv ad).2.2.1 (t.1, 0, t.2.2.1, t.2.2.2.1, t.2.2.2.2.1, nI (tk + 1)) := by rw [hK9]; exact rel_off (tr := trTick tr) he hd hN1 hN2 hrh _
    exact W.iret (v := (ro ob.2.2 (kAns N (kBeat N f ob nd sv) 128 ad 84148224)).2.2.2.2) hx hb hr (fun t9 ht hW => ⟨congrArg (fun z => Outcome.returned (some (Value.int z))) (by rw [hK9]; rfl), ((t.1, 0, t.2.2.1, t.2.2.2.1, t.2.2.2.2.1, nI (tk + 1)), (lN x), sg), hr9, by rw [ht, ← hw9]; exact hP, by rw [← hw9]; exact hD, hS.F ht⟩) hS.2.2 dX5_tick_98
set_option maxHeartbeats 4000000 in
set_option maxRecDepth 100000 in
theorem r_set (l : Launch) (D : va_G) (b : Nat → Nat) (cA cJ : ClassId) (N : Int32) (f : Nat → Int32) (z : Int32) (ob : OB) (t : RT) (nd : ND) (q : Int64) (sg th : Int32) (sz : Nat) (tr : TR) (i sb : Int32) (lo hg e : Nat) (hfd : fd i sb = some e) (h14 : 14 ≤ e) (hz8 : xZ e ≤ 8) (ho : obK ob) (hlo : lo < 2 ^ 32) (hhg : hg < 2 ^ 32) (hB2 : isB (pF f (xP e) (xZ e) (lo + 4294967296 * hg) 0)) (hG2 : mapK (pF f (xP e) (xZ e) (lo + 4294967296 * hg) 0) 9 5) : Met l yX5_set (wX5_set :: wb) ({ frames := 4, cells := 0, slots := 0, locals := 90 } : Room) (va_Pc [.ref (b 0), .int i, .int sb, .int (nI lo), .int (nI hg)] (zPre D [(cA, .int), (cJ, .long)] (rw0 b cA cJ N f (ro z ob) t nd q sg th) sz)) (zb_Vi ((kSet N f ob tr nd e (lo + 4294967296 * hg)).2.1.2.2 - ob.2.2) D vwCl (r4 b cA cJ N ob.2.2 0 (kSet N f ob tr nd e (lo + 4294967296 * hg)) (t, q, sg)) (va_A (rw0 b cA cJ N f (ro z ob) t nd q sg th) sz)) 0 0 (va_A (rw0 b cA cJ N f (ro z ob) t nd q sg th) sz) := by
  refine Met.ofW (cc := cX5_set) (maxL := 7) (ret := (some .int)) (by decide) rfl ?_
  intro p ev s m args below meth c s₁ B hml hv
  obtain ⟨rfl, hsz, hP, hK, hD0, hSt, hnw⟩ := hv
  have hx := B.exec
  have hb := B.bytes
  have hr := B.returns
  have hts := atoms_spec (ws := wX5_set :: wb) B.pre
  have htb : ∀ w ∈ wb, w.before ([.ref (b 0), .int i, .int sb, .int (nI lo), .int (nI hg)]).toArray s = true := fun w h => hts w (List.mem_cons_of_mem _ h)
  have hown : s.vm.findClass RX5 = some m.cls := findClass_of_methodNamed B.named
  have hlocks := B.notSynchronized
  subst hsz
  have hD := hD0.self (sz := s.heap.size)
  clear hD0
  generalize hAe : va_A (rw0 b cA cJ N f (ro z ob) t nd q sg th) s.heap.size = A at hD hSt ⊢
  have hA : ∀ q : Nat, s.heap.size ≤ q → A q := fun q h => by rw [← hAe]; exact Or.inr h
  have hS : va_S A s.heap s.heap [] := va_S.rf
  obtain ⟨⟨tt, ff, hZT, hTT, hZF, hTF⟩, hXS⟩ := id hSt
  have hl := lv_entry ([.ref (b 0), .int i, .int sb, .int (nI lo), .int (nI hg)]) (n := 7) (Nat.le_of_ble_eq_true rfl)
  rw [lg_entry_eq]
  generalize (lg_sl ([.ref (b 0), .int i, .int sb, .int (nI lo), .int (nI hg)]) ++ List.replicate (7 - (lg_sl ([.ref (b 0), .int i, .int sb, .int (nI lo), .int (nI hg)])).length) Slot.unset).toArray = ls at hl ⊢
  have hl : lv_has ls 7 [(0, .ref (b 0)), (1, .int i), (2, .int sb), (3, .int (nI lo)), (4, .int (nI hg))] := hl
  refine zb_abs (fun Q hQ => ?_)
  refine lv_aload_n hx hb dX5_set_0 rfl (lv_at hl 0 rfl) ?_
  refine lv_iload_n hx hb dX5_set_1 rfl (lv_at hl 1 rfl) ?_
  refine lv_iload_n hx hb dX5_set_2 rfl (lv_at hl 2 rfl) ?_
  refine zb_ci (va_runV (As := [.int i, .int sb]) (rest := []) ⟨hx, hb, hml, hown, htb⟩ (r_find l D b cA cJ N f (ro z ob) t nd q sg th i sb) (cwV 2 htb (wb_V kM_X5_156 kI_X5_find kS_X5_find kN_X5 kD_X5_find) rfl rfl rfl (by decide +kernel) ⟨Nat.le_of_ble_eq_true rfl, Nat.le_of_ble_eq_true rfl⟩) (zp_V 0 rfl rfl hP hK hSt hS hnw) rfl rfl hl.1 rfl (lv_room (Nat.le_of_ble_eq_true rfl)) dX5_set_3 ⟨Nat.le_of_ble_eq_true rfl, Nat.le_of_ble_eq_true rfl⟩) ?_
  refine zb_ti (y := nI e) (rF_some hfd) ?_
  have h22 := (fd_lt hfd).1
  have hft := x_fit e h22
  refine lv_istore hx hb dX5_set_6 hl (by decide) rfl (fun ls hl => ?_)
  have hl : lv_has ls 7 [(5, .int (nI e)), (0, .ref (b 0)), (1, .int i), (2, .int sb), (3, .int (nI lo)), (4, .int (nI hg))] := hl
  refine lv_aload_n hx hb dX5_set_8 rfl (lv_at hl 1 rfl) ?_
  refine lv_iload hx hb dX5_set_9 (lv_at hl 0 rfl) ?_
  refine lv_if_lt (tgt := 33) hx hb dX5_set_11 (by decide) (fun hno => absurd hno (ni_nlt0 h22)) (fun _ => ?_)
  refine lv_iload_n hx hb dX5_set_14 rfl (lv_at hl 2 rfl) ?_
  refine lv_sipush (v := 8192) hx hb dX5_set_15 (by decide) ?_
  refine lv_icmp_lt (tgt := 33) hx hb dX5_set_18 (by decide) (fun hno => absurd hno (by rw [← (fd_lt hfd).2.1]; exact nI_nlt (b := 8192) (by have := (x14 e h22); omega) (by omega))) (fun _ => ?_)
  refine lv_aload_n hx hb dX5_set_21 rfl (lv_at hl 1 rfl) ?_
  refine va_get (D := D) (ci := 5) (v := .ref (b 3)) (fs := [.int th, .int N, .ref (b 1), .ref (b 2), .ref (b 3), .ref (b 4), .ref (b 5), .ref (b 6), .int 22, .int 95, .int nd.1, .int nd.2.2.1, .int nd.2.1, .long nd.2.2.2, .int t.2.1, .int t.2.2.1, .int t.2.2.2.1, .int t.2.2.2.2.1, .int t.2.2.2.2.2, .ref (b 7), .long q, .int sg, .ref (b 8), .ref (b 9), .ref (b 10), .int ((ro z ob).2.2.2.1), .int ((ro z ob).2.2.2.2)]) (C := RX5) (T := TX5) (N := 27) hx hb htb inX5 hown hK hP 0 rfl rfl 4 (by decide) (htb _ kF_X5_16) (fun _ h9 => h9) rfl dX5_set_22 ?_
  refine lv_iload hx hb dX5_set_25 (lv_at hl 0 rfl) ?_
  refine va_iald (i := nI e) hx hb hK hP 3 0 rfl rfl (vp_in_nI (by omega) (by decide)) dX5_set_27 ?_
  refine zb_ti (y := nI (xZ e)) (by rw [nI_clamp (by omega)]) ?_
  refine lv_bipush (v := 8) hx hb dX5_set_28 (by decide) ?_
  refine lv_icmp_le (tgt := 37) hx hb dX5_set_30 (by decide) (fun _ => ?_) (fun hno => absurd (nI_le (b := 8) hz8 (by decide)) hno)
  refine lv_iconst (v := 0) hx hb dX5_set_37 (by decide) ?_
  refine va_put (D := D) (ci := 5) (v := .int 0) (fs := [.int th, .int N, .ref (b 1), .ref (b 2), .ref (b 3), .ref (b 4), .ref (b 5), .ref (b 6), .int 22, .int 95, .int nd.1, .int nd.2.2.1, .int nd.2.1, .long nd.2.2.2, .int t.2.1, .int t.2.2.1, .int t.2.2.2.1, .int t.2.2.2.2.1, .int t.2.2.2.2.2, .ref (b 7), .long q, .int sg, .ref (b 8), .ref (b 9), .ref (b 10), .int ((ro z ob).2.2.2.1), .int ((ro z ob).2.2.2.2)]) (ty := .int) (C := RX5) (T := TX5) (N := 27) hx hb htb inX5 tyX5 tyX5_ok nmX5 hown hK hP hD hS 0 rfl rfl 0 (by decide) (htb _ kF_X5_67) (fun _ h9 => h9) rfl (by decide +kernel) rfl rfl (Nat.le_of_ble_eq_true rfl) dX5_set_38 (fun H locs hP hD hS => ?_)
  have hP : va_P D vwCl (rw0 b cA cJ N f (ro z ob) t nd q sg 0) H := hP
  have hD : va_D A (rw0 b cA cJ N f (ro z ob) t nd q sg 0) := hD
  refine lv_aload_n hx hb dX5_set_41 rfl (lv_at hl 1 rfl) ?_
  refine va_get (D := D) (ci := 5) (v := .int 0) (fs := [.int 0, .int N, .ref (b 1), .ref (b 2), .ref (b 3), .ref (b 4), .ref (b 5), .ref (b 6), .int 22, .int 95, .int nd.1, .int nd.2.2.1, .int nd.2.1, .long nd.2.2.2, .int t.2.1, .int t.2.2.1, .int t.2.2.2.1, .int t.2.2.2.2.1, .int t.2.2.2.2.2, .ref (b 7), .long q, .int sg, .ref (b 8), .ref (b 9), .ref (b 10), .int ((ro z ob).2.2.2.1), .int ((ro z ob).2.2.2.2)]) (C := RX5) (T := TX5) (N := 27) hx hb htb inX5 hown hK hP 0 rfl rfl 0 (by decide) (htb _ kF_X5_67) (fun _ h9 => h9) rfl dX5_set_42 ?_
  refine lv_if_le (tgt := 50) hx hb dX5_set_45 (by decide) (fun _ => ?_) (fun hno => absurd (by decide) hno)
  refine lv_aload_n hx hb dX5_set_50 rfl (lv_at hl 1 rfl) ?_
  refine lv_iconst (v := 0) hx hb dX5_set_51 (by decide) ?_
  refine va_put (D := D) (ci := 5) (v := .int 0) (fs := [.int 0, .int N, .ref (b 1), .ref (b 2), .ref (b 3), .ref (b 4), .ref (b 5), .ref (b 6), .int 22, .int 95, .int nd.1, .int nd.2.2.1, .int nd.2.1, .long nd.2.2.2, .int t.2.1, .int t.2.2.1, .int t.2.2.2.1, .int t.2.2.2.2.1, .int t.2.2.2.2.2, .ref (b 7), .long q, .int sg, .ref (b 8), .ref (b 9), .ref (b 10), .int ((ro z ob).2.2.2.1), .int ((ro z ob).2.2.2.2)]) (ty := .int) (C := RX5) (T := TX5) (N := 27) hx hb htb inX5 tyX5 tyX5_ok nmX5 hown hK hP hD hS 0 rfl rfl 26 (by decide) (htb _ kF_X5_72) (fun _ h9 => h9) rfl (by decide +kernel) rfl rfl (Nat.le_of_ble_eq_true rfl) dX5_set_52 (fun H locs hP hD hS => ?_)
  have hP : va_P D vwCl (rw0 b cA cJ N f ((ro z ob).1, (ro z ob).2.1, (ro z ob).2.2.1, (ro z ob).2.2.2.1, 0) t nd q sg 0) H := hP
  have hD : va_D A (rw0 b cA cJ N f ((ro z ob).1, (ro z ob).2.1, (ro z ob).2.2.1, (ro z ob).2.2.2.1, 0) t nd q sg 0) := hD
  rw [ro_0] at hP hD
  have hP : va_P D vwCl (rw0 b cA cJ N f (ro ob.2.2 ob) t nd q sg 0) H := hP
  have hD : va_D A (rw0 b cA cJ N f (ro ob.2.2 ob) t nd q sg 0) := hD
  refine lv_iconst (v := 0) hx hb dX5_set_55 (by decide) ?_
  refine lv_istore hx hb dX5_set_56 hl (by decide) rfl (fun ls hl => ?_)
  have hl : lv_has ls 7 [(6, .int 0), (5, .int (nI e)), (0, .ref (b 0)), (1, .int i), (2, .int sb), (3, .int (nI lo)), (4, .int (nI hg))] := hl
  have e1 : (f : Nat → Int32) = (pF f (xP e) (0) (lo + 4294967296 * hg) 0) := (pF_0 _ _ _ _).symm
  have hP : va_P D vwCl (rw0 b cA cJ N (pF f (xP e) (0) (lo + 4294967296 * hg) 0) (ro ob.2.2 ob) t nd q sg 0) _ := Eq.mp (congrArg (fun zz9 : Nat → Int32 => va_P D vwCl (rw0 b cA cJ N zz9 (ro ob.2.2 ob) t nd q sg 0) _) e1) hP
  have hD : va_D A (rw0 b cA cJ N (pF f (xP e) (0) (lo + 4294967296 * hg) 0) (ro ob.2.2 ob) t nd q sg 0) := Eq.mp (congrArg (fun zz9 : Nat → Int32 => va_D A (rw0 b cA cJ N zz9 (ro ob.2.2 ob) t nd q sg 0)) e1) hD
  have lp : ∀ (nn k : Nat) (ls : Array Slot) (H : Heap) (locs : List Loc), va_P D vwCl (rw0 b cA cJ N (pF f (xP e) (k) (lo + 4294967296 * hg) 0) (ro ob.2.2 ob) t nd q sg 0) H → va_D A (rw0 b cA cJ N (pF f (xP e) (k) (lo + 4294967296 * hg) 0) (ro ob.2.2 ob) t nd q sg 0) → va_S A s.heap H locs → k + nn = xZ e → lv_has ls 7 [(0, .ref (b 0)), (3, .int (nI lo)), (4, .int (nI hg)), (5, .int (nI e)), (6, .int (nI (k)))] → W p l ev ({ frames := 4, cells := 0, slots := 0, locals := 90 } : Room) s m ([.ref (b 0), .int i, .int sb, .int (nI lo), .int (nI hg)]).toArray below meth c H locs 0 0 Q (F0 m 58 ls []) := by
    intro nn
    induction nn with
    | zero =>
      intro k ls H locs hP hD hS hk_lp  hl
      have hk0_lp : k = xZ e := by omega
      refine lv_iload hx hb dX5_set_58 (lv_at hl 4 rfl) ?_
      refine lv_aload_n hx hb dX5_set_60 rfl (lv_at hl 0 rfl) ?_
      refine va_get (D := D) (ci := 5) (v := .ref (b 3)) (fs := [.int 0, .int N, .ref (b 1), .ref (b 2), .ref (b 3), .ref (b 4), .ref (b 5), .ref (b 6), .int 22, .int 95, .int nd.1, .int nd.2.2.1, .int nd.2.1, .long nd.2.2.2, .int t.2.1, .int t.2.2.1, .int t.2.2.2.1, .int t.2.2.2.2.1, .int t.2.2.2.2.2, .ref (b 7), .long q, .int sg, .ref (b 8), .ref (b 9), .ref (b 10), .int ((ro ob.2.2 ob).2.2.2.1), .int ((ro ob.2.2 ob).2.2.2.2)]) (C := RX5) (T := TX5) (N := 27) hx hb htb inX5 hown hK hP 0 rfl rfl 4 (by decide) (htb _ kF_X5_16) (fun _ h9 => h9) rfl dX5_set_61 ?_
      refine lv_iload hx hb dX5_set_64 (lv_at hl 3 rfl) ?_
      refine va_iald (i := nI e) hx hb hK hP 3 0 rfl rfl (vp_in_nI (by omega) (by decide)) dX5_set_66 ?_
      refine zb_ti (y := nI (xZ e)) (by rw [nI_clamp (by omega)]) ?_
      refine lv_icmp_ge (tgt := 102) hx hb dX5_set_67 (by decide) (fun _ => ?_) (fun hno => absurd (by rw [hk0_lp]; exact nI_le (Nat.le_refl _) (by omega)) hno)
      have e2 : ((pF f (xP e) (k) (lo + 4294967296 * hg) 0) : Nat → Int32) = (pF f (xP e) (xZ e) (lo + 4294967296 * hg) 0) := by rw [hk0_lp]
      have hP : va_P D vwCl (rw0 b cA cJ N (pF f (xP e) (xZ e) (lo + 4294967296 * hg) 0) (ro ob.2.2 ob) t nd q sg 0) _ := Eq.mp (congrArg (fun zz9 : Nat → Int32 => va_P D vwCl (rw0 b cA cJ N zz9 (ro ob.2.2 ob) t nd q sg 0) _) e2) hP
      have hD : va_D A (rw0 b cA cJ N (pF f (xP e) (xZ e) (lo + 4294967296 * hg) 0) (ro ob.2.2 ob) t nd q sg 0) := Eq.mp (congrArg (fun zz9 : Nat → Int32 => va_D A (rw0 b cA cJ N zz9 (ro ob.2.2 ob) t nd q sg 0)) e2) hD
      refine lv_aload_n hx hb dX5_set_102 rfl (lv_at hl 0 rfl) ?_
      refine zb_cv (va_runV (As := []) (rest := []) ⟨hx, hb, hml, hown, htb⟩ (r_end l D b cA cJ N (pF f (xP e) (xZ e) (lo + 4294967296 * hg) 0) ob.2.2 ob t nd q sg 0 _ hB2 hG2 ho) (cwV 0 htb (wb_V kM_X5_210 kI_X5_end kS_X5_end kN_X5 kD_X5_end) rfl rfl rfl (by decide +kernel) ⟨Nat.le_of_ble_eq_true rfl, Nat.le_of_ble_eq_true rfl⟩) (zp_VW 0 rfl rfl hP hD hK hSt hS hA hnw) rfl rfl hl.1 rfl (lv_room (Nat.le_of_ble_eq_true rfl)) dX5_set_103 ⟨Nat.le_of_ble_eq_true rfl, Nat.le_of_ble_eq_true rfl⟩) hD hS hA (fun H locs hP hD hS => ?_)
      have hP : va_P D vwCl (rw0 b cA cJ N (pF f (xP e) (xZ e) (lo + 4294967296 * hg) 0) (ro ob.2.2 (kEv N (pF f (xP e) (xZ e) (lo + 4294967296 * hg) 0) ob nd)) t (nEv (pF f (xP e) (xZ e) (lo + 4294967296 * hg) 0) nd) q sg 0) H := hP
      have hD : va_D A (rw0 b cA cJ N (pF f (xP e) (xZ e) (lo + 4294967296 * hg) 0) (ro ob.2.2 (kEv N (pF f (xP e) (xZ e) (lo + 4294967296 * hg) 0) ob nd)) t (nEv (pF f (xP e) (xZ e) (lo + 4294967296 * hg) 0) nd) q sg 0) := hD
      refine lv_aload_n hx hb dX5_set_106 rfl (lv_at hl 0 rfl) ?_
      refine va_get (D := D) (ci := 5) (v := .int ((ro ob.2.2 (kEv N (pF f (xP e) (xZ e) (lo + 4294967296 * hg) 0) ob nd)).2.2.2.2)) (fs := [.int 0, .int N, .ref (b 1), .ref (b 2), .ref (b 3), .ref (b 4), .ref (b 5), .ref (b 6), .int 22, .int 95, .int ((nEv (pF f (xP e) (xZ e) (lo + 4294967296 * hg) 0) nd).1), .int ((nEv (pF f (xP e) (xZ e) (lo + 4294967296 * hg) 0) nd).2.2.1), .int ((nEv (pF f (xP e) (xZ e) (lo + 4294967296 * hg) 0) nd).2.1), .long ((nEv (pF f (xP e) (xZ e) (lo + 4294967296 * hg) 0) nd).2.2.2), .int t.2.1, .int t.2.2.1, .int t.2.2.2.1, .int t.2.2.2.2.1, .int t.2.2.2.2.2, .ref (b 7), .long q, .int sg, .ref (b 8), .ref (b 9), .ref (b 10), .int ((ro ob.2.2 (kEv N (pF f (xP e) (xZ e) (lo + 4294967296 * hg) 0) ob nd)).2.2.2.1), .int ((ro ob.2.2 (kEv N (pF f (xP e) (xZ e) (lo + 4294967296 * hg) 0) ob nd)).2.2.2.2)]) (C := RX5) (T := TX5) (N := 27) hx hb htb inX5 hown hK hP 0 rfl rfl 26 (by decide) (htb _ kF_X5_72) (fun _ h9 => h9) rfl dX5_set_107 ?_
      rw [hQ]
      have hw9 : (rw0 b cA cJ N (pF f (xP e) (xZ e) (lo + 4294967296 * hg) 0) (ro ob.2.2 (kEv N (pF f (xP e) (xZ e) (lo + 4294967296 * hg) 0) ob nd)) t (nEv (pF f (xP e) (xZ e) (lo + 4294967296 * hg) 0) nd) q sg 0) = (r4 b cA cJ N ob.2.2 0 (kSet N f ob tr nd e (lo + 4294967296 * hg)) (t, q, sg)) := rfl
      exact W.iret (v := (ro ob.2.2 (kEv N (pF f (xP e) (xZ e) (lo + 4294967296 * hg) 0) ob nd)).2.2.2.2) hx hb hr (fun t9 ht hW => ⟨congrArg (fun z => Outcome.returned (some (Value.int z))) (rfl), by rw [ht, ← hw9]; exact hP, by rw [← hw9]; exact hD, hS.F ht⟩) hS.2.2 dX5_set_110
    | succ nn ih_lp =>
      intro k ls H locs hP hD hS hk_lp  hl
      have hk1_lp : k < xZ e := by omega
      refine lv_iload hx hb dX5_set_58 (lv_at hl 4 rfl) ?_
      refine lv_aload_n hx hb dX5_set_60 rfl (lv_at hl 0 rfl) ?_
      refine va_get (D := D) (ci := 5) (v := .ref (b 3)) (fs := [.int 0, .int N, .ref (b 1), .ref (b 2), .ref (b 3), .ref (b 4), .ref (b 5), .ref (b 6), .int 22, .int 95, .int nd.1, .int nd.2.2.1, .int nd.2.1, .long nd.2.2.2, .int t.2.1, .int t.2.2.1, .int t.2.2.2.1, .int t.2.2.2.2.1, .int t.2.2.2.2.2, .ref (b 7), .long q, .int sg, .ref (b 8), .ref (b 9), .ref (b 10), .int ((ro ob.2.2 ob).2.2.2.1), .int ((ro ob.2.2 ob).2.2.2.2)]) (C := RX5) (T := TX5) (N := 27) hx hb htb inX5 hown hK hP 0 rfl rfl 4 (by decide) (htb _ kF_X5_16) (fun _ h9 => h9) rfl dX5_set_61 ?_
      refine lv_iload hx hb dX5_set_64 (lv_at hl 3 rfl) ?_
      refine va_iald (i := nI e) hx hb hK hP 3 0 rfl rfl (vp_in_nI (by omega) (by decide)) dX5_set_66 ?_
      refine zb_ti (y := nI (xZ e)) (by rw [nI_clamp (by omega)]) ?_
      refine lv_icmp_ge (tgt := 102) hx hb dX5_set_67 (by decide) (fun hno => absurd hno (nI_ge (a := k) (b := xZ e) hk1_lp (by omega))) (fun _ => ?_)
      refine lv_aload_n hx hb dX5_set_70 rfl (lv_at hl 0 rfl) ?_
      refine va_get (D := D) (ci := 5) (v := .ref (b 6)) (fs := [.int 0, .int N, .ref (b 1), .ref (b 2), .ref (b 3), .ref (b 4), .ref (b 5), .ref (b 6), .int 22, .int 95, .int nd.1, .int nd.2.2.1, .int nd.2.1, .long nd.2.2.2, .int t.2.1, .int t.2.2.1, .int t.2.2.2.1, .int t.2.2.2.2.1, .int t.2.2.2.2.2, .ref (b 7), .long q, .int sg, .ref (b 8), .ref (b 9), .ref (b 10), .int ((ro ob.2.2 ob).2.2.2.1), .int ((ro ob.2.2 ob).2.2.2.2)]) (C := RX5) (T := TX5) (N := 27) hx hb htb inX5 hown hK hP 0 rfl rfl 7 (by decide) (htb _ kF_X5_25) (fun _ h9 => h9) rfl dX5_set_71 ?_
      refine lv_aload_n hx hb dX5_set_74 rfl (lv_at hl 0 rfl) ?_
      refine va_get (D := D) (ci := 5) (v := .ref (b 5)) (fs := [.int 0, .int N, .ref (b 1), .ref (b 2), .ref (b 3), .ref (b 4), .ref (b 5), .ref (b 6), .int 22, .int 95, .int nd.1, .int nd.2.2.1, .int nd.2.1, .long nd.2.2.2, .int t.2.1, .int t.2.2.1, .int t.2.2.2.1, .int t.2.2.2.2.1, .int t.2.2.2.2.2, .ref (b 7), .long q, .int sg, .ref (b 8), .ref (b 9), .ref (b 10), .int ((ro ob.2.2 ob).2.2.2.1), .int ((ro ob.2.2 ob).2.2.2.2)]) (C := RX5) (T := TX5) (N := 27) hx hb htb inX5 hown hK hP 0 rfl rfl 6 (by decide) (htb _ kF_X5_22) (fun _ h9 => h9) rfl dX5_set_75 ?_
      refine lv_iload hx hb dX5_set_78 (lv_at hl 3 rfl) ?_
      refine va_iald (i := nI e) hx hb hK hP 5 0 rfl rfl (vp_in_nI (by omega) (by decide)) dX5_set_80 ?_
      refine zb_ti (y := nI (xP e)) (by rw [nI_clamp (by omega)]) ?_
      refine lv_iload hx hb dX5_set_81 (lv_at hl 4 rfl) ?_
      refine lv_iadd hx hb dX5_set_83 ?_
      refine zb_ti (nI_add (xP e) (k)) ?_
      refine lv_iload_n hx hb dX5_set_84 rfl (lv_at hl 1 rfl) ?_
      refine lv_iload hx hb dX5_set_85 (lv_at hl 2 rfl) ?_
      refine zb_cl (va_runS (As := [.int (nI lo), .int (nI hg)]) (rest := [.int (nI ((xP e) + (k))), .ref (b 6)]) ⟨hx, hb, hml, hown, htb⟩ (r_both l D b cA cJ N (pF f (xP e) (k) (lo + 4294967296 * hg) 0) (ro ob.2.2 ob) t nd q sg 0 lo hg hlo hhg) (va_cwS 2 htb (wb_S kM_X5_192 kZ_X5_both kN_X5 kD_X5_both) rfl rfl rfl (by decide +kernel) ⟨Nat.le_of_ble_eq_true rfl, Nat.le_of_ble_eq_true rfl⟩) (zp_S hP hK hSt hS hnw) rfl rfl hl.1 rfl (lv_room (Nat.le_of_ble_eq_true rfl)) dX5_set_87 ⟨Nat.le_of_ble_eq_true rfl, Nat.le_of_ble_eq_true rfl⟩) ?_
      refine lv_iload hx hb dX5_set_90 (lv_at hl 4 rfl) ?_
      refine zb_ci (va_runS (As := [.long (lN (lo + 4294967296 * hg)), .int (nI (k))]) (rest := [.int (nI ((xP e) + (k))), .ref (b 6)]) ⟨hx, hb, hml, hown, htb⟩ (r_byteOf l D b cA cJ N (pF f (xP e) (k) (lo + 4294967296 * hg) 0) (ro ob.2.2 ob) t nd q sg 0 (lo + 4294967296 * hg) (k) (by omega)) (va_cwS 2 htb (wb_S kM_X5_119 kZ_X5_byteOf kN_X5 kD_X5_byteOf) rfl rfl rfl (by decide +kernel) ⟨Nat.le_of_ble_eq_true rfl, Nat.le_of_ble_eq_true rfl⟩) (zp_S hP hK hSt hS hnw) rfl rfl hl.1 rfl (lv_room (Nat.le_of_ble_eq_true rfl)) dX5_set_92 ⟨Nat.le_of_ble_eq_true rfl, Nat.le_of_ble_eq_true rfl⟩) ?_
      refine zb_ti (y := nI (bN (lo + 4294967296 * hg) (0 + k))) (by rw [Nat.zero_add]) ?_
      refine va_iast (i := nI ((xP e) + (k))) (x := nI (bN (lo + 4294967296 * hg) (0 + k))) hx hb hK hP hD hS 6 0 rfl rfl (vp_in_nI (by omega) (by decide)) dX5_set_95 (fun H locs hP hD hS => ?_)
      rw [nI_clamp (by omega)] at hP hD
      have hP : va_P D vwCl (rw0 b cA cJ N (upd (pF f (xP e) (k) (lo + 4294967296 * hg) 0) ((xP e) + (k)) (nI (bN (lo + 4294967296 * hg) (0 + k)))) (ro ob.2.2 ob) t nd q sg 0) H := hP
      have hD : va_D A (rw0 b cA cJ N (upd (pF f (xP e) (k) (lo + 4294967296 * hg) 0) ((xP e) + (k)) (nI (bN (lo + 4294967296 * hg) (0 + k)))) (ro ob.2.2 ob) t nd q sg 0) := hD
      rw [pF_up] at hP hD
      have hP : va_P D vwCl (rw0 b cA cJ N (pF f (xP e) (k + 1) (lo + 4294967296 * hg) 0) (ro ob.2.2 ob) t nd q sg 0) H := hP
      have hD : va_D A (rw0 b cA cJ N (pF f (xP e) (k + 1) (lo + 4294967296 * hg) 0) (ro ob.2.2 ob) t nd q sg 0) := hD
      refine lv_iinc (k := 4) (v := nI ((k) + 1)) hx hb dX5_set_96 hl rfl (nI_1 (k)) (by decide) rfl (fun ls hl => ?_)
      have hl : lv_has ls 7 [(6, .int (nI ((k) + 1))), (0, .ref (b 0)), (3, .int (nI lo)), (4, .int (nI hg)), (5, .int (nI e))] := hl
      refine lv_goto (tgt := 58) hx hb dX5_set_99 (by decide) ?_
      exact ih_lp (k + 1) ls _ _ hP hD hS (by omega) (lv_sub hl [1, 2, 3, 4, 0] rfl)
  exact lp (xZ e - 0) (0) ls _ _ hP hD hS (by omega) (lv_sub hl [2, 5, 6, 1, 0] rfl)
set_option maxHeartbeats 4000000 in
set_option maxRecDepth 100000 in
theorem r_setNo (l : Launch) (D : va_G) (b : Nat → Nat) (cA cJ : ClassId) (N : Int32) (f : Nat → Int32) (z : Int32) (ob : OB) (t : RT) (nd : ND) (q : Int64) (sg th : Int32) (sz : Nat) (i sb lo hg : Int32) (hbad : fd i sb = none ∨ ∃ e, fd i sb = some e ∧ (e < 14 ∨ 8 < xZ e)) : Met l yX5_set (wX5_set :: wb) ({ frames := 4, cells := 0, slots := 0, locals := 90 } : Room) (va_Pc [.ref (b 0), .int i, .int sb, .int lo, .int hg] (zPre D [(cA, .int), (cJ, .long)] (rw0 b cA cJ N f (ro z ob) t nd q sg th) sz)) (zb_Vi 0 D vwCl (rw0 b cA cJ N f (ro z ob) t nd q sg 1) (va_A (rw0 b cA cJ N f (ro z ob) t nd q sg th) sz)) 0 0 (va_A (rw0 b cA cJ N f (ro z ob) t nd q sg th) sz) := by
  refine Met.ofW (cc := cX5_set) (maxL := 7) (ret := (some .int)) (by decide) rfl ?_
  intro p ev s m args below meth c s₁ B hml hv
  obtain ⟨rfl, hsz, hP, hK, hD0, hSt, hnw⟩ := hv
  have hx := B.exec
  have hb := B.bytes
  have hr := B.returns
  have hts := atoms_spec (ws := wX5_set :: wb) B.pre
  have htb : ∀ w ∈ wb, w.before ([.ref (b 0), .int i, .int sb, .int lo, .int hg]).toArray s = true := fun w h => hts w (List.mem_cons_of_mem _ h)
  have hown : s.vm.findClass RX5 = some m.cls := findClass_of_methodNamed B.named
  have hlocks := B.notSynchronized
  subst hsz
  have hD := hD0.self (sz := s.heap.size)
  clear hD0
  generalize hAe : va_A (rw0 b cA cJ N f (ro z ob) t nd q sg th) s.heap.size = A at hD hSt ⊢
  have hA : ∀ q : Nat, s.heap.size ≤ q → A q := fun q h => by rw [← hAe]; exact Or.inr h
  have hS : va_S A s.heap s.heap [] := va_S.rf
  obtain ⟨⟨tt, ff, hZT, hTT, hZF, hTF⟩, hXS⟩ := id hSt
  have hl := lv_entry ([.ref (b 0), .int i, .int sb, .int lo, .int hg]) (n := 7) (Nat.le_of_ble_eq_true rfl)
  rw [lg_entry_eq]
  generalize (lg_sl ([.ref (b 0), .int i, .int sb, .int lo, .int hg]) ++ List.replicate (7 - (lg_sl ([.ref (b 0), .int i, .int sb, .int lo, .int hg])).length) Slot.unset).toArray = ls at hl ⊢
  have hl : lv_has ls 7 [(0, .ref (b 0)), (1, .int i), (2, .int sb), (3, .int lo), (4, .int hg)] := hl
  refine zb_abs (fun Q hQ => ?_)
  refine lv_aload_n hx hb dX5_set_0 rfl (lv_at hl 0 rfl) ?_
  refine lv_iload_n hx hb dX5_set_1 rfl (lv_at hl 1 rfl) ?_
  refine lv_iload_n hx hb dX5_set_2 rfl (lv_at hl 2 rfl) ?_
  refine zb_ci (va_runV (As := [.int i, .int sb]) (rest := []) ⟨hx, hb, hml, hown, htb⟩ (r_find l D b cA cJ N f (ro z ob) t nd q sg th i sb) (cwV 2 htb (wb_V kM_X5_156 kI_X5_find kS_X5_find kN_X5 kD_X5_find) rfl rfl rfl (by decide +kernel) ⟨Nat.le_of_ble_eq_true rfl, Nat.le_of_ble_eq_true rfl⟩) (zp_V 0 rfl rfl hP hK hSt hS hnw) rfl rfl hl.1 rfl (lv_room (Nat.le_of_ble_eq_true rfl)) dX5_set_3 ⟨Nat.le_of_ble_eq_true rfl, Nat.le_of_ble_eq_true rfl⟩) ?_
  cases hfd : fd i sb with
  | none =>
    by_cases hc1 : hi i = true
    · refine zb_ti (y := (-1)) (by rw [rF_none hfd, if_pos hc1]) ?_
      refine lv_istore hx hb dX5_set_6 hl (by decide) rfl (fun ls hl => ?_)
      have hl : lv_has ls 7 [(5, .int (-1)), (0, .ref (b 0)), (1, .int i), (2, .int sb), (3, .int lo), (4, .int hg)] := hl
      refine lv_aload_n hx hb dX5_set_8 rfl (lv_at hl 1 rfl) ?_
      refine lv_iload hx hb dX5_set_9 (lv_at hl 0 rfl) ?_
      refine lv_if_lt (tgt := 33) hx hb dX5_set_11 (by decide) (fun _ => ?_) (fun hno => absurd (by decide) hno)
      refine lv_iconst (v := 1) hx hb dX5_set_33 (by decide) ?_
      refine lv_goto (tgt := 38) hx hb dX5_set_34 (by decide) ?_
      refine va_put (D := D) (ci := 5) (v := .int 1) (fs := [.int th, .int N, .ref (b 1), .ref (b 2), .ref (b 3), .ref (b 4), .ref (b 5), .ref (b 6), .int 22, .int 95, .int nd.1, .int nd.2.2.1, .int nd.2.1, .long nd.2.2.2, .int t.2.1, .int t.2.2.1, .int t.2.2.2.1, .int t.2.2.2.2.1, .int t.2.2.2.2.2, .ref (b 7), .long q, .int sg, .ref (b 8), .ref (b 9), .ref (b 10), .int ((ro z ob).2.2.2.1), .int ((ro z ob).2.2.2.2)]) (ty := .int) (C := RX5) (T := TX5) (N := 27) hx hb htb inX5 tyX5 tyX5_ok nmX5 hown hK hP hD hS 0 rfl rfl 0 (by decide) (htb _ kF_X5_67) (fun _ h9 => h9) rfl (by decide +kernel) rfl rfl (Nat.le_of_ble_eq_true rfl) dX5_set_38 (fun H locs hP hD hS => ?_)
      have hP : va_P D vwCl (rw0 b cA cJ N f (ro z ob) t nd q sg 1) H := hP
      have hD : va_D A (rw0 b cA cJ N f (ro z ob) t nd q sg 1) := hD
      refine lv_aload_n hx hb dX5_set_41 rfl (lv_at hl 1 rfl) ?_
      refine va_get (D := D) (ci := 5) (v := .int 1) (fs := [.int 1, .int N, .ref (b 1), .ref (b 2), .ref (b 3), .ref (b 4), .ref (b 5), .ref (b 6), .int 22, .int 95, .int nd.1, .int nd.2.2.1, .int nd.2.1, .long nd.2.2.2, .int t.2.1, .int t.2.2.1, .int t.2.2.2.1, .int t.2.2.2.2.1, .int t.2.2.2.2.2, .ref (b 7), .long q, .int sg, .ref (b 8), .ref (b 9), .ref (b 10), .int ((ro z ob).2.2.2.1), .int ((ro z ob).2.2.2.2)]) (C := RX5) (T := TX5) (N := 27) hx hb htb inX5 hown hK hP 0 rfl rfl 0 (by decide) (htb _ kF_X5_67) (fun _ h9 => h9) rfl dX5_set_42 ?_
      refine lv_if_le (tgt := 50) hx hb dX5_set_45 (by decide) (fun hno => absurd hno (by decide)) (fun _ => ?_)
      refine lv_iconst (v := 0) hx hb dX5_set_48 (by decide) ?_
      rw [hQ]
      have hw9 : (rw0 b cA cJ N f (ro z ob) t nd q sg 1) = (rw0 b cA cJ N f (ro z ob) t nd q sg 1) := rfl
      exact W.iret (v := 0) hx hb hr (fun t9 ht hW => ⟨congrArg (fun z => Outcome.returned (some (Value.int z))) (rfl), by rw [ht, ← hw9]; exact hP, by rw [← hw9]; exact hD, hS.F ht⟩) hS.2.2 dX5_set_49
    · refine zb_ti (y := (-2)) (by rw [rF_none hfd, if_neg hc1]) ?_
      refine lv_istore hx hb dX5_set_6 hl (by decide) rfl (fun ls hl => ?_)
      have hl : lv_has ls 7 [(5, .int (-2)), (0, .ref (b 0)), (1, .int i), (2, .int sb), (3, .int lo), (4, .int hg)] := hl
      refine lv_aload_n hx hb dX5_set_8 rfl (lv_at hl 1 rfl) ?_
      refine lv_iload hx hb dX5_set_9 (lv_at hl 0 rfl) ?_
      refine lv_if_lt (tgt := 33) hx hb dX5_set_11 (by decide) (fun _ => ?_) (fun hno => absurd (by decide) hno)
      refine lv_iconst (v := 1) hx hb dX5_set_33 (by decide) ?_
      refine lv_goto (tgt := 38) hx hb dX5_set_34 (by decide) ?_
      refine va_put (D := D) (ci := 5) (v := .int 1) (fs := [.int th, .int N, .ref (b 1), .ref (b 2), .ref (b 3), .ref (b 4), .ref (b 5), .ref (b 6), .int 22, .int 95, .int nd.1, .int nd.2.2.1, .int nd.2.1, .long nd.2.2.2, .int t.2.1, .int t.2.2.1, .int t.2.2.2.1, .int t.2.2.2.2.1, .int t.2.2.2.2.2, .ref (b 7), .long q, .int sg, .ref (b 8), .ref (b 9), .ref (b 10), .int ((ro z ob).2.2.2.1), .int ((ro z ob).2.2.2.2)]) (ty := .int) (C := RX5) (T := TX5) (N := 27) hx hb htb inX5 tyX5 tyX5_ok nmX5 hown hK hP hD hS 0 rfl rfl 0 (by decide) (htb _ kF_X5_67) (fun _ h9 => h9) rfl (by decide +kernel) rfl rfl (Nat.le_of_ble_eq_true rfl) dX5_set_38 (fun H locs hP hD hS => ?_)
      have hP : va_P D vwCl (rw0 b cA cJ N f (ro z ob) t nd q sg 1) H := hP
      have hD : va_D A (rw0 b cA cJ N f (ro z ob) t nd q sg 1) := hD
      refine lv_aload_n hx hb dX5_set_41 rfl (lv_at hl 1 rfl) ?_
      refine va_get (D := D) (ci := 5) (v := .int 1) (fs := [.int 1, .int N, .ref (b 1), .ref (b 2), .ref (b 3), .ref (b 4), .ref (b 5), .ref (b 6), .int 22, .int 95, .int nd.1, .int nd.2.2.1, .int nd.2.1, .long nd.2.2.2, .int t.2.1, .int t.2.2.1, .int t.2.2.2.1, .int t.2.2.2.2.1, .int t.2.2.2.2.2, .ref (b 7), .long q, .int sg, .ref (b 8), .ref (b 9), .ref (b 10), .int ((ro z ob).2.2.2.1), .int ((ro z ob).2.2.2.2)]) (C := RX5) (T := TX5) (N := 27) hx hb htb inX5 hown hK hP 0 rfl rfl 0 (by decide) (htb _ kF_X5_67) (fun _ h9 => h9) rfl dX5_set_42 ?_
      refine lv_if_le (tgt := 50) hx hb dX5_set_45 (by decide) (fun hno => absurd hno (by decide)) (fun _ => ?_)
      refine lv_iconst (v := 0) hx hb dX5_set_48 (by decide) ?_
      rw [hQ]
      have hw9 : (rw0 b cA cJ N f (ro z ob) t nd q sg 1) = (rw0 b cA cJ N f (ro z ob) t nd q sg 1) := rfl
      exact W.iret (v := 0) hx hb hr (fun t9 ht hW => ⟨congrArg (fun z => Outcome.returned (some (Value.int z))) (rfl), by rw [ht, ← hw9]; exact hP, by rw [← hw9]; exact hD, hS.F ht⟩) hS.2.2 dX5_set_49
  | some e =>
    refine zb_ti (y := nI e) (rF_some hfd) ?_
    have h22 := (fd_lt hfd).1
    have hft := x_fit e h22
    refine lv_istore hx hb dX5_set_6 hl (by decide) rfl (fun ls hl => ?_)
    have hl : lv_has ls 7 [(5, .int (nI e)), (0, .ref (b 0)), (1, .int i), (2, .int sb), (3, .int lo), (4, .int hg)] := hl
    refine lv_aload_n hx hb dX5_set_8 rfl (lv_at hl 1 rfl) ?_
    refine lv_iload hx hb dX5_set_9 (lv_at hl 0 rfl) ?_
    refine lv_if_lt (tgt := 33) hx hb dX5_set_11 (by decide) (fun hno => absurd hno (ni_nlt0 h22)) (fun _ => ?_)
    refine lv_iload_n hx hb dX5_set_14 rfl (lv_at hl 2 rfl) ?_
    refine lv_sipush (v := 8192) hx hb dX5_set_15 (by decide) ?_
    refine lv_icmp_lt (tgt := 33) hx hb dX5_set_18 (by decide) (fun hc2 => ?_) (fun hc2 => ?_)
    · refine lv_iconst (v := 1) hx hb dX5_set_33 (by decide) ?_
      refine lv_goto (tgt := 38) hx hb dX5_set_34 (by decide) ?_
      refine va_put (D := D) (ci := 5) (v := .int 1) (fs := [.int th, .int N, .ref (b 1), .ref (b 2), .ref (b 3), .ref (b 4), .ref (b 5), .ref (b 6), .int 22, .int 95, .int nd.1, .int nd.2.2.1, .int nd.2.1, .long nd.2.2.2, .int t.2.1, .int t.2.2.1, .int t.2.2.2.1, .int t.2.2.2.2.1, .int t.2.2.2.2.2, .ref (b 7), .long q, .int sg, .ref (b 8), .ref (b 9), .ref (b 10), .int ((ro z ob).2.2.2.1), .int ((ro z ob).2.2.2.2)]) (ty := .int) (C := RX5) (T := TX5) (N := 27) hx hb htb inX5 tyX5 tyX5_ok nmX5 hown hK hP hD hS 0 rfl rfl 0 (by decide) (htb _ kF_X5_67) (fun _ h9 => h9) rfl (by decide +kernel) rfl rfl (Nat.le_of_ble_eq_true rfl) dX5_set_38 (fun H locs hP hD hS => ?_)
      have hP : va_P D vwCl (rw0 b cA cJ N f (ro z ob) t nd q sg 1) H := hP
      have hD : va_D A (rw0 b cA cJ N f (ro z ob) t nd q sg 1) := hD
      refine lv_aload_n hx hb dX5_set_41 rfl (lv_at hl 1 rfl) ?_
      refine va_get (D := D) (ci := 5) (v := .int 1) (fs := [.int 1, .int N, .ref (b 1), .ref (b 2), .ref (b 3), .ref (b 4), .ref (b 5), .ref (b 6), .int 22, .int 95, .int nd.1, .int nd.2.2.1, .int nd.2.1, .long nd.2.2.2, .int t.2.1, .int t.2.2.1, .int t.2.2.2.1, .int t.2.2.2.2.1, .int t.2.2.2.2.2, .ref (b 7), .long q, .int sg, .ref (b 8), .ref (b 9), .ref (b 10), .int ((ro z ob).2.2.2.1), .int ((ro z ob).2.2.2.2)]) (C := RX5) (T := TX5) (N := 27) hx hb htb inX5 hown hK hP 0 rfl rfl 0 (by decide) (htb _ kF_X5_67) (fun _ h9 => h9) rfl dX5_set_42 ?_
      refine lv_if_le (tgt := 50) hx hb dX5_set_45 (by decide) (fun hno => absurd hno (by decide)) (fun _ => ?_)
      refine lv_iconst (v := 0) hx hb dX5_set_48 (by decide) ?_
      rw [hQ]
      have hw9 : (rw0 b cA cJ N f (ro z ob) t nd q sg 1) = (rw0 b cA cJ N f (ro z ob) t nd q sg 1) := rfl
      exact W.iret (v := 0) hx hb hr (fun t9 ht hW => ⟨congrArg (fun z => Outcome.returned (some (Value.int z))) (rfl), by rw [ht, ← hw9]; exact hP, by rw [← hw9]; exact hD, hS.F ht⟩) hS.2.2 dX5_set_49
    refine lv_aload_n hx hb dX5_set_21 rfl (lv_at hl 1 rfl) ?_
    refine va_get (D := D) (ci := 5) (v := .ref (b 3)) (fs := [.int th, .int N, .ref (b 1), .ref (b 2), .ref (b 3), .ref (b 4), .ref (b 5), .ref (b 6), .int 22, .int 95, .int nd.1, .int nd.2.2.1, .int nd.2.1, .long nd.2.2.2, .int t.2.1, .int t.2.2.1, .int t.2.2.2.1, .int t.2.2.2.2.1, .int t.2.2.2.2.2, .ref (b 7), .long q, .int sg, .ref (b 8), .ref (b 9), .ref (b 10), .int ((ro z ob).2.2.2.1), .int ((ro z ob).2.2.2.2)]) (C := RX5) (T := TX5) (N := 27) hx hb htb inX5 hown hK hP 0 rfl rfl 4 (by decide) (htb _ kF_X5_16) (fun _ h9 => h9) rfl dX5_set_22 ?_
    refine lv_iload hx hb dX5_set_25 (lv_at hl 0 rfl) ?_
    refine va_iald (i := nI e) hx hb hK hP 3 0 rfl rfl (vp_in_nI (by omega) (by decide)) dX5_set_27 ?_
    refine zb_ti (y := nI (xZ e)) (by rw [nI_clamp (by omega)]) ?_
    refine lv_bipush (v := 8) hx hb dX5_set_28 (by decide) ?_
    refine lv_icmp_le (tgt := 37) hx hb dX5_set_30 (by decide) (fun hc3 => ?_) (fun hc3 => ?_)
    · exact absurd hbad (by rw [hfd]; rintro (h | ⟨e2, h, h2⟩); exact nomatch h; cases h; rcases h2 with h2 | h2; exact hc2 (by rw [← (fd_lt hfd).2.1]; exact nI_lt (b := 8192) ((x14 e h22).mp h2) (by decide)); have h3 : xZ e ≤ 8 := (nI_leI (b := 8) (by omega) (by decide)).mp hc3; omega)
    refine lv_iconst (v := 1) hx hb dX5_set_33 (by decide) ?_
    refine lv_goto (tgt := 38) hx hb dX5_set_34 (by decide) ?_
    refine va_put (D := D) (ci := 5) (v := .int 1) (fs := [.int th, .int N, .ref (b 1), .ref (b 2), .ref (b 3), .ref (b 4), .ref (b 5), .ref (b 6), .int 22, .int 95, .int nd.1, .int nd.2.2.1, .int nd.2.1, .long nd.2.2.2, .int t.2.1, .int t.2.2.1, .int t.2.2.2.1, .int t.2.2.2.2.1, .int t.2.2.2.2.2, .ref (b 7), .long q, .int sg, .ref (b 8), .ref (b 9), .ref (b 10), .int ((ro z ob).2.2.2.1), .int ((ro z ob).2.2.2.2)]) (ty := .int) (C := RX5) (T := TX5) (N := 27) hx hb htb inX5 tyX5 tyX5_ok nmX5 hown hK hP hD hS 0 rfl rfl 0 (by decide) (htb _ kF_X5_67) (fun _ h9 => h9) rfl (by decide +kernel) rfl rfl (Nat.le_of_ble_eq_true rfl) dX5_set_38 (fun H locs hP hD hS => ?_)
    have hP : va_P D vwCl (rw0 b cA cJ N f (ro z ob) t nd q sg 1) H := hP
    have hD : va_D A (rw0 b cA cJ N f (ro z ob) t nd q sg 1) := hD
    refine lv_aload_n hx hb dX5_set_41 rfl (lv_at hl 1 rfl) ?_
    refine va_get (D := D) (ci := 5) (v := .int 1) (fs := [.int 1, .int N, .ref (b 1), .ref (b 2), .ref (b 3), .ref (b 4), .ref (b 5), .ref (b 6), .int 22, .int 95, .int nd.1, .int nd.2.2.1, .int nd.2.1, .long nd.2.2.2, .int t.2.1, .int t.2.2.1, .int t.2.2.2.1, .int t.2.2.2.2.1, .int t.2.2.2.2.2, .ref (b 7), .long q, .int sg, .ref (b 8), .ref (b 9), .ref (b 10), .int ((ro z ob).2.2.2.1), .int ((ro z ob).2.2.2.2)]) (C := RX5) (T := TX5) (N := 27) hx hb htb inX5 hown hK hP 0 rfl rfl 0 (by decide) (htb _ kF_X5_67) (fun _ h9 => h9) rfl dX5_set_42 ?_
    refine lv_if_le (tgt := 50) hx hb dX5_set_45 (by decide) (fun hno => absurd hno (by decide)) (fun _ => ?_)
    refine lv_iconst (v := 0) hx hb dX5_set_48 (by decide) ?_
    rw [hQ]
    have hw9 : (rw0 b cA cJ N f (ro z ob) t nd q sg 1) = (rw0 b cA cJ N f (ro z ob) t nd q sg 1) := rfl
    exact W.iret (v := 0) hx hb hr (fun t9 ht hW => ⟨congrArg (fun z => Outcome.returned (some (Value.int z))) (rfl), by rw [ht, ← hw9]; exact hP, by rw [← hw9]; exact hD, hS.F ht⟩) hS.2.2 dX5_set_49
set_option maxHeartbeats 4000000 in
set_option maxRecDepth 100000 in
theorem r_value (l : Launch) (D : va_G) (b : Nat → Nat) (cA cJ : ClassId) (N : Int32) (f : Nat → Int32) (z : Int32) (ob : OB) (t : RT) (nd : ND) (q : Int64) (sg th : Int32) (sz : Nat) (i sb : Int32) (k e : Nat) (hfd : fd i sb = some e) (hk : k < xZ e) : Met l yX5_value (wX5_value :: wb) ({ frames := 1, cells := 0, slots := 0, locals := 24 } : Room) (va_Pc [.ref (b 0), .int i, .int sb, .int (nI k)] (zPre D [(cA, .int), (cJ, .long)] (rw0 b cA cJ N f (ro z ob) t nd q sg th) sz)) (zb_Vi (f (xP e + k)) D vwCl (rw0 b cA cJ N f (ro z ob) t nd q sg 0) (va_A (rw0 b cA cJ N f (ro z ob) t nd q sg th) sz)) 0 0 (va_A (rw0 b cA cJ N f (ro z ob) t nd q sg th) sz) := by
  refine Met.ofW (cc := cX5_value) (maxL := 5) (ret := (some .int)) (by decide) rfl ?_
  intro p ev s m args below meth c s₁ B hml hv
  obtain ⟨rfl, hsz, hP, hK, hD0, hSt, hnw⟩ := hv
  have hx := B.exec
  have hb := B.bytes
  have hr := B.returns
  have hts := atoms_spec (ws := wX5_value :: wb) B.pre
  have htb : ∀ w ∈ wb, w.before ([.ref (b 0), .int i, .int sb, .int (nI k)]).toArray s = true := fun w h => hts w (List.mem_cons_of_mem _ h)
  have hown : s.vm.findClass RX5 = some m.cls := findClass_of_methodNamed B.named
  have hlocks := B.notSynchronized
  subst hsz
  have hD := hD0.self (sz := s.heap.size)
  clear hD0
  generalize hAe : va_A (rw0 b cA cJ N f (ro z ob) t nd q sg th) s.heap.size = A at hD hSt ⊢
  have hA : ∀ q : Nat, s.heap.size ≤ q → A q := fun q h => by rw [← hAe]; exact Or.inr h
  have hS : va_S A s.heap s.heap [] := va_S.rf
  obtain ⟨⟨tt, ff, hZT, hTT, hZF, hTF⟩, hXS⟩ := id hSt
  have hl := lv_entry ([.ref (b 0), .int i, .int sb, .int (nI k)]) (n := 5) (Nat.le_of_ble_eq_true rfl)
  rw [lg_entry_eq]
  generalize (lg_sl ([.ref (b 0), .int i, .int sb, .int (nI k)]) ++ List.replicate (5 - (lg_sl ([.ref (b 0), .int i, .int sb, .int (nI k)])).length) Slot.unset).toArray = ls at hl ⊢
  have hl : lv_has ls 5 [(0, .ref (b 0)), (1, .int i), (2, .int sb), (3, .int (nI k))] := hl
  refine zb_abs (fun Q hQ => ?_)
  refine lv_aload_n hx hb dX5_value_0 rfl (lv_at hl 0 rfl) ?_
  refine lv_iload_n hx hb dX5_value_1 rfl (lv_at hl 1 rfl) ?_
  refine lv_iload_n hx hb dX5_value_2 rfl (lv_at hl 2 rfl) ?_
  refine zb_ci (va_runV (As := [.int i, .int sb]) (rest := []) ⟨hx, hb, hml, hown, htb⟩ (r_find l D b cA cJ N f (ro z ob) t nd q sg th i sb) (cwV 2 htb (wb_V kM_X5_156 kI_X5_find kS_X5_find kN_X5 kD_X5_find) rfl rfl rfl (by decide +kernel) ⟨Nat.le_of_ble_eq_true rfl, Nat.le_of_ble_eq_true rfl⟩) (zp_V 0 rfl rfl hP hK hSt hS hnw) rfl rfl hl.1 rfl (lv_room (Nat.le_of_ble_eq_true rfl)) dX5_value_3 ⟨Nat.le_of_ble_eq_true rfl, Nat.le_of_ble_eq_true rfl⟩) ?_
  refine zb_ti (y := nI e) (rF_some hfd) ?_
  have h22 := (fd_lt hfd).1
  have hft := x_fit e h22
  refine lv_istore hx hb dX5_value_6 hl (by decide) rfl (fun ls hl => ?_)
  have hl : lv_has ls 5 [(4, .int (nI e)), (0, .ref (b 0)), (1, .int i), (2, .int sb), (3, .int (nI k))] := hl
  refine lv_aload_n hx hb dX5_value_8 rfl (lv_at hl 1 rfl) ?_
  refine lv_iload hx hb dX5_value_9 (lv_at hl 0 rfl) ?_
  refine lv_if_lt (tgt := 29) hx hb dX5_value_11 (by decide) (fun hno => absurd hno (ni_nlt0 h22)) (fun _ => ?_)
  refine lv_iload_n hx hb dX5_value_14 rfl (lv_at hl 4 rfl) ?_
  refine lv_if_lt (tgt := 29) hx hb dX5_value_15 (by decide) (fun hno => absurd hno (nI_pos (by omega))) (fun _ => ?_)
  refine lv_iload_n hx hb dX5_value_18 rfl (lv_at hl 4 rfl) ?_
  refine lv_aload_n hx hb dX5_value_19 rfl (lv_at hl 1 rfl) ?_
  refine va_get (D := D) (ci := 5) (v := .ref (b 3)) (fs := [.int th, .int N, .ref (b 1), .ref (b 2), .ref (b 3), .ref (b 4), .ref (b 5), .ref (b 6), .int 22, .int 95, .int nd.1, .int nd.2.2.1, .int nd.2.1, .long nd.2.2.2, .int t.2.1, .int t.2.2.1, .int t.2.2.2.1, .int t.2.2.2.2.1, .int t.2.2.2.2.2, .ref (b 7), .long q, .int sg, .ref (b 8), .ref (b 9), .ref (b 10), .int ((ro z ob).2.2.2.1), .int ((ro z ob).2.2.2.2)]) (C := RX5) (T := TX5) (N := 27) hx hb htb inX5 hown hK hP 0 rfl rfl 4 (by decide) (htb _ kF_X5_16) (fun _ h9 => h9) rfl dX5_value_20 ?_
  refine lv_iload hx hb dX5_value_23 (lv_at hl 0 rfl) ?_
  refine va_iald (i := nI e) hx hb hK hP 3 0 rfl rfl (vp_in_nI (by omega) (by decide)) dX5_value_25 ?_
  refine zb_ti (y := nI (xZ e)) (by rw [nI_clamp (by omega)]) ?_
  refine lv_icmp_lt (tgt := 33) hx hb dX5_value_26 (by decide) (fun _ => ?_) (fun hno => absurd (nI_lt hk (by omega)) hno)
  refine lv_iconst (v := 0) hx hb dX5_value_33 (by decide) ?_
  refine va_put (D := D) (ci := 5) (v := .int 0) (fs := [.int th, .int N, .ref (b 1), .ref (b 2), .ref (b 3), .ref (b 4), .ref (b 5), .ref (b 6), .int 22, .int 95, .int nd.1, .int nd.2.2.1, .int nd.2.1, .long nd.2.2.2, .int t.2.1, .int t.2.2.1, .int t.2.2.2.1, .int t.2.2.2.2.1, .int t.2.2.2.2.2, .ref (b 7), .long q, .int sg, .ref (b 8), .ref (b 9), .ref (b 10), .int ((ro z ob).2.2.2.1), .int ((ro z ob).2.2.2.2)]) (ty := .int) (C := RX5) (T := TX5) (N := 27) hx hb htb inX5 tyX5 tyX5_ok nmX5 hown hK hP hD hS 0 rfl rfl 0 (by decide) (htb _ kF_X5_67) (fun _ h9 => h9) rfl (by decide +kernel) rfl rfl (Nat.le_of_ble_eq_true rfl) dX5_value_34 (fun H locs hP hD hS => ?_)
  have hP : va_P D vwCl (rw0 b cA cJ N f (ro z ob) t nd q sg 0) H := hP
  have hD : va_D A (rw0 b cA cJ N f (ro z ob) t nd q sg 0) := hD
  refine lv_aload_n hx hb dX5_value_37 rfl (lv_at hl 1 rfl) ?_
  refine va_get (D := D) (ci := 5) (v := .int 0) (fs := [.int 0, .int N, .ref (b 1), .ref (b 2), .ref (b 3), .ref (b 4), .ref (b 5), .ref (b 6), .int 22, .int 95, .int nd.1, .int nd.2.2.1, .int nd.2.1, .long nd.2.2.2, .int t.2.1, .int t.2.2.1, .int t.2.2.2.1, .int t.2.2.2.2.1, .int t.2.2.2.2.2, .ref (b 7), .long q, .int sg, .ref (b 8), .ref (b 9), .ref (b 10), .int ((ro z ob).2.2.2.1), .int ((ro z ob).2.2.2.2)]) (C := RX5) (T := TX5) (N := 27) hx hb htb inX5 hown hK hP 0 rfl rfl 0 (by decide) (htb _ kF_X5_67) (fun _ h9 => h9) rfl dX5_value_38 ?_
  refine lv_if_le (tgt := 48) hx hb dX5_value_41 (by decide) (fun _ => ?_) (fun hno => absurd (by decide) hno)
  refine lv_aload_n hx hb dX5_value_48 rfl (lv_at hl 1 rfl) ?_
  refine va_get (D := D) (ci := 5) (v := .ref (b 6)) (fs := [.int 0, .int N, .ref (b 1), .ref (b 2), .ref (b 3), .ref (b 4), .ref (b 5), .ref (b 6), .int 22, .int 95, .int nd.1, .int nd.2.2.1, .int nd.2.1, .long nd.2.2.2, .int t.2.1, .int t.2.2.1, .int t.2.2.2.1, .int t.2.2.2.2.1, .int t.2.2.2.2.2, .ref (b 7), .long q, .int sg, .ref (b 8), .ref (b 9), .ref (b 10), .int ((ro z ob).2.2.2.1), .int ((ro z ob).2.2.2.2)]) (C := RX5) (T := TX5) (N := 27) hx hb htb inX5 hown hK hP 0 rfl rfl 7 (by decide) (htb _ kF_X5_25) (fun _ h9 => h9) rfl dX5_value_49 ?_
  refine lv_aload_n hx hb dX5_value_52 rfl (lv_at hl 1 rfl) ?_
  refine va_get (D := D) (ci := 5) (v := .ref (b 5)) (fs := [.int 0, .int N, .ref (b 1), .ref (b 2), .ref (b 3), .ref (b 4), .ref (b 5), .ref (b 6), .int 22, .int 95, .int nd.1, .int nd.2.2.1, .int nd.2.1, .long nd.2.2.2, .int t.2.1, .int t.2.2.1, .int t.2.2.2.1, .int t.2.2.2.2.1, .int t.2.2.2.2.2, .ref (b 7), .long q, .int sg, .ref (b 8), .ref (b 9), .ref (b 10), .int ((ro z ob).2.2.2.1), .int ((ro z ob).2.2.2.2)]) (C := RX5) (T := TX5) (N := 27) hx hb htb inX5 hown hK hP 0 rfl rfl 6 (by decide) (htb _ kF_X5_22) (fun _ h9 => h9) rfl dX5_value_53 ?_
  refine lv_iload hx hb dX5_value_56 (lv_at hl 0 rfl) ?_
  refine va_iald (i := nI e) hx hb hK hP 5 0 rfl rfl (vp_in_nI (by omega) (by decide)) dX5_value_58 ?_
  refine zb_ti (y := nI (xP e)) (by rw [nI_clamp (by omega)]) ?_
  refine lv_iload_n hx hb dX5_value_59 rfl (lv_at hl 4 rfl) ?_
  refine lv_iadd hx hb dX5_value_60 ?_
  refine zb_ti (nI_add (xP e) k) ?_
  refine va_iald (i := nI ((xP e) + k)) hx hb hK hP 6 0 rfl rfl (vp_in_nI (by omega) (by decide)) dX5_value_61 ?_
  refine zb_ti (y := f ((xP e) + k)) (by rw [nI_clamp (by omega)]) ?_
  rw [hQ]
  have hw9 : (rw0 b cA cJ N f (ro z ob) t nd q sg 0) = (rw0 b cA cJ N f (ro z ob) t nd q sg 0) := rfl
  exact W.iret (v := f ((xP e) + k)) hx hb hr (fun t9 ht hW => ⟨congrArg (fun z => Outcome.returned (some (Value.int z))) (rfl), by rw [ht, ← hw9]; exact hP, by rw [← hw9]; exact hD, hS.F ht⟩) hS.2.2 dX5_value_62
set_option maxHeartbeats 4000000 in
set_option maxRecDepth 100000 in
theorem r_valueNo (l : Launch) (D : va_G) (b : Nat → Nat) (cA cJ : ClassId) (N : Int32) (f : Nat → Int32) (z : Int32) (ob : OB) (t : RT) (nd : ND) (q : Int64) (sg th : Int32) (sz : Nat) (i sb k : Int32) (hbad : fd i sb = none ∨ ∃ e, fd i sb = some e ∧ (k < 0 ∨ nI (xZ e) ≤ k)) : Met l yX5_value (wX5_value :: wb) ({ frames := 1, cells := 0, slots := 0, locals := 24 } : Room) (va_Pc [.ref (b 0), .int i, .int sb, .int k] (zPre D [(cA, .int), (cJ, .long)] (rw0 b cA cJ N f (ro z ob) t nd q sg th) sz)) (zb_Vi 0 D vwCl (rw0 b cA cJ N f (ro z ob) t nd q sg 1) (va_A (rw0 b cA cJ N f (ro z ob) t nd q sg th) sz)) 0 0 (va_A (rw0 b cA cJ N f (ro z ob) t nd q sg th) sz) := by
  refine Met.ofW (cc := cX5_value) (maxL := 5) (ret := (some .int)) (by decide) rfl ?_
  intro p ev s m args below meth c s₁ B hml hv
  obtain ⟨rfl, hsz, hP, hK, hD0, hSt, hnw⟩ := hv
  have hx := B.exec
  have hb := B.bytes
  have hr := B.returns
  have hts := atoms_spec (ws := wX5_value :: wb) B.pre
  have htb : ∀ w ∈ wb, w.before ([.ref (b 0), .int i, .int sb, .int k]).toArray s = true := fun w h => hts w (List.mem_cons_of_mem _ h)
  have hown : s.vm.findClass RX5 = some m.cls := findClass_of_methodNamed B.named
  have hlocks := B.notSynchronized
  subst hsz
  have hD := hD0.self (sz := s.heap.size)
  clear hD0
  generalize hAe : va_A (rw0 b cA cJ N f (ro z ob) t nd q sg th) s.heap.size = A at hD hSt ⊢
  have hA : ∀ q : Nat, s.heap.size ≤ q → A q := fun q h => by rw [← hAe]; exact Or.inr h
  have hS : va_S A s.heap s.heap [] := va_S.rf
  obtain ⟨⟨tt, ff, hZT, hTT, hZF, hTF⟩, hXS⟩ := id hSt
  have hl := lv_entry ([.ref (b 0), .int i, .int sb, .int k]) (n := 5) (Nat.le_of_ble_eq_true rfl)
  rw [lg_entry_eq]
  generalize (lg_sl ([.ref (b 0), .int i, .int sb, .int k]) ++ List.replicate (5 - (lg_sl ([.ref (b 0), .int i, .int sb, .int k])).length) Slot.unset).toArray = ls at hl ⊢
  have hl : lv_has ls 5 [(0, .ref (b 0)), (1, .int i), (2, .int sb), (3, .int k)] := hl
  refine zb_abs (fun Q hQ => ?_)
  refine lv_aload_n hx hb dX5_value_0 rfl (lv_at hl 0 rfl) ?_
  refine lv_iload_n hx hb dX5_value_1 rfl (lv_at hl 1 rfl) ?_
  refine lv_iload_n hx hb dX5_value_2 rfl (lv_at hl 2 rfl) ?_
  refine zb_ci (va_runV (As := [.int i, .int sb]) (rest := []) ⟨hx, hb, hml, hown, htb⟩ (r_find l D b cA cJ N f (ro z ob) t nd q sg th i sb) (cwV 2 htb (wb_V kM_X5_156 kI_X5_find kS_X5_find kN_X5 kD_X5_find) rfl rfl rfl (by decide +kernel) ⟨Nat.le_of_ble_eq_true rfl, Nat.le_of_ble_eq_true rfl⟩) (zp_V 0 rfl rfl hP hK hSt hS hnw) rfl rfl hl.1 rfl (lv_room (Nat.le_of_ble_eq_true rfl)) dX5_value_3 ⟨Nat.le_of_ble_eq_true rfl, Nat.le_of_ble_eq_true rfl⟩) ?_
  cases hfd : fd i sb with
  | none =>
    by_cases hc1 : hi i = true
    · refine zb_ti (y := (-1)) (by rw [rF_none hfd, if_pos hc1]) ?_
      refine lv_istore hx hb dX5_value_6 hl (by decide) rfl (fun ls hl => ?_)
      have hl : lv_has ls 5 [(4, .int (-1)), (0, .ref (b 0)), (1, .int i), (2, .int sb), (3, .int k)] := hl
      refine lv_aload_n hx hb dX5_value_8 rfl (lv_at hl 1 rfl) ?_
      refine lv_iload hx hb dX5_value_9 (lv_at hl 0 rfl) ?_
      refine lv_if_lt (tgt := 29) hx hb dX5_value_11 (by decide) (fun _ => ?_) (fun hno => absurd (by decide) hno)
      refine lv_iconst (v := 1) hx hb dX5_value_29 (by decide) ?_
      refine lv_goto (tgt := 34) hx hb dX5_value_30 (by decide) ?_
      refine va_put (D := D) (ci := 5) (v := .int 1) (fs := [.int th, .int N, .ref (b 1), .ref (b 2), .ref (b 3), .ref (b 4), .ref (b 5), .ref (b 6), .int 22, .int 95, .int nd.1, .int nd.2.2.1, .int nd.2.1, .long nd.2.2.2, .int t.2.1, .int t.2.2.1, .int t.2.2.2.1, .int t.2.2.2.2.1, .int t.2.2.2.2.2, .ref (b 7), .long q, .int sg, .ref (b 8), .ref (b 9), .ref (b 10), .int ((ro z ob).2.2.2.1), .int ((ro z ob).2.2.2.2)]) (ty := .int) (C := RX5) (T := TX5) (N := 27) hx hb htb inX5 tyX5 tyX5_ok nmX5 hown hK hP hD hS 0 rfl rfl 0 (by decide) (htb _ kF_X5_67) (fun _ h9 => h9) rfl (by decide +kernel) rfl rfl (Nat.le_of_ble_eq_true rfl) dX5_value_34 (fun H locs hP hD hS => ?_)
      have hP : va_P D vwCl (rw0 b cA cJ N f (ro z ob) t nd q sg 1) H := hP
      have hD : va_D A (rw0 b cA cJ N f (ro z ob) t nd q sg 1) := hD
      refine lv_aload_n hx hb dX5_value_37 rfl (lv_at hl 1 rfl) ?_
      refine va_get (D := D) (ci := 5) (v := .int 1) (fs := [.int 1, .int N, .ref (b 1), .ref (b 2), .ref (b 3), .ref (b 4), .ref (b 5), .ref (b 6), .int 22, .int 95, .int nd.1, .int nd.2.2.1, .int nd.2.1, .long nd.2.2.2, .int t.2.1, .int t.2.2.1, .int t.2.2.2.1, .int t.2.2.2.2.1, .int t.2.2.2.2.2, .ref (b 7), .long q, .int sg, .ref (b 8), .ref (b 9), .ref (b 10), .int ((ro z ob).2.2.2.1), .int ((ro z ob).2.2.2.2)]) (C := RX5) (T := TX5) (N := 27) hx hb htb inX5 hown hK hP 0 rfl rfl 0 (by decide) (htb _ kF_X5_67) (fun _ h9 => h9) rfl dX5_value_38 ?_
      refine lv_if_le (tgt := 48) hx hb dX5_value_41 (by decide) (fun hno => absurd hno (by decide)) (fun _ => ?_)
      refine lv_iconst (v := 0) hx hb dX5_value_44 (by decide) ?_
      refine lv_goto (tgt := 62) hx hb dX5_value_45 (by decide) ?_
      rw [hQ]
      have hw9 : (rw0 b cA cJ N f (ro z ob) t nd q sg 1) = (rw0 b cA cJ N f (ro z ob) t nd q sg 1) := rfl
      exact W.iret (v := 0) hx hb hr (fun t9 ht hW => ⟨congrArg (fun z => Outcome.returned (some (Value.int z))) (rfl), by rw [ht, ← hw9]; exact hP, by rw [← hw9]; exact hD, hS.F ht⟩) hS.2.2 dX5_value_62
    · refine zb_ti (y := (-2)) (by rw [rF_none hfd, if_neg hc1]) ?_
      refine lv_istore hx hb dX5_value_6 hl (by decide) rfl (fun ls hl => ?_)
      have hl : lv_has ls 5 [(4, .int (-2)), (0, .ref (b 0)), (1, .int i), (2, .int sb), (3, .int k)] := hl
      refine lv_aload_n hx hb dX5_value_8 rfl (lv_at hl 1 rfl) ?_
      refine lv_iload hx hb dX5_value_9 (lv_at hl 0 rfl) ?_
      refine lv_if_lt (tgt := 29) hx hb dX5_value_11 (by decide) (fun _ => ?_) (fun hno => absurd (by decide) hno)
      refine lv_iconst (v := 1) hx hb dX5_value_29 (by decide) ?_
      refine lv_goto (tgt := 34) hx hb dX5_value_30 (by decide) ?_
      refine va_put (D := D) (ci := 5) (v := .int 1) (fs := [.int th, .int N, .ref (b 1), .ref (b 2), .ref (b 3), .ref (b 4), .ref (b 5), .ref (b 6), .int 22, .int 95, .int nd.1, .int nd.2.2.1, .int nd.2.1, .long nd.2.2.2, .int t.2.1, .int t.2.2.1, .int t.2.2.2.1, .int t.2.2.2.2.1, .int t.2.2.2.2.2, .ref (b 7), .long q, .int sg, .ref (b 8), .ref (b 9), .ref (b 10), .int ((ro z ob).2.2.2.1), .int ((ro z ob).2.2.2.2)]) (ty := .int) (C := RX5) (T := TX5) (N := 27) hx hb htb inX5 tyX5 tyX5_ok nmX5 hown hK hP hD hS 0 rfl rfl 0 (by decide) (htb _ kF_X5_67) (fun _ h9 => h9) rfl (by decide +kernel) rfl rfl (Nat.le_of_ble_eq_true rfl) dX5_value_34 (fun H locs hP hD hS => ?_)
      have hP : va_P D vwCl (rw0 b cA cJ N f (ro z ob) t nd q sg 1) H := hP
      have hD : va_D A (rw0 b cA cJ N f (ro z ob) t nd q sg 1) := hD
      refine lv_aload_n hx hb dX5_value_37 rfl (lv_at hl 1 rfl) ?_
      refine va_get (D := D) (ci := 5) (v := .int 1) (fs := [.int 1, .int N, .ref (b 1), .ref (b 2), .ref (b 3), .ref (b 4), .ref (b 5), .ref (b 6), .int 22, .int 95, .int nd.1, .int nd.2.2.1, .int nd.2.1, .long nd.2.2.2, .int t.2.1, .int t.2.2.1, .int t.2.2.2.1, .int t.2.2.2.2.1, .int t.2.2.2.2.2, .ref (b 7), .long q, .int sg, .ref (b 8), .ref (b 9), .ref (b 10), .int ((ro z ob).2.2.2.1), .int ((ro z ob).2.2.2.2)]) (C := RX5) (T := TX5) (N := 27) hx hb htb inX5 hown hK hP 0 rfl rfl 0 (by decide) (htb _ kF_X5_67) (fun _ h9 => h9) rfl dX5_value_38 ?_
      refine lv_if_le (tgt := 48) hx hb dX5_value_41 (by decide) (fun hno => absurd hno (by decide)) (fun _ => ?_)
      refine lv_iconst (v := 0) hx hb dX5_value_44 (by decide) ?_
      refine lv_goto (tgt := 62) hx hb dX5_value_45 (by decide) ?_
      rw [hQ]
      have hw9 : (rw0 b cA cJ N f (ro z ob) t nd q sg 1) = (rw0 b cA cJ N f (ro z ob) t nd q sg 1) := rfl
      exact W.iret (v := 0) hx hb hr (fun t9 ht hW => ⟨congrArg (fun z => Outcome.returned (some (Value.int z))) (rfl), by rw [ht, ← hw9]; exact hP, by rw [← hw9]; exact hD, hS.F ht⟩) hS.2.2 dX5_value_62
  | some e =>
    refine zb_ti (y := nI e) (rF_some hfd) ?_
    have h22 := (fd_lt hfd).1
    have hft := x_fit e h22
    refine lv_istore hx hb dX5_value_6 hl (by decide) rfl (fun ls hl => ?_)
    have hl : lv_has ls 5 [(4, .int (nI e)), (0, .ref (b 0)), (1, .int i), (2, .int sb), (3, .int k)] := hl
    refine lv_aload_n hx hb dX5_value_8 rfl (lv_at hl 1 rfl) ?_
    refine lv_iload hx hb dX5_value_9 (lv_at hl 0 rfl) ?_
    refine lv_if_lt (tgt := 29) hx hb dX5_value_11 (by decide) (fun hno => absurd hno (ni_nlt0 h22)) (fun _ => ?_)
    refine lv_iload_n hx hb dX5_value_14 rfl (lv_at hl 4 rfl) ?_
    refine lv_if_lt (tgt := 29) hx hb dX5_value_15 (by decide) (fun hc2 => ?_) (fun hc2 => ?_)
    · refine lv_iconst (v := 1) hx hb dX5_value_29 (by decide) ?_
      refine lv_goto (tgt := 34) hx hb dX5_value_30 (by decide) ?_
      refine va_put (D := D) (ci := 5) (v := .int 1) (fs := [.int th, .int N, .ref (b 1), .ref (b 2), .ref (b 3), .ref (b 4), .ref (b 5), .ref (b 6), .int 22, .int 95, .int nd.1, .int nd.2.2.1, .int nd.2.1, .long nd.2.2.2, .int t.2.1, .int t.2.2.1, .int t.2.2.2.1, .int t.2.2.2.2.1, .int t.2.2.2.2.2, .ref (b 7), .long q, .int sg, .ref (b 8), .ref (b 9), .ref (b 10), .int ((ro z ob).2.2.2.1), .int ((ro z ob).2.2.2.2)]) (ty := .int) (C := RX5) (T := TX5) (N := 27) hx hb htb inX5 tyX5 tyX5_ok nmX5 hown hK hP hD hS 0 rfl rfl 0 (by decide) (htb _ kF_X5_67) (fun _ h9 => h9) rfl (by decide +kernel) rfl rfl (Nat.le_of_ble_eq_true rfl) dX5_value_34 (fun H locs hP hD hS => ?_)
      have hP : va_P D vwCl (rw0 b cA cJ N f (ro z ob) t nd q sg 1) H := hP
      have hD : va_D A (rw0 b cA cJ N f (ro z ob) t nd q sg 1) := hD
      refine lv_aload_n hx hb dX5_value_37 rfl (lv_at hl 1 rfl) ?_
      refine va_get (D := D) (ci := 5) (v := .int 1) (fs := [.int 1, .int N, .ref (b 1), .ref (b 2), .ref (b 3), .ref (b 4), .ref (b 5), .ref (b 6), .int 22, .int 95, .int nd.1, .int nd.2.2.1, .int nd.2.1, .long nd.2.2.2, .int t.2.1, .int t.2.2.1, .int t.2.2.2.1, .int t.2.2.2.2.1, .int t.2.2.2.2.2, .ref (b 7), .long q, .int sg, .ref (b 8), .ref (b 9), .ref (b 10), .int ((ro z ob).2.2.2.1), .int ((ro z ob).2.2.2.2)]) (C := RX5) (T := TX5) (N := 27) hx hb htb inX5 hown hK hP 0 rfl rfl 0 (by decide) (htb _ kF_X5_67) (fun _ h9 => h9) rfl dX5_value_38 ?_
      refine lv_if_le (tgt := 48) hx hb dX5_value_41 (by decide) (fun hno => absurd hno (by decide)) (fun _ => ?_)
      refine lv_iconst (v := 0) hx hb dX5_value_44 (by decide) ?_
      refine lv_goto (tgt := 62) hx hb dX5_value_45 (by decide) ?_
      rw [hQ]
      have hw9 : (rw0 b cA cJ N f (ro z ob) t nd q sg 1) = (rw0 b cA cJ N f (ro z ob) t nd q sg 1) := rfl
      exact W.iret (v := 0) hx hb hr (fun t9 ht hW => ⟨congrArg (fun z => Outcome.returned (some (Value.int z))) (rfl), by rw [ht, ← hw9]; exact hP, by rw [← hw9]; exact hD, hS.F ht⟩) hS.2.2 dX5_value_62
    refine lv_iload_n hx hb dX5_value_18 rfl (lv_at hl 4 rfl) ?_
    refine lv_aload_n hx hb dX5_value_19 rfl (lv_at hl 1 rfl) ?_
    refine va_get (D := D) (ci := 5) (v := .ref (b 3)) (fs := [.int th, .int N, .ref (b 1), .ref (b 2), .ref (b 3), .ref (b 4), .ref (b 5), .ref (b 6), .int 22, .int 95, .int nd.1, .int nd.2.2.1, .int nd.2.1, .long nd.2.2.2, .int t.2.1, .int t.2.2.1, .int t.2.2.2.1, .int t.2.2.2.2.1, .int t.2.2.2.2.2, .ref (b 7), .long q, .int sg, .ref (b 8), .ref (b 9), .ref (b 10), .int ((ro z ob).2.2.2.1), .int ((ro z ob).2.2.2.2)]) (C := RX5) (T := TX5) (N := 27) hx hb htb inX5 hown hK hP 0 rfl rfl 4 (by decide) (htb _ kF_X5_16) (fun _ h9 => h9) rfl dX5_value_20 ?_
    refine lv_iload hx hb dX5_value_23 (lv_at hl 0 rfl) ?_
    refine va_iald (i := nI e) hx hb hK hP 3 0 rfl rfl (vp_in_nI (by omega) (by decide)) dX5_value_25 ?_
    refine zb_ti (y := nI (xZ e)) (by rw [nI_clamp (by omega)]) ?_
    refine lv_icmp_lt (tgt := 33) hx hb dX5_value_26 (by decide) (fun hc3 => ?_) (fun hc3 => ?_)
    · exact absurd hbad (by rw [hfd]; rintro (h | ⟨e2, h, h2⟩); exact nomatch h; cases h; rcases h2 with h2 | h2; exact hc2 h2; exact Int32.not_lt.mpr h2 hc3)
    refine lv_iconst (v := 1) hx hb dX5_value_29 (by decide) ?_
    refine lv_goto (tgt := 34) hx hb dX5_value_30 (by decide) ?_
    refine va_put (D := D) (ci := 5) (v := .int 1) (fs := [.int th, .int N, .ref (b 1), .ref (b 2), .ref (b 3), .ref (b 4), .ref (b 5), .ref (b 6), .int 22, .int 95, .int nd.1, .int nd.2.2.1, .int nd.2.1, .long nd.2.2.2, .int t.2.1, .int t.2.2.1, .int t.2.2.2.1, .int t.2.2.2.2.1, .int t.2.2.2.2.2, .ref (b 7), .long q, .int sg, .ref (b 8), .ref (b 9), .ref (b 10), .int ((ro z ob).2.2.2.1), .int ((ro z ob).2.2.2.2)]) (ty := .int) (C := RX5) (T := TX5) (N := 27) hx hb htb inX5 tyX5 tyX5_ok nmX5 hown hK hP hD hS 0 rfl rfl 0 (by decide) (htb _ kF_X5_67) (fun _ h9 => h9) rfl (by decide +kernel) rfl rfl (Nat.le_of_ble_eq_true rfl) dX5_value_34 (fun H locs hP hD hS => ?_)
    have hP : va_P D vwCl (rw0 b cA cJ N f (ro z ob) t nd q sg 1) H := hP
    have hD : va_D A (rw0 b cA cJ N f (ro z ob) t nd q sg 1) := hD
    refine lv_aload_n hx hb dX5_value_37 rfl (lv_at hl 1 rfl) ?_
    refine va_get (D := D) (ci := 5) (v := .int 1) (fs := [.int 1, .int N, .ref (b 1), .ref (b 2), .ref (b 3), .ref (b 4), .ref (b 5), .ref (b 6), .int 22, .int 95, .int nd.1, .int nd.2.2.1, .int nd.2.1, .long nd.2.2.2, .int t.2.1, .int t.2.2.1, .int t.2.2.2.1, .int t.2.2.2.2.1, .int t.2.2.2.2.2, .ref (b 7), .long q, .int sg, .ref (b 8), .ref (b 9), .ref (b 10), .int ((ro z ob).2.2.2.1), .int ((ro z ob).2.2.2.2)]) (C := RX5) (T := TX5) (N := 27) hx hb htb inX5 hown hK hP 0 rfl rfl 0 (by decide) (htb _ kF_X5_67) (fun _ h9 => h9) rfl dX5_value_38 ?_
    refine lv_if_le (tgt := 48) hx hb dX5_value_41 (by decide) (fun hno => absurd hno (by decide)) (fun _ => ?_)
    refine lv_iconst (v := 0) hx hb dX5_value_44 (by decide) ?_
    refine lv_goto (tgt := 62) hx hb dX5_value_45 (by decide) ?_
    rw [hQ]
    have hw9 : (rw0 b cA cJ N f (ro z ob) t nd q sg 1) = (rw0 b cA cJ N f (ro z ob) t nd q sg 1) := rfl
    exact W.iret (v := 0) hx hb hr (fun t9 ht hW => ⟨congrArg (fun z => Outcome.returned (some (Value.int z))) (rfl), by rw [ht, ← hw9]; exact hP, by rw [← hw9]; exact hD, hS.F ht⟩) hS.2.2 dX5_value_62
set_option maxHeartbeats 4000000 in
set_option maxRecDepth 100000 in
theorem r_size (l : Launch) (D : va_G) (b : Nat → Nat) (cA cJ : ClassId) (N : Int32) (f : Nat → Int32) (z : Int32) (ob : OB) (t : RT) (nd : ND) (q : Int64) (sg th : Int32) (sz : Nat) (i sb : Int32)  : Met l yX5_size (wX5_size :: wb) ({ frames := 1, cells := 0, slots := 0, locals := 24 } : Room) (va_Pc [.ref (b 0), .int i, .int sb] (zPre D [(cA, .int), (cJ, .long)] (rw0 b cA cJ N f (ro z ob) t nd q sg th) sz)) (zb_Vi ((fd i sb).elim 0 (fun e => nI (xZ e))) D vwCl (rw0 b cA cJ N f (ro z ob) t nd q sg 0) (va_A (rw0 b cA cJ N f (ro z ob) t nd q sg th) sz)) 0 0 (va_A (rw0 b cA cJ N f (ro z ob) t nd q sg th) sz) := by
  refine Met.ofW (cc := cX5_size) (maxL := 4) (ret := (some .int)) (by decide) rfl ?_
  intro p ev s m args below meth c s₁ B hml hv
  obtain ⟨rfl, hsz, hP, hK, hD0, hSt, hnw⟩ := hv
  have hx := B.exec
  have hb := B.bytes
  have hr := B.returns
  have hts := atoms_spec (ws := wX5_size :: wb) B.pre
  have htb : ∀ w ∈ wb, w.before ([.ref (b 0), .int i, .int sb]).toArray s = true := fun w h => hts w (List.mem_cons_of_mem _ h)
  have hown : s.vm.findClass RX5 = some m.cls := findClass_of_methodNamed B.named
  have hlocks := B.notSynchronized
  subst hsz
  have hD := hD0.self (sz := s.heap.size)
  clear hD0
  generalize hAe : va_A (rw0 b cA cJ N f (ro z ob) t nd q sg th) s.heap.size = A at hD hSt ⊢
  have hA : ∀ q : Nat, s.heap.size ≤ q → A q := fun q h => by rw [← hAe]; exact Or.inr h
  have hS : va_S A s.heap s.heap [] := va_S.rf
  obtain ⟨⟨tt, ff, hZT, hTT, hZF, hTF⟩, hXS⟩ := id hSt
  have hl := lv_entry ([.ref (b 0), .int i, .int sb]) (n := 4) (Nat.le_of_ble_eq_true rfl)
  rw [lg_entry_eq]
  generalize (lg_sl ([.ref (b 0), .int i, .int sb]) ++ List.replicate (4 - (lg_sl ([.ref (b 0), .int i, .int sb])).length) Slot.unset).toArray = ls at hl ⊢
  have hl : lv_has ls 4 [(0, .ref (b 0)), (1, .int i), (2, .int sb)] := hl
  refine zb_abs (fun Q hQ => ?_)
  refine lv_aload_n hx hb dX5_size_0 rfl (lv_at hl 0 rfl) ?_
  refine lv_iconst (v := 0) hx hb dX5_size_1 (by decide) ?_
  refine va_put (D := D) (ci := 5) (v := .int 0) (fs := [.int th, .int N, .ref (b 1), .ref (b 2), .ref (b 3), .ref (b 4), .ref (b 5), .ref (b 6), .int 22, .int 95, .int nd.1, .int nd.2.2.1, .int nd.2.1, .long nd.2.2.2, .int t.2.1, .int t.2.2.1, .int t.2.2.2.1, .int t.2.2.2.2.1, .int t.2.2.2.2.2, .ref (b 7), .long q, .int sg, .ref (b 8), .ref (b 9), .ref (b 10), .int ((ro z ob).2.2.2.1), .int ((ro z ob).2.2.2.2)]) (ty := .int) (C := RX5) (T := TX5) (N := 27) hx hb htb inX5 tyX5 tyX5_ok nmX5 hown hK hP hD hS 0 rfl rfl 0 (by decide) (htb _ kF_X5_67) (fun _ h9 => h9) rfl (by decide +kernel) rfl rfl (Nat.le_of_ble_eq_true rfl) dX5_size_2 (fun H locs hP hD hS => ?_)
  have hP : va_P D vwCl (rw0 b cA cJ N f (ro z ob) t nd q sg 0) H := hP
  have hD : va_D A (rw0 b cA cJ N f (ro z ob) t nd q sg 0) := hD
  refine lv_aload_n hx hb dX5_size_5 rfl (lv_at hl 0 rfl) ?_
  refine lv_iload_n hx hb dX5_size_6 rfl (lv_at hl 1 rfl) ?_
  refine lv_iload_n hx hb dX5_size_7 rfl (lv_at hl 2 rfl) ?_
  refine zb_ci (va_runV (As := [.int i, .int sb]) (rest := []) ⟨hx, hb, hml, hown, htb⟩ (r_find l D b cA cJ N f (ro z ob) t nd q sg 0 i sb) (cwV 2 htb (wb_V kM_X5_156 kI_X5_find kS_X5_find kN_X5 kD_X5_find) rfl rfl rfl (by decide +kernel) ⟨Nat.le_of_ble_eq_true rfl, Nat.le_of_ble_eq_true rfl⟩) (zp_V 0 rfl rfl hP hK hSt hS hnw) rfl rfl hl.1 rfl (lv_room (Nat.le_of_ble_eq_true rfl)) dX5_size_8 ⟨Nat.le_of_ble_eq_true rfl, Nat.le_of_ble_eq_true rfl⟩) ?_
  cases hfd : fd i sb with
  | none =>
    by_cases hc1 : hi i = true
    · refine zb_ti (y := (-1)) (by rw [rF_none hfd, if_pos hc1]) ?_
      refine lv_istore_n hx hb dX5_size_11 rfl hl (by decide) rfl (fun ls hl => ?_)
      have hl : lv_has ls 4 [(3, .int (-1)), (0, .ref (b 0)), (1, .int i), (2, .int sb)] := hl
      refine lv_iload_n hx hb dX5_size_12 rfl (lv_at hl 0 rfl) ?_
      refine lv_if_ge (tgt := 20) hx hb dX5_size_13 (by decide) (fun hno => absurd hno (by decide)) (fun _ => ?_)
      refine lv_iconst (v := 0) hx hb dX5_size_16 (by decide) ?_
      refine lv_goto (tgt := 26) hx hb dX5_size_17 (by decide) ?_
      rw [hQ]
      have hw9 : (rw0 b cA cJ N f (ro z ob) t nd q sg 0) = (rw0 b cA cJ N f (ro z ob) t nd q sg 0) := rfl
      exact W.iret (v := 0) hx hb hr (fun t9 ht hW => ⟨congrArg (fun z => Outcome.returned (some (Value.int z))) (by rw [hfd]; rfl), by rw [ht, ← hw9]; exact hP, by rw [← hw9]; exact hD, hS.F ht⟩) hS.2.2 dX5_size_26
    · refine zb_ti (y := (-2)) (by rw [rF_none hfd, if_neg hc1]) ?_
      refine lv_istore_n hx hb dX5_size_11 rfl hl (by decide) rfl (fun ls hl => ?_)
      have hl : lv_has ls 4 [(3, .int (-2)), (0, .ref (b 0)), (1, .int i), (2, .int sb)] := hl
      refine lv_iload_n hx hb dX5_size_12 rfl (lv_at hl 0 rfl) ?_
      refine lv_if_ge (tgt := 20) hx hb dX5_size_13 (by decide) (fun hno => absurd hno (by decide)) (fun _ => ?_)
      refine lv_iconst (v := 0) hx hb dX5_size_16 (by decide) ?_
      refine lv_goto (tgt := 26) hx hb dX5_size_17 (by decide) ?_
      rw [hQ]
      have hw9 : (rw0 b cA cJ N f (ro z ob) t nd q sg 0) = (rw0 b cA cJ N f (ro z ob) t nd q sg 0) := rfl
      exact W.iret (v := 0) hx hb hr (fun t9 ht hW => ⟨congrArg (fun z => Outcome.returned (some (Value.int z))) (by rw [hfd]; rfl), by rw [ht, ← hw9]; exact hP, by rw [← hw9]; exact hD, hS.F ht⟩) hS.2.2 dX5_size_26
  | some e =>
    refine zb_ti (y := nI e) (rF_some hfd) ?_
    have h22 := (fd_lt hfd).1
    have hft := x_fit e h22
    refine lv_istore_n hx hb dX5_size_11 rfl hl (by decide) rfl (fun ls hl => ?_)
    have hl : lv_has ls 4 [(3, .int (nI e)), (0, .ref (b 0)), (1, .int i), (2, .int sb)] := hl
    refine lv_iload_n hx hb dX5_size_12 rfl (lv_at hl 0 rfl) ?_
    refine lv_if_ge (tgt := 20) hx hb dX5_size_13 (by decide) (fun _ => ?_) (fun hno => absurd (ni_0le h22) hno)
    refine lv_aload_n hx hb dX5_size_20 rfl (lv_at hl 1 rfl) ?_
    refine va_get (D := D) (ci := 5) (v := .ref (b 3)) (fs := [.int 0, .int N, .ref (b 1), .ref (b 2), .ref (b 3), .ref (b 4), .ref (b 5), .ref (b 6), .int 22, .int 95, .int nd.1, .int nd.2.2.1, .int nd.2.1, .long nd.2.2.2, .int t.2.1, .int t.2.2.1, .int t.2.2.2.1, .int t.2.2.2.2.1, .int t.2.2.2.2.2, .ref (b 7), .long q, .int sg, .ref (b 8), .ref (b 9), .ref (b 10), .int ((ro z ob).2.2.2.1), .int ((ro z ob).2.2.2.2)]) (C := RX5) (T := TX5) (N := 27) hx hb htb inX5 hown hK hP 0 rfl rfl 4 (by decide) (htb _ kF_X5_16) (fun _ h9 => h9) rfl dX5_size_21 ?_
    refine lv_iload_n hx hb dX5_size_24 rfl (lv_at hl 0 rfl) ?_
    refine va_iald (i := nI e) hx hb hK hP 3 0 rfl rfl (vp_in_nI (by omega) (by decide)) dX5_size_25 ?_
    refine zb_ti (y := nI (xZ e)) (by rw [nI_clamp (by omega)]) ?_
    rw [hQ]
    have hw9 : (rw0 b cA cJ N f (ro z ob) t nd q sg 0) = (rw0 b cA cJ N f (ro z ob) t nd q sg 0) := rfl
    exact W.iret (v := nI (xZ e)) hx hb hr (fun t9 ht hW => ⟨congrArg (fun z => Outcome.returned (some (Value.int z))) (by rw [hfd]; rfl), by rw [ht, ← hw9]; exact hP, by rw [← hw9]; exact hD, hS.F ht⟩) hS.2.2 dX5_size_26
set_option maxHeartbeats 4000000 in
set_option maxRecDepth 100000 in
theorem r_state (l : Launch) (D : va_G) (b : Nat → Nat) (cA cJ : ClassId) (N : Int32) (f : Nat → Int32) (z : Int32) (ob : OB) (t : RT) (nd : ND) (q : Int64) (sg th : Int32) (sz : Nat)   : Met l yX5_state (wX5_state :: wb) ({ frames := 0, cells := 0, slots := 0, locals := 0 } : Room) (va_Pc [.ref (b 0)] (zPre D [(cA, .int), (cJ, .long)] (rw0 b cA cJ N f (ro z ob) t nd q sg th) sz)) (zb_Vi nd.1 D vwCl (rw0 b cA cJ N f (ro z ob) t nd q sg 0) (va_A (rw0 b cA cJ N f (ro z ob) t nd q sg th) sz)) 0 0 (va_A (rw0 b cA cJ N f (ro z ob) t nd q sg th) sz) := by
  refine Met.ofW (cc := cX5_state) (maxL := 1) (ret := (some .int)) (by decide) rfl ?_
  intro p ev s m args below meth c s₁ B hml hv
  obtain ⟨rfl, hsz, hP, hK, hD0, hSt, hnw⟩ := hv
  have hx := B.exec
  have hb := B.bytes
  have hr := B.returns
  have hts := atoms_spec (ws := wX5_state :: wb) B.pre
  have htb : ∀ w ∈ wb, w.before ([.ref (b 0)]).toArray s = true := fun w h => hts w (List.mem_cons_of_mem _ h)
  have hown : s.vm.findClass RX5 = some m.cls := findClass_of_methodNamed B.named
  have hlocks := B.notSynchronized
  subst hsz
  have hD := hD0.self (sz := s.heap.size)
  clear hD0
  generalize hAe : va_A (rw0 b cA cJ N f (ro z ob) t nd q sg th) s.heap.size = A at hD hSt ⊢
  have hA : ∀ q : Nat, s.heap.size ≤ q → A q := fun q h => by rw [← hAe]; exact Or.inr h
  have hS : va_S A s.heap s.heap [] := va_S.rf
  obtain ⟨⟨tt, ff, hZT, hTT, hZF, hTF⟩, hXS⟩ := id hSt
  have hl := lv_entry ([.ref (b 0)]) (n := 1) (Nat.le_of_ble_eq_true rfl)
  rw [lg_entry_eq]
  generalize (lg_sl ([.ref (b 0)]) ++ List.replicate (1 - (lg_sl ([.ref (b 0)])).length) Slot.unset).toArray = ls at hl ⊢
  have hl : lv_has ls 1 [(0, .ref (b 0))] := hl
  refine zb_abs (fun Q hQ => ?_)
  refine lv_aload_n hx hb dX5_state_0 rfl (lv_at hl 0 rfl) ?_
  refine lv_iconst (v := 0) hx hb dX5_state_1 (by decide) ?_
  refine va_put (D := D) (ci := 5) (v := .int 0) (fs := [.int th, .int N, .ref (b 1), .ref (b 2), .ref (b 3), .ref (b 4), .ref (b 5), .ref (b 6), .int 22, .int 95, .int nd.1, .int nd.2.2.1, .int nd.2.1, .long nd.2.2.2, .int t.2.1, .int t.2.2.1, .int t.2.2.2.1, .int t.2.2.2.2.1, .int t.2.2.2.2.2, .ref (b 7), .long q, .int sg, .ref (b 8), .ref (b 9), .ref (b 10), .int ((ro z ob).2.2.2.1), .int ((ro z ob).2.2.2.2)]) (ty := .int) (C := RX5) (T := TX5) (N := 27) hx hb htb inX5 tyX5 tyX5_ok nmX5 hown hK hP hD hS 0 rfl rfl 0 (by decide) (htb _ kF_X5_67) (fun _ h9 => h9) rfl (by decide +kernel) rfl rfl (Nat.le_of_ble_eq_true rfl) dX5_state_2 (fun H locs hP hD hS => ?_)
  have hP : va_P D vwCl (rw0 b cA cJ N f (ro z ob) t nd q sg 0) H := hP
  have hD : va_D A (rw0 b cA cJ N f (ro z ob) t nd q sg 0) := hD
  refine lv_aload_n hx hb dX5_state_5 rfl (lv_at hl 0 rfl) ?_
  refine va_get (D := D) (ci := 5) (v := .int nd.1) (fs := [.int 0, .int N, .ref (b 1), .ref (b 2), .ref (b 3), .ref (b 4), .ref (b 5), .ref (b 6), .int 22, .int 95, .int nd.1, .int nd.2.2.1, .int nd.2.1, .long nd.2.2.2, .int t.2.1, .int t.2.2.1, .int t.2.2.2.1, .int t.2.2.2.2.1, .int t.2.2.2.2.2, .ref (b 7), .long q, .int sg, .ref (b 8), .ref (b 9), .ref (b 10), .int ((ro z ob).2.2.2.1), .int ((ro z ob).2.2.2.2)]) (C := RX5) (T := TX5) (N := 27) hx hb htb inX5 hown hK hP 0 rfl rfl 10 (by decide) (htb _ kF_X5_82) (fun _ h9 => h9) rfl dX5_state_6 ?_
  rw [hQ]
  have hw9 : (rw0 b cA cJ N f (ro z ob) t nd q sg 0) = (rw0 b cA cJ N f (ro z ob) t nd q sg 0) := rfl
  exact W.iret (v := nd.1) hx hb hr (fun t9 ht hW => ⟨congrArg (fun z => Outcome.returned (some (Value.int z))) (rfl), by rw [ht, ← hw9]; exact hP, by rw [← hw9]; exact hD, hS.F ht⟩) hS.2.2 dX5_state_9
set_option maxHeartbeats 4000000 in
set_option maxRecDepth 100000 in
theorem r_busy (l : Launch) (D : va_G) (b : Nat → Nat) (cA cJ : ClassId) (N : Int32) (f : Nat → Int32) (z : Int32) (ob : OB) (t : RT) (nd : ND) (q : Int64) (sg th : Int32) (sz : Nat) (tr : TR) (e d ad : Nat) (hrel : rel tr t e d ad) : Met l yX5_busy (wX5_busy :: wb) ({ frames := 0, cells := 0, slots := 0, locals := 0 } : Room) (va_Pc [.ref (b 0)] (zPre D [(cA, .int), (cJ, .long)] (rw0 b cA cJ N f (ro z ob) t nd q sg th) sz)) (zb_Vi tr.2.1 D vwCl (rw0 b cA cJ N f (ro z ob) t nd q sg 0) (va_A (rw0 b cA cJ N f (ro z ob) t nd q sg th) sz)) 0 0 (va_A (rw0 b cA cJ N f (ro z ob) t nd q sg th) sz) := by
  refine Met.ofW (cc := cX5_busy) (maxL := 1) (ret := (some .boolean)) (by decide) rfl ?_
  intro p ev s m args below meth c s₁ B hml hv
  obtain ⟨rfl, hsz, hP, hK, hD0, hSt, hnw⟩ := hv
  have hx := B.exec
  have hb := B.bytes
  have hr := B.returns
  have hts := atoms_spec (ws := wX5_busy :: wb) B.pre
  have htb : ∀ w ∈ wb, w.before ([.ref (b 0)]).toArray s = true := fun w h => hts w (List.mem_cons_of_mem _ h)
  have hown : s.vm.findClass RX5 = some m.cls := findClass_of_methodNamed B.named
  have hlocks := B.notSynchronized
  subst hsz
  have hD := hD0.self (sz := s.heap.size)
  clear hD0
  generalize hAe : va_A (rw0 b cA cJ N f (ro z ob) t nd q sg th) s.heap.size = A at hD hSt ⊢
  have hA : ∀ q : Nat, s.heap.size ≤ q → A q := fun q h => by rw [← hAe]; exact Or.inr h
  have hS : va_S A s.heap s.heap [] := va_S.rf
  obtain ⟨⟨tt, ff, hZT, hTT, hZF, hTF⟩, hXS⟩ := id hSt
  have hl := lv_entry ([.ref (b 0)]) (n := 1) (Nat.le_of_ble_eq_true rfl)
  rw [lg_entry_eq]
  generalize (lg_sl ([.ref (b 0)]) ++ List.replicate (1 - (lg_sl ([.ref (b 0)])).length) Slot.unset).toArray = ls at hl ⊢
  have hl : lv_has ls 1 [(0, .ref (b 0))] := hl
  refine zb_abs (fun Q hQ => ?_)
  refine lv_aload_n hx hb dX5_busy_0 rfl (lv_at hl 0 rfl) ?_
  refine lv_iconst (v := 0) hx hb dX5_busy_1 (by decide) ?_
  refine va_put (D := D) (ci := 5) (v := .int 0) (fs := [.int th, .int N, .ref (b 1), .ref (b 2), .ref (b 3), .ref (b 4), .ref (b 5), .ref (b 6), .int 22, .int 95, .int nd.1, .int nd.2.2.1, .int nd.2.1, .long nd.2.2.2, .int t.2.1, .int t.2.2.1, .int t.2.2.2.1, .int t.2.2.2.2.1, .int t.2.2.2.2.2, .ref (b 7), .long q, .int sg, .ref (b 8), .ref (b 9), .ref (b 10), .int ((ro z ob).2.2.2.1), .int ((ro z ob).2.2.2.2)]) (ty := .int) (C := RX5) (T := TX5) (N := 27) hx hb htb inX5 tyX5 tyX5_ok nmX5 hown hK hP hD hS 0 rfl rfl 0 (by decide) (htb _ kF_X5_67) (fun _ h9 => h9) rfl (by decide +kernel) rfl rfl (Nat.le_of_ble_eq_true rfl) dX5_busy_2 (fun H locs hP hD hS => ?_)
  have hP : va_P D vwCl (rw0 b cA cJ N f (ro z ob) t nd q sg 0) H := hP
  have hD : va_D A (rw0 b cA cJ N f (ro z ob) t nd q sg 0) := hD
  refine lv_aload_n hx hb dX5_busy_5 rfl (lv_at hl 0 rfl) ?_
  refine va_get (D := D) (ci := 5) (v := .int t.2.1) (fs := [.int 0, .int N, .ref (b 1), .ref (b 2), .ref (b 3), .ref (b 4), .ref (b 5), .ref (b 6), .int 22, .int 95, .int nd.1, .int nd.2.2.1, .int nd.2.1, .long nd.2.2.2, .int t.2.1, .int t.2.2.1, .int t.2.2.2.1, .int t.2.2.2.2.1, .int t.2.2.2.2.2, .ref (b 7), .long q, .int sg, .ref (b 8), .ref (b 9), .ref (b 10), .int ((ro z ob).2.2.2.1), .int ((ro z ob).2.2.2.2)]) (C := RX5) (T := TX5) (N := 27) hx hb htb inX5 hown hK hP 0 rfl rfl 14 (by decide) (htb _ kF_X5_85) (fun _ h9 => h9) rfl dX5_busy_6 ?_
  refine lv_if_eq (tgt := 16) hx hb dX5_busy_9 (by decide) (fun hc1 => ?_) (fun hc1 => ?_)
  · refine lv_iconst (v := 0) hx hb dX5_busy_16 (by decide) ?_
    rw [hQ]
    have hw9 : (rw0 b cA cJ N f (ro z ob) t nd q sg 0) = (rw0 b cA cJ N f (ro z ob) t nd q sg 0) := rfl
    exact W.zret (v := 0) hx hb hr (rfl) (fun t9 ht hW => ⟨congrArg (fun z => Outcome.returned (some (Value.int z))) (by rcases hrel.2 with ⟨h1, h0, -⟩ | ⟨h1, h2, -⟩; exact h1.symm; exact absurd hc1 (by rcases h2 with ⟨_, h9⟩ | ⟨_, h9⟩ <;> rw [h9] <;> decide)), by rw [ht, ← hw9]; exact hP, by rw [← hw9]; exact hD, hS.F ht⟩) hS.2.2 dX5_busy_17
  refine lv_iconst (v := 1) hx hb dX5_busy_12 (by decide) ?_
  refine lv_goto (tgt := 17) hx hb dX5_busy_13 (by decide) ?_
  rw [hQ]
  have hw9 : (rw0 b cA cJ N f (ro z ob) t nd q sg 0) = (rw0 b cA cJ N f (ro z ob) t nd q sg 0) := rfl
  exact W.zret (v := 1) hx hb hr (rfl) (fun t9 ht hW => ⟨congrArg (fun z => Outcome.returned (some (Value.int z))) (by rcases hrel.2 with ⟨h1, h0, -⟩ | ⟨h1, h2, -⟩; exact absurd h0 (hc1); exact h1.symm), by rw [ht, ← hw9]; exact hP, by rw [← hw9]; exact hD, hS.F ht⟩) hS.2.2 dX5_busy_17
set_option maxHeartbeats 4000000 in
set_option maxRecDepth 100000 in
theorem r_outs (l : Launch) (D : va_G) (b : Nat → Nat) (cA cJ : ClassId) (N : Int32) (f : Nat → Int32) (z : Int32) (ob : OB) (t : RT) (nd : ND) (q : Int64) (sg th : Int32) (sz : Nat)   : Met l yX5_outs (wX5_outs :: wb) ({ frames := 0, cells := 0, slots := 0, locals := 0 } : Room) (va_Pc [.ref (b 0)] (zPre D [(cA, .int), (cJ, .long)] (rw0 b cA cJ N f (ro z ob) t nd q sg th) sz)) (zb_Vi ob.2.1 D vwCl (rw0 b cA cJ N f (ro z ob) t nd q sg 0) (va_A (rw0 b cA cJ N f (ro z ob) t nd q sg th) sz)) 0 0 (va_A (rw0 b cA cJ N f (ro z ob) t nd q sg th) sz) := by
  refine Met.ofW (cc := cX5_outs) (maxL := 1) (ret := (some .int)) (by decide) rfl ?_
  intro p ev s m args below meth c s₁ B hml hv
  obtain ⟨rfl, hsz, hP, hK, hD0, hSt, hnw⟩ := hv
  have hx := B.exec
  have hb := B.bytes
  have hr := B.returns
  have hts := atoms_spec (ws := wX5_outs :: wb) B.pre
  have htb : ∀ w ∈ wb, w.before ([.ref (b 0)]).toArray s = true := fun w h => hts w (List.mem_cons_of_mem _ h)
  have hown : s.vm.findClass RX5 = some m.cls := findClass_of_methodNamed B.named
  have hlocks := B.notSynchronized
  subst hsz
  have hD := hD0.self (sz := s.heap.size)
  clear hD0
  generalize hAe : va_A (rw0 b cA cJ N f (ro z ob) t nd q sg th) s.heap.size = A at hD hSt ⊢
  have hA : ∀ q : Nat, s.heap.size ≤ q → A q := fun q h => by rw [← hAe]; exact Or.inr h
  have hS : va_S A s.heap s.heap [] := va_S.rf
  obtain ⟨⟨tt, ff, hZT, hTT, hZF, hTF⟩, hXS⟩ := id hSt
  have hl := lv_entry ([.ref (b 0)]) (n := 1) (Nat.le_of_ble_eq_true rfl)
  rw [lg_entry_eq]
  generalize (lg_sl ([.ref (b 0)]) ++ List.replicate (1 - (lg_sl ([.ref (b 0)])).length) Slot.unset).toArray = ls at hl ⊢
  have hl : lv_has ls 1 [(0, .ref (b 0))] := hl
  refine zb_abs (fun Q hQ => ?_)
  refine lv_aload_n hx hb dX5_outs_0 rfl (lv_at hl 0 rfl) ?_
  refine lv_iconst (v := 0) hx hb dX5_outs_1 (by decide) ?_
  refine va_put (D := D) (ci := 5) (v := .int 0) (fs := [.int th, .int N, .ref (b 1), .ref (b 2), .ref (b 3), .ref (b 4), .ref (b 5), .ref (b 6), .int 22, .int 95, .int nd.1, .int nd.2.2.1, .int nd.2.1, .long nd.2.2.2, .int t.2.1, .int t.2.2.1, .int t.2.2.2.1, .int t.2.2.2.2.1, .int t.2.2.2.2.2, .ref (b 7), .long q, .int sg, .ref (b 8), .ref (b 9), .ref (b 10), .int ((ro z ob).2.2.2.1), .int ((ro z ob).2.2.2.2)]) (ty := .int) (C := RX5) (T := TX5) (N := 27) hx hb htb inX5 tyX5 tyX5_ok nmX5 hown hK hP hD hS 0 rfl rfl 0 (by decide) (htb _ kF_X5_67) (fun _ h9 => h9) rfl (by decide +kernel) rfl rfl (Nat.le_of_ble_eq_true rfl) dX5_outs_2 (fun H locs hP hD hS => ?_)
  have hP : va_P D vwCl (rw0 b cA cJ N f (ro z ob) t nd q sg 0) H := hP
  have hD : va_D A (rw0 b cA cJ N f (ro z ob) t nd q sg 0) := hD
  refine lv_aload_n hx hb dX5_outs_5 rfl (lv_at hl 0 rfl) ?_
  refine va_get (D := D) (ci := 5) (v := .int ((ro z ob).2.2.2.1)) (fs := [.int 0, .int N, .ref (b 1), .ref (b 2), .ref (b 3), .ref (b 4), .ref (b 5), .ref (b 6), .int 22, .int 95, .int nd.1, .int nd.2.2.1, .int nd.2.1, .long nd.2.2.2, .int t.2.1, .int t.2.2.1, .int t.2.2.2.1, .int t.2.2.2.2.1, .int t.2.2.2.2.2, .ref (b 7), .long q, .int sg, .ref (b 8), .ref (b 9), .ref (b 10), .int ((ro z ob).2.2.2.1), .int ((ro z ob).2.2.2.2)]) (C := RX5) (T := TX5) (N := 27) hx hb htb inX5 hown hK hP 0 rfl rfl 25 (by decide) (htb _ kF_X5_75) (fun _ h9 => h9) rfl dX5_outs_6 ?_
  rw [hQ]
  have hw9 : (rw0 b cA cJ N f (ro z ob) t nd q sg 0) = (rw0 b cA cJ N f (ro z ob) t nd q sg 0) := rfl
  exact W.iret (v := (ro z ob).2.2.2.1) hx hb hr (fun t9 ht hW => ⟨congrArg (fun z => Outcome.returned (some (Value.int z))) (rfl), by rw [ht, ← hw9]; exact hP, by rw [← hw9]; exact hD, hS.F ht⟩) hS.2.2 dX5_outs_9
set_option maxHeartbeats 4000000 in
set_option maxRecDepth 100000 in
theorem r_flush (l : Launch) (D : va_G) (b : Nat → Nat) (cA cJ : ClassId) (N : Int32) (f : Nat → Int32) (z : Int32) (ob : OB) (t : RT) (nd : ND) (q : Int64) (sg th : Int32) (sz : Nat)   : Met l yX5_flush (wX5_flush :: wb) ({ frames := 0, cells := 0, slots := 0, locals := 0 } : Room) (va_Pc [.ref (b 0)] (zPre D [(cA, .int), (cJ, .long)] (rw0 b cA cJ N f (ro z ob) t nd q sg th) sz)) (zb_Vi ob.2.1 D vwCl (rw0 b cA cJ N f (ro z (ob.1, 0, ob.2.2)) t nd q sg 0) (va_A (rw0 b cA cJ N f (ro z ob) t nd q sg th) sz)) 0 0 (va_A (rw0 b cA cJ N f (ro z ob) t nd q sg th) sz) := by
  refine Met.ofW (cc := cX5_flush) (maxL := 2) (ret := (some .int)) (by decide) rfl ?_
  intro p ev s m args below meth c s₁ B hml hv
  obtain ⟨rfl, hsz, hP, hK, hD0, hSt, hnw⟩ := hv
  have hx := B.exec
  have hb := B.bytes
  have hr := B.returns
  have hts := atoms_spec (ws := wX5_flush :: wb) B.pre
  have htb : ∀ w ∈ wb, w.before ([.ref (b 0)]).toArray s = true := fun w h => hts w (List.mem_cons_of_mem _ h)
  have hown : s.vm.findClass RX5 = some m.cls := findClass_of_methodNamed B.named
  have hlocks := B.notSynchronized
  subst hsz
  have hD := hD0.self (sz := s.heap.size)
  clear hD0
  generalize hAe : va_A (rw0 b cA cJ N f (ro z ob) t nd q sg th) s.heap.size = A at hD hSt ⊢
  have hA : ∀ q : Nat, s.heap.size ≤ q → A q := fun q h => by rw [← hAe]; exact Or.inr h
  have hS : va_S A s.heap s.heap [] := va_S.rf
  obtain ⟨⟨tt, ff, hZT, hTT, hZF, hTF⟩, hXS⟩ := id hSt
  have hl := lv_entry ([.ref (b 0)]) (n := 2) (Nat.le_of_ble_eq_true rfl)
  rw [lg_entry_eq]
  generalize (lg_sl ([.ref (b 0)]) ++ List.replicate (2 - (lg_sl ([.ref (b 0)])).length) Slot.unset).toArray = ls at hl ⊢
  have hl : lv_has ls 2 [(0, .ref (b 0))] := hl
  refine zb_abs (fun Q hQ => ?_)
  refine lv_aload_n hx hb dX5_flush_0 rfl (lv_at hl 0 rfl) ?_
  refine lv_iconst (v := 0) hx hb dX5_flush_1 (by decide) ?_
  refine va_put (D := D) (ci := 5) (v := .int 0) (fs := [.int th, .int N, .ref (b 1), .ref (b 2), .ref (b 3), .ref (b 4), .ref (b 5), .ref (b 6), .int 22, .int 95, .int nd.1, .int nd.2.2.1, .int nd.2.1, .long nd.2.2.2, .int t.2.1, .int t.2.2.1, .int t.2.2.2.1, .int t.2.2.2.2.1, .int t.2.2.2.2.2, .ref (b 7), .long q, .int sg, .ref (b 8), .ref (b 9), .ref (b 10), .int ((ro z ob).2.2.2.1), .int ((ro z ob).2.2.2.2)]) (ty := .int) (C := RX5) (T := TX5) (N := 27) hx hb htb inX5 tyX5 tyX5_ok nmX5 hown hK hP hD hS 0 rfl rfl 0 (by decide) (htb _ kF_X5_67) (fun _ h9 => h9) rfl (by decide +kernel) rfl rfl (Nat.le_of_ble_eq_true rfl) dX5_flush_2 (fun H locs hP hD hS => ?_)
  have hP : va_P D vwCl (rw0 b cA cJ N f (ro z ob) t nd q sg 0) H := hP
  have hD : va_D A (rw0 b cA cJ N f (ro z ob) t nd q sg 0) := hD
  refine lv_aload_n hx hb dX5_flush_5 rfl (lv_at hl 0 rfl) ?_
  refine va_get (D := D) (ci := 5) (v := .int ((ro z ob).2.2.2.1)) (fs := [.int 0, .int N, .ref (b 1), .ref (b 2), .ref (b 3), .ref (b 4), .ref (b 5), .ref (b 6), .int 22, .int 95, .int nd.1, .int nd.2.2.1, .int nd.2.1, .long nd.2.2.2, .int t.2.1, .int t.2.2.1, .int t.2.2.2.1, .int t.2.2.2.2.1, .int t.2.2.2.2.2, .ref (b 7), .long q, .int sg, .ref (b 8), .ref (b 9), .ref (b 10), .int ((ro z ob).2.2.2.1), .int ((ro z ob).2.2.2.2)]) (C := RX5) (T := TX5) (N := 27) hx hb htb inX5 hown hK hP 0 rfl rfl 25 (by decide) (htb _ kF_X5_75) (fun _ h9 => h9) rfl dX5_flush_6 ?_
  refine lv_istore_n hx hb dX5_flush_9 rfl hl (by decide) rfl (fun ls hl => ?_)
  have hl : lv_has ls 2 [(1, .int ((ro z ob).2.2.2.1)), (0, .ref (b 0))] := hl
  refine lv_aload_n hx hb dX5_flush_10 rfl (lv_at hl 1 rfl) ?_
  refine lv_iconst (v := 0) hx hb dX5_flush_11 (by decide) ?_
  refine va_put (D := D) (ci := 5) (v := .int 0) (fs := [.int 0, .int N, .ref (b 1), .ref (b 2), .ref (b 3), .ref (b 4), .ref (b 5), .ref (b 6), .int 22, .int 95, .int nd.1, .int nd.2.2.1, .int nd.2.1, .long nd.2.2.2, .int t.2.1, .int t.2.2.1, .int t.2.2.2.1, .int t.2.2.2.2.1, .int t.2.2.2.2.2, .ref (b 7), .long q, .int sg, .ref (b 8), .ref (b 9), .ref (b 10), .int ((ro z ob).2.2.2.1), .int ((ro z ob).2.2.2.2)]) (ty := .int) (C := RX5) (T := TX5) (N := 27) hx hb htb inX5 tyX5 tyX5_ok nmX5 hown hK hP hD hS 0 rfl rfl 25 (by decide) (htb _ kF_X5_75) (fun _ h9 => h9) rfl (by decide +kernel) rfl rfl (Nat.le_of_ble_eq_true rfl) dX5_flush_12 (fun H locs hP hD hS => ?_)
  have hP : va_P D vwCl (rw0 b cA cJ N f ((ro z ob).1, (ro z ob).2.1, (ro z ob).2.2.1, 0, (ro z ob).2.2.2.2) t nd q sg 0) H := hP
  have hD : va_D A (rw0 b cA cJ N f ((ro z ob).1, (ro z ob).2.1, (ro z ob).2.2.1, 0, (ro z ob).2.2.2.2) t nd q sg 0) := hD
  refine lv_iload_n hx hb dX5_flush_15 rfl (lv_at hl 0 rfl) ?_
  rw [hQ]
  have hw9 : (rw0 b cA cJ N f ((ro z ob).1, (ro z ob).2.1, (ro z ob).2.2.1, 0, (ro z ob).2.2.2.2) t nd q sg 0) = (rw0 b cA cJ N f (ro z (ob.1, 0, ob.2.2)) t nd q sg 0) := rfl
  exact W.iret (v := (ro z ob).2.2.2.1) hx hb hr (fun t9 ht hW => ⟨congrArg (fun z => Outcome.returned (some (Value.int z))) (rfl), by rw [ht, ← hw9]; exact hP, by rw [← hw9]; exact hD, hS.F ht⟩) hS.2.2 dX5_flush_16
set_option maxHeartbeats 4000000 in
set_option maxRecDepth 100000 in
theorem r_thrown (l : Launch) (D : va_G) (b : Nat → Nat) (cA cJ : ClassId) (N : Int32) (f : Nat → Int32) (o : RO) (t : RT) (nd : ND) (q : Int64) (sg th : Int32)   : Met l yX5_thrown (wX5_thrown :: wb) ({ frames := 0, cells := 0, slots := 0, locals := 0 } : Room) (va_Pc [.ref (b 0)] (zPu D [(cA, .int), (cJ, .long)] (rw0 b cA cJ N f o t nd q sg th))) (zb_I th) 0 0 (fun _ => False) := by
  refine Met.ofW (cc := cX5_thrown) (maxL := 1) (ret := (some .int)) (by decide) rfl ?_
  intro p ev s m args below meth c s₁ B hml hv
  obtain ⟨rfl, hP, hK, hSt, hnw⟩ := hv
  have hx := B.exec
  have hb := B.bytes
  have hr := B.returns
  have hts := atoms_spec (ws := wX5_thrown :: wb) B.pre
  have htb : ∀ w ∈ wb, w.before ([.ref (b 0)]).toArray s = true := fun w h => hts w (List.mem_cons_of_mem _ h)
  have hown : s.vm.findClass RX5 = some m.cls := findClass_of_methodNamed B.named
  have hlocks := B.notSynchronized
  have hS : va_S (fun _ => False) s.heap s.heap [] := va_S.rf
  obtain ⟨⟨tt, ff, hZT, hTT, hZF, hTF⟩, hXS⟩ := id hSt
  have hl := lv_entry ([.ref (b 0)]) (n := 1) (Nat.le_of_ble_eq_true rfl)
  rw [lg_entry_eq]
  generalize (lg_sl ([.ref (b 0)]) ++ List.replicate (1 - (lg_sl ([.ref (b 0)])).length) Slot.unset).toArray = ls at hl ⊢
  have hl : lv_has ls 1 [(0, .ref (b 0))] := hl
  refine zb_abs (fun Q hQ => ?_)
  refine lv_aload_n hx hb dX5_thrown_0 rfl (lv_at hl 0 rfl) ?_
  refine va_get (D := D) (ci := 5) (v := .int th) (fs := [.int th, .int N, .ref (b 1), .ref (b 2), .ref (b 3), .ref (b 4), .ref (b 5), .ref (b 6), .int 22, .int 95, .int nd.1, .int nd.2.2.1, .int nd.2.1, .long nd.2.2.2, .int t.2.1, .int t.2.2.1, .int t.2.2.2.1, .int t.2.2.2.2.1, .int t.2.2.2.2.2, .ref (b 7), .long q, .int sg, .ref (b 8), .ref (b 9), .ref (b 10), .int o.2.2.2.1, .int o.2.2.2.2]) (C := RX5) (T := TX5) (N := 27) hx hb htb inX5 hown hK hP 0 rfl rfl 0 (by decide) (htb _ kF_X5_67) (fun _ h9 => h9) rfl dX5_thrown_1 ?_
  rw [hQ]
  exact W.iret (v := th) hx hb hr (fun t9 ht hW => ⟨congrArg (fun z => Outcome.returned (some (Value.int z))) (rfl), ht⟩) (fun q h => nomatch h) dX5_thrown_4
set_option maxHeartbeats 4000000 in
set_option maxRecDepth 100000 in
theorem r_out (l : Launch) (D : va_G) (b : Nat → Nat) (cA cJ : ClassId) (N : Int32) (f : Nat → Int32) (z : Int32) (ob : OB) (t : RT) (nd : ND) (q : Int64) (sg th : Int32) (sz : Nat) (kp k i : Nat) (hkp : ob.2.1 = nI kp) (hkp32 : kp ≤ 32) (hk : k < kp) (hi : i < 4) : Met l yX5_out (wX5_out :: wb) ({ frames := 0, cells := 0, slots := 0, locals := 0 } : Room) (va_Pc [.ref (b 0), .int (nI k), .int (nI i)] (zPre D [(cA, .int), (cJ, .long)] (rw0 b cA cJ N f (ro z ob) t nd q sg th) sz)) (zb_Vi (ob.1 (k * 4 + i)) D vwCl (rw0 b cA cJ N f (ro z ob) t nd q sg 0) (va_A (rw0 b cA cJ N f (ro z ob) t nd q sg th) sz)) 0 0 (va_A (rw0 b cA cJ N f (ro z ob) t nd q sg th) sz) := by
  refine Met.ofW (cc := cX5_out) (maxL := 3) (ret := (some .int)) (by decide) rfl ?_
  intro p ev s m args below meth c s₁ B hml hv
  obtain ⟨rfl, hsz, hP, hK, hD0, hSt, hnw⟩ := hv
  have hx := B.exec
  have hb := B.bytes
  have hr := B.returns
  have hts := atoms_spec (ws := wX5_out :: wb) B.pre
  have htb : ∀ w ∈ wb, w.before ([.ref (b 0), .int (nI k), .int (nI i)]).toArray s = true := fun w h => hts w (List.mem_cons_of_mem _ h)
  have hown : s.vm.findClass RX5 = some m.cls := findClass_of_methodNamed B.named
  have hlocks := B.notSynchronized
  subst hsz
  have hD := hD0.self (sz := s.heap.size)
  clear hD0
  generalize hAe : va_A (rw0 b cA cJ N f (ro z ob) t nd q sg th) s.heap.size = A at hD hSt ⊢
  have hA : ∀ q : Nat, s.heap.size ≤ q → A q := fun q h => by rw [← hAe]; exact Or.inr h
  have hS : va_S A s.heap s.heap [] := va_S.rf
  obtain ⟨⟨tt, ff, hZT, hTT, hZF, hTF⟩, hXS⟩ := id hSt
  have hl := lv_entry ([.ref (b 0), .int (nI k), .int (nI i)]) (n := 3) (Nat.le_of_ble_eq_true rfl)
  rw [lg_entry_eq]
  generalize (lg_sl ([.ref (b 0), .int (nI k), .int (nI i)]) ++ List.replicate (3 - (lg_sl ([.ref (b 0), .int (nI k), .int (nI i)])).length) Slot.unset).toArray = ls at hl ⊢
  have hl : lv_has ls 3 [(0, .ref (b 0)), (1, .int (nI k)), (2, .int (nI i))] := hl
  refine zb_abs (fun Q hQ => ?_)
  refine lv_aload_n hx hb dX5_out_0 rfl (lv_at hl 0 rfl) ?_
  refine lv_iload_n hx hb dX5_out_1 rfl (lv_at hl 1 rfl) ?_
  refine lv_if_lt (tgt := 22) hx hb dX5_out_2 (by decide) (fun hno => absurd hno (nI_pos (by omega))) (fun _ => ?_)
  refine lv_iload_n hx hb dX5_out_5 rfl (lv_at hl 1 rfl) ?_
  refine lv_aload_n hx hb dX5_out_6 rfl (lv_at hl 0 rfl) ?_
  refine va_get (D := D) (ci := 5) (v := .int ((ro z ob).2.2.2.1)) (fs := [.int th, .int N, .ref (b 1), .ref (b 2), .ref (b 3), .ref (b 4), .ref (b 5), .ref (b 6), .int 22, .int 95, .int nd.1, .int nd.2.2.1, .int nd.2.1, .long nd.2.2.2, .int t.2.1, .int t.2.2.1, .int t.2.2.2.1, .int t.2.2.2.2.1, .int t.2.2.2.2.2, .ref (b 7), .long q, .int sg, .ref (b 8), .ref (b 9), .ref (b 10), .int ((ro z ob).2.2.2.1), .int ((ro z ob).2.2.2.2)]) (C := RX5) (T := TX5) (N := 27) hx hb htb inX5 hown hK hP 0 rfl rfl 25 (by decide) (htb _ kF_X5_75) (fun _ h9 => h9) rfl dX5_out_7 ?_
  refine lv_icmp_ge (tgt := 22) hx hb dX5_out_10 (by decide) (fun hno => absurd hno (by show ¬ ob.2.1 ≤ nI k; rw [hkp]; exact nI_ge hk (by omega))) (fun _ => ?_)
  refine lv_iload_n hx hb dX5_out_13 rfl (lv_at hl 2 rfl) ?_
  refine lv_if_lt (tgt := 22) hx hb dX5_out_14 (by decide) (fun hno => absurd hno (nI_pos (by omega))) (fun _ => ?_)
  refine lv_iload_n hx hb dX5_out_17 rfl (lv_at hl 2 rfl) ?_
  refine lv_iconst (v := 3) hx hb dX5_out_18 (by decide) ?_
  refine lv_icmp_le (tgt := 26) hx hb dX5_out_19 (by decide) (fun _ => ?_) (fun hno => absurd (nI_le (b := 3) (by omega) (by decide)) hno)
  refine lv_iconst (v := 0) hx hb dX5_out_26 (by decide) ?_
  refine va_put (D := D) (ci := 5) (v := .int 0) (fs := [.int th, .int N, .ref (b 1), .ref (b 2), .ref (b 3), .ref (b 4), .ref (b 5), .ref (b 6), .int 22, .int 95, .int nd.1, .int nd.2.2.1, .int nd.2.1, .long nd.2.2.2, .int t.2.1, .int t.2.2.1, .int t.2.2.2.1, .int t.2.2.2.2.1, .int t.2.2.2.2.2, .ref (b 7), .long q, .int sg, .ref (b 8), .ref (b 9), .ref (b 10), .int ((ro z ob).2.2.2.1), .int ((ro z ob).2.2.2.2)]) (ty := .int) (C := RX5) (T := TX5) (N := 27) hx hb htb inX5 tyX5 tyX5_ok nmX5 hown hK hP hD hS 0 rfl rfl 0 (by decide) (htb _ kF_X5_67) (fun _ h9 => h9) rfl (by decide +kernel) rfl rfl (Nat.le_of_ble_eq_true rfl) dX5_out_27 (fun H locs hP hD hS => ?_)
  have hP : va_P D vwCl (rw0 b cA cJ N f (ro z ob) t nd q sg 0) H := hP
  have hD : va_D A (rw0 b cA cJ N f (ro z ob) t nd q sg 0) := hD
  refine lv_aload_n hx hb dX5_out_30 rfl (lv_at hl 0 rfl) ?_
  refine va_get (D := D) (ci := 5) (v := .int 0) (fs := [.int 0, .int N, .ref (b 1), .ref (b 2), .ref (b 3), .ref (b 4), .ref (b 5), .ref (b 6), .int 22, .int 95, .int nd.1, .int nd.2.2.1, .int nd.2.1, .long nd.2.2.2, .int t.2.1, .int t.2.2.1, .int t.2.2.2.1, .int t.2.2.2.2.1, .int t.2.2.2.2.2, .ref (b 7), .long q, .int sg, .ref (b 8), .ref (b 9), .ref (b 10), .int ((ro z ob).2.2.2.1), .int ((ro z ob).2.2.2.2)]) (C := RX5) (T := TX5) (N := 27) hx hb htb inX5 hown hK hP 0 rfl rfl 0 (by decide) (htb _ kF_X5_67) (fun _ h9 => h9) rfl dX5_out_31 ?_
  refine lv_if_le (tgt := 39) hx hb dX5_out_34 (by decide) (fun _ => ?_) (fun hno => absurd (by decide) hno)
  refine lv_iload_n hx hb dX5_out_39 rfl (lv_at hl 2 rfl) ?_
  refine lv_if_ne (tgt := 52) hx hb dX5_out_40 (by decide) (fun hc1 => ?_) (fun hc1 => ?_)
  · refine lv_iload_n hx hb dX5_out_52 rfl (lv_at hl 2 rfl) ?_
    refine lv_iconst (v := 1) hx hb dX5_out_53 (by decide) ?_
    refine lv_icmp_ne (tgt := 66) hx hb dX5_out_54 (by decide) (fun hc2 => ?_) (fun hc2 => ?_)
    · refine lv_iload_n hx hb dX5_out_66 rfl (lv_at hl 2 rfl) ?_
      refine lv_iconst (v := 2) hx hb dX5_out_67 (by decide) ?_
      refine lv_icmp_ne (tgt := 81) hx hb dX5_out_68 (by decide) (fun hc3 => ?_) (fun hc3 => ?_)
      · refine lv_aload_n hx hb dX5_out_81 rfl (lv_at hl 0 rfl) ?_
        refine va_get (D := D) (ci := 5) (v := .ref (b 10)) (fs := [.int 0, .int N, .ref (b 1), .ref (b 2), .ref (b 3), .ref (b 4), .ref (b 5), .ref (b 6), .int 22, .int 95, .int nd.1, .int nd.2.2.1, .int nd.2.1, .long nd.2.2.2, .int t.2.1, .int t.2.2.1, .int t.2.2.2.1, .int t.2.2.2.2.1, .int t.2.2.2.2.2, .ref (b 7), .long q, .int sg, .ref (b 8), .ref (b 9), .ref (b 10), .int ((ro z ob).2.2.2.1), .int ((ro z ob).2.2.2.2)]) (C := RX5) (T := TX5) (N := 27) hx hb htb inX5 hown hK hP 0 rfl rfl 24 (by decide) (htb _ kF_X5_37) (fun _ h9 => h9) rfl dX5_out_82 ?_
        refine lv_iload_n hx hb dX5_out_85 rfl (lv_at hl 1 rfl) ?_
        refine va_lald (i := nI k) hx hb hK hP 10 1 rfl rfl (vp_in_nI (by omega) (by decide)) dX5_out_86 ?_
        refine zb_tl (y := ((ro z ob).2.2.1) k) (by rw [nI_clamp (by omega)]) ?_
        refine lv_bipush (v := 32) hx hb dX5_out_87 (by decide) ?_
        refine lv_lshr hx hb dX5_out_89 rfl ?_
        refine lv_l2i hx hb dX5_out_90 rfl ?_
        have h0 : ¬ i = 0 := fun h => hc1 (by rw [h]; rfl)
        have h1 : ¬ i = 1 := fun h => hc2 (by rw [h]; rfl)
        have h2 : ¬ i = 2 := fun h => hc3 (by rw [h]; rfl)
        obtain rfl : i = 3 := by omega
        rw [hQ]
        have hw9 : (rw0 b cA cJ N f (ro z ob) t nd q sg 0) = (rw0 b cA cJ N f (ro z ob) t nd q sg 0) := rfl
        exact W.iret (v := ((((ro z ob).2.2.1) k) >>> ((32 : Int32).toInt64 &&& 63)).toInt32) hx hb hr (fun t9 ht hW => ⟨congrArg (fun z => Outcome.returned (some (Value.int z))) (jn_hi _ _), by rw [ht, ← hw9]; exact hP, by rw [← hw9]; exact hD, hS.F ht⟩) hS.2.2 dX5_out_91
      refine lv_aload_n hx hb dX5_out_71 rfl (lv_at hl 0 rfl) ?_
      refine va_get (D := D) (ci := 5) (v := .ref (b 10)) (fs := [.int 0, .int N, .ref (b 1), .ref (b 2), .ref (b 3), .ref (b 4), .ref (b 5), .ref (b 6), .int 22, .int 95, .int nd.1, .int nd.2.2.1, .int nd.2.1, .long nd.2.2.2, .int t.2.1, .int t.2.2.1, .int t.2.2.2.1, .int t.2.2.2.2.1, .int t.2.2.2.2.2, .ref (b 7), .long q, .int sg, .ref (b 8), .ref (b 9), .ref (b 10), .int ((ro z ob).2.2.2.1), .int ((ro z ob).2.2.2.2)]) (C := RX5) (T := TX5) (N := 27) hx hb htb inX5 hown hK hP 0 rfl rfl 24 (by decide) (htb _ kF_X5_37) (fun _ h9 => h9) rfl dX5_out_72 ?_
      refine lv_iload_n hx hb dX5_out_75 rfl (lv_at hl 1 rfl) ?_
      refine va_lald (i := nI k) hx hb hK hP 10 1 rfl rfl (vp_in_nI (by omega) (by decide)) dX5_out_76 ?_
      refine zb_tl (y := ((ro z ob).2.2.1) k) (by rw [nI_clamp (by omega)]) ?_
      refine lv_l2i hx hb dX5_out_77 rfl ?_
      refine lv_goto (tgt := 91) hx hb dX5_out_78 (by decide) ?_
      obtain rfl : i = 2 := (nI_eq (by omega) (by decide)).mp hc3
      rw [hQ]
      have hw9 : (rw0 b cA cJ N f (ro z ob) t nd q sg 0) = (rw0 b cA cJ N f (ro z ob) t nd q sg 0) := rfl
      exact W.iret (v := (((ro z ob).2.2.1) k).toInt32) hx hb hr (fun t9 ht hW => ⟨congrArg (fun z => Outcome.returned (some (Value.int z))) (jn_lo _ _), by rw [ht, ← hw9]; exact hP, by rw [← hw9]; exact hD, hS.F ht⟩) hS.2.2 dX5_out_91
    refine lv_aload_n hx hb dX5_out_57 rfl (lv_at hl 0 rfl) ?_
    refine va_get (D := D) (ci := 5) (v := .ref (b 9)) (fs := [.int 0, .int N, .ref (b 1), .ref (b 2), .ref (b 3), .ref (b 4), .ref (b 5), .ref (b 6), .int 22, .int 95, .int nd.1, .int nd.2.2.1, .int nd.2.1, .long nd.2.2.2, .int t.2.1, .int t.2.2.1, .int t.2.2.2.1, .int t.2.2.2.2.1, .int t.2.2.2.2.2, .ref (b 7), .long q, .int sg, .ref (b 8), .ref (b 9), .ref (b 10), .int ((ro z ob).2.2.2.1), .int ((ro z ob).2.2.2.2)]) (C := RX5) (T := TX5) (N := 27) hx hb htb inX5 hown hK hP 0 rfl rfl 23 (by decide) (htb _ kF_X5_34) (fun _ h9 => h9) rfl dX5_out_58 ?_
    refine lv_iload_n hx hb dX5_out_61 rfl (lv_at hl 1 rfl) ?_
    refine va_iald (i := nI k) hx hb hK hP 9 0 rfl rfl (vp_in_nI (by omega) (by decide)) dX5_out_62 ?_
    refine zb_ti (y := ((ro z ob).2.1) k) (by rw [nI_clamp (by omega)]) ?_
    refine lv_goto (tgt := 91) hx hb dX5_out_63 (by decide) ?_
    obtain rfl : i = 1 := (nI_eq (by omega) (by decide)).mp hc2
    rw [hQ]
    have hw9 : (rw0 b cA cJ N f (ro z ob) t nd q sg 0) = (rw0 b cA cJ N f (ro z ob) t nd q sg 0) := rfl
    exact W.iret (v := ((ro z ob).2.1) k) hx hb hr (fun t9 ht hW => ⟨congrArg (fun z => Outcome.returned (some (Value.int z))) (rfl), by rw [ht, ← hw9]; exact hP, by rw [← hw9]; exact hD, hS.F ht⟩) hS.2.2 dX5_out_91
  refine lv_aload_n hx hb dX5_out_43 rfl (lv_at hl 0 rfl) ?_
  refine va_get (D := D) (ci := 5) (v := .ref (b 8)) (fs := [.int 0, .int N, .ref (b 1), .ref (b 2), .ref (b 3), .ref (b 4), .ref (b 5), .ref (b 6), .int 22, .int 95, .int nd.1, .int nd.2.2.1, .int nd.2.1, .long nd.2.2.2, .int t.2.1, .int t.2.2.1, .int t.2.2.2.1, .int t.2.2.2.2.1, .int t.2.2.2.2.2, .ref (b 7), .long q, .int sg, .ref (b 8), .ref (b 9), .ref (b 10), .int ((ro z ob).2.2.2.1), .int ((ro z ob).2.2.2.2)]) (C := RX5) (T := TX5) (N := 27) hx hb htb inX5 hown hK hP 0 rfl rfl 22 (by decide) (htb _ kF_X5_31) (fun _ h9 => h9) rfl dX5_out_44 ?_
  refine lv_iload_n hx hb dX5_out_47 rfl (lv_at hl 1 rfl) ?_
  refine va_iald (i := nI k) hx hb hK hP 8 0 rfl rfl (vp_in_nI (by omega) (by decide)) dX5_out_48 ?_
  refine zb_ti (y := ((ro z ob).1) k) (by rw [nI_clamp (by omega)]) ?_
  refine lv_goto (tgt := 91) hx hb dX5_out_49 (by decide) ?_
  obtain rfl : i = 0 := (nI_eq (by omega) (by decide)).mp hc1
  rw [hQ]
  have hw9 : (rw0 b cA cJ N f (ro z ob) t nd q sg 0) = (rw0 b cA cJ N f (ro z ob) t nd q sg 0) := rfl
  exact W.iret (v := ((ro z ob).1) k) hx hb hr (fun t9 ht hW => ⟨congrArg (fun z => Outcome.returned (some (Value.int z))) (rfl), by rw [ht, ← hw9]; exact hP, by rw [← hw9]; exact hD, hS.F ht⟩) hS.2.2 dX5_out_91
set_option maxHeartbeats 4000000 in
set_option maxRecDepth 100000 in
theorem r_outNo (l : Launch) (D : va_G) (b : Nat → Nat) (cA cJ : ClassId) (N : Int32) (f : Nat → Int32) (z : Int32) (ob : OB) (t : RT) (nd : ND) (q : Int64) (sg th : Int32) (sz : Nat) (k i : Int32) (hbad : k < 0 ∨ ob.2.1 ≤ k ∨ i < 0 ∨ 4 ≤ i) : Met l yX5_out (wX5_out :: wb) ({ frames := 0, cells := 0, slots := 0, locals := 0 } : Room) (va_Pc [.ref (b 0), .int k, .int i] (zPre D [(cA, .int), (cJ, .long)] (rw0 b cA cJ N f (ro z ob) t nd q sg th) sz)) (zb_Vi 0 D vwCl (rw0 b cA cJ N f (ro z ob) t nd q sg 1) (va_A (rw0 b cA cJ N f (ro z ob) t nd q sg th) sz)) 0 0 (va_A (rw0 b cA cJ N f (ro z ob) t nd q sg th) sz) := by
  refine Met.ofW (cc := cX5_out) (maxL := 3) (ret := (some .int)) (by decide) rfl ?_
  intro p ev s m args below meth c s₁ B hml hv
  obtain ⟨rfl, hsz, hP, hK, hD0, hSt, hnw⟩ := hv
  have hx := B.exec
  have hb := B.bytes
  have hr := B.returns
  have hts := atoms_spec (ws := wX5_out :: wb) B.pre
  have htb : ∀ w ∈ wb, w.before ([.ref (b 0), .int k, .int i]).toArray s = true := fun w h => hts w (List.mem_cons_of_mem _ h)
  have hown : s.vm.findClass RX5 = some m.cls := findClass_of_methodNamed B.named
  have hlocks := B.notSynchronized
  subst hsz
  have hD := hD0.self (sz := s.heap.size)
  clear hD0
  generalize hAe : va_A (rw0 b cA cJ N f (ro z ob) t nd q sg th) s.heap.size = A at hD hSt ⊢
  have hA : ∀ q : Nat, s.heap.size ≤ q → A q := fun q h => by rw [← hAe]; exact Or.inr h
  have hS : va_S A s.heap s.heap [] := va_S.rf
  obtain ⟨⟨tt, ff, hZT, hTT, hZF, hTF⟩, hXS⟩ := id hSt
  have hl := lv_entry ([.ref (b 0), .int k, .int i]) (n := 3) (Nat.le_of_ble_eq_true rfl)
  rw [lg_entry_eq]
  generalize (lg_sl ([.ref (b 0), .int k, .int i]) ++ List.replicate (3 - (lg_sl ([.ref (b 0), .int k, .int i])).length) Slot.unset).toArray = ls at hl ⊢
  have hl : lv_has ls 3 [(0, .ref (b 0)), (1, .int k), (2, .int i)] := hl
  refine zb_abs (fun Q hQ => ?_)
  refine lv_aload_n hx hb dX5_out_0 rfl (lv_at hl 0 rfl) ?_
  refine lv_iload_n hx hb dX5_out_1 rfl (lv_at hl 1 rfl) ?_
  refine lv_if_lt (tgt := 22) hx hb dX5_out_2 (by decide) (fun hc1 => ?_) (fun hc1 => ?_)
  · refine lv_iconst (v := 1) hx hb dX5_out_22 (by decide) ?_
    refine lv_goto (tgt := 27) hx hb dX5_out_23 (by decide) ?_
    refine va_put (D := D) (ci := 5) (v := .int 1) (fs := [.int th, .int N, .ref (b 1), .ref (b 2), .ref (b 3), .ref (b 4), .ref (b 5), .ref (b 6), .int 22, .int 95, .int nd.1, .int nd.2.2.1, .int nd.2.1, .long nd.2.2.2, .int t.2.1, .int t.2.2.1, .int t.2.2.2.1, .int t.2.2.2.2.1, .int t.2.2.2.2.2, .ref (b 7), .long q, .int sg, .ref (b 8), .ref (b 9), .ref (b 10), .int ((ro z ob).2.2.2.1), .int ((ro z ob).2.2.2.2)]) (ty := .int) (C := RX5) (T := TX5) (N := 27) hx hb htb inX5 tyX5 tyX5_ok nmX5 hown hK hP hD hS 0 rfl rfl 0 (by decide) (htb _ kF_X5_67) (fun _ h9 => h9) rfl (by decide +kernel) rfl rfl (Nat.le_of_ble_eq_true rfl) dX5_out_27 (fun H locs hP hD hS => ?_)
    have hP : va_P D vwCl (rw0 b cA cJ N f (ro z ob) t nd q sg 1) H := hP
    have hD : va_D A (rw0 b cA cJ N f (ro z ob) t nd q sg 1) := hD
    refine lv_aload_n hx hb dX5_out_30 rfl (lv_at hl 0 rfl) ?_
    refine va_get (D := D) (ci := 5) (v := .int 1) (fs := [.int 1, .int N, .ref (b 1), .ref (b 2), .ref (b 3), .ref (b 4), .ref (b 5), .ref (b 6), .int 22, .int 95, .int nd.1, .int nd.2.2.1, .int nd.2.1, .long nd.2.2.2, .int t.2.1, .int t.2.2.1, .int t.2.2.2.1, .int t.2.2.2.2.1, .int t.2.2.2.2.2, .ref (b 7), .long q, .int sg, .ref (b 8), .ref (b 9), .ref (b 10), .int ((ro z ob).2.2.2.1), .int ((ro z ob).2.2.2.2)]) (C := RX5) (T := TX5) (N := 27) hx hb htb inX5 hown hK hP 0 rfl rfl 0 (by decide) (htb _ kF_X5_67) (fun _ h9 => h9) rfl dX5_out_31 ?_
    refine lv_if_le (tgt := 39) hx hb dX5_out_34 (by decide) (fun hno => absurd hno (by decide)) (fun _ => ?_)
    refine lv_iconst (v := 0) hx hb dX5_out_37 (by decide) ?_
    rw [hQ]
    have hw9 : (rw0 b cA cJ N f (ro z ob) t nd q sg 1) = (rw0 b cA cJ N f (ro z ob) t nd q sg 1) := rfl
    exact W.iret (v := 0) hx hb hr (fun t9 ht hW => ⟨congrArg (fun z => Outcome.returned (some (Value.int z))) (rfl), by rw [ht, ← hw9]; exact hP, by rw [← hw9]; exact hD, hS.F ht⟩) hS.2.2 dX5_out_38
  refine lv_iload_n hx hb dX5_out_5 rfl (lv_at hl 1 rfl) ?_
  refine lv_aload_n hx hb dX5_out_6 rfl (lv_at hl 0 rfl) ?_
  refine va_get (D := D) (ci := 5) (v := .int ((ro z ob).2.2.2.1)) (fs := [.int th, .int N, .ref (b 1), .ref (b 2), .ref (b 3), .ref (b 4), .ref (b 5), .ref (b 6), .int 22, .int 95, .int nd.1, .int nd.2.2.1, .int nd.2.1, .long nd.2.2.2, .int t.2.1, .int t.2.2.1, .int t.2.2.2.1, .int t.2.2.2.2.1, .int t.2.2.2.2.2, .ref (b 7), .long q, .int sg, .ref (b 8), .ref (b 9), .ref (b 10), .int ((ro z ob).2.2.2.1), .int ((ro z ob).2.2.2.2)]) (C := RX5) (T := TX5) (N := 27) hx hb htb inX5 hown hK hP 0 rfl rfl 25 (by decide) (htb _ kF_X5_75) (fun _ h9 => h9) rfl dX5_out_7 ?_
  refine lv_icmp_ge (tgt := 22) hx hb dX5_out_10 (by decide) (fun hc2 => ?_) (fun hc2 => ?_)
  · refine lv_iconst (v := 1) hx hb dX5_out_22 (by decide) ?_
    refine lv_goto (tgt := 27) hx hb dX5_out_23 (by decide) ?_
    refine va_put (D := D) (ci := 5) (v := .int 1) (fs := [.int th, .int N, .ref (b 1), .ref (b 2), .ref (b 3), .ref (b 4), .ref (b 5), .ref (b 6), .int 22, .int 95, .int nd.1, .int nd.2.2.1, .int nd.2.1, .long nd.2.2.2, .int t.2.1, .int t.2.2.1, .int t.2.2.2.1, .int t.2.2.2.2.1, .int t.2.2.2.2.2, .ref (b 7), .long q, .int sg, .ref (b 8), .ref (b 9), .ref (b 10), .int ((ro z ob).2.2.2.1), .int ((ro z ob).2.2.2.2)]) (ty := .int) (C := RX5) (T := TX5) (N := 27) hx hb htb inX5 tyX5 tyX5_ok nmX5 hown hK hP hD hS 0 rfl rfl 0 (by decide) (htb _ kF_X5_67) (fun _ h9 => h9) rfl (by decide +kernel) rfl rfl (Nat.le_of_ble_eq_true rfl) dX5_out_27 (fun H locs hP hD hS => ?_)
    have hP : va_P D vwCl (rw0 b cA cJ N f (ro z ob) t nd q sg 1) H := hP
    have hD : va_D A (rw0 b cA cJ N f (ro z ob) t nd q sg 1) := hD
    refine lv_aload_n hx hb dX5_out_30 rfl (lv_at hl 0 rfl) ?_
    refine va_get (D := D) (ci := 5) (v := .int 1) (fs := [.int 1, .int N, .ref (b 1), .ref (b 2), .ref (b 3), .ref (b 4), .ref (b 5), .ref (b 6), .int 22, .int 95, .int nd.1, .int nd.2.2.1, .int nd.2.1, .long nd.2.2.2, .int t.2.1, .int t.2.2.1, .int t.2.2.2.1, .int t.2.2.2.2.1, .int t.2.2.2.2.2, .ref (b 7), .long q, .int sg, .ref (b 8), .ref (b 9), .ref (b 10), .int ((ro z ob).2.2.2.1), .int ((ro z ob).2.2.2.2)]) (C := RX5) (T := TX5) (N := 27) hx hb htb inX5 hown hK hP 0 rfl rfl 0 (by decide) (htb _ kF_X5_67) (fun _ h9 => h9) rfl dX5_out_31 ?_
    refine lv_if_le (tgt := 39) hx hb dX5_out_34 (by decide) (fun hno => absurd hno (by decide)) (fun _ => ?_)
    refine lv_iconst (v := 0) hx hb dX5_out_37 (by decide) ?_
    rw [hQ]
    have hw9 : (rw0 b cA cJ N f (ro z ob) t nd q sg 1) = (rw0 b cA cJ N f (ro z ob) t nd q sg 1) := rfl
    exact W.iret (v := 0) hx hb hr (fun t9 ht hW => ⟨congrArg (fun z => Outcome.returned (some (Value.int z))) (rfl), by rw [ht, ← hw9]; exact hP, by rw [← hw9]; exact hD, hS.F ht⟩) hS.2.2 dX5_out_38
  refine lv_iload_n hx hb dX5_out_13 rfl (lv_at hl 2 rfl) ?_
  refine lv_if_lt (tgt := 22) hx hb dX5_out_14 (by decide) (fun hc3 => ?_) (fun hc3 => ?_)
  · refine lv_iconst (v := 1) hx hb dX5_out_22 (by decide) ?_
    refine lv_goto (tgt := 27) hx hb dX5_out_23 (by decide) ?_
    refine va_put (D := D) (ci := 5) (v := .int 1) (fs := [.int th, .int N, .ref (b 1), .ref (b 2), .ref (b 3), .ref (b 4), .ref (b 5), .ref (b 6), .int 22, .int 95, .int nd.1, .int nd.2.2.1, .int nd.2.1, .long nd.2.2.2, .int t.2.1, .int t.2.2.1, .int t.2.2.2.1, .int t.2.2.2.2.1, .int t.2.2.2.2.2, .ref (b 7), .long q, .int sg, .ref (b 8), .ref (b 9), .ref (b 10), .int ((ro z ob).2.2.2.1), .int ((ro z ob).2.2.2.2)]) (ty := .int) (C := RX5) (T := TX5) (N := 27) hx hb htb inX5 tyX5 tyX5_ok nmX5 hown hK hP hD hS 0 rfl rfl 0 (by decide) (htb _ kF_X5_67) (fun _ h9 => h9) rfl (by decide +kernel) rfl rfl (Nat.le_of_ble_eq_true rfl) dX5_out_27 (fun H locs hP hD hS => ?_)
    have hP : va_P D vwCl (rw0 b cA cJ N f (ro z ob) t nd q sg 1) H := hP
    have hD : va_D A (rw0 b cA cJ N f (ro z ob) t nd q sg 1) := hD
    refine lv_aload_n hx hb dX5_out_30 rfl (lv_at hl 0 rfl) ?_
    refine va_get (D := D) (ci := 5) (v := .int 1) (fs := [.int 1, .int N, .ref (b 1), .ref (b 2), .ref (b 3), .ref (b 4), .ref (b 5), .ref (b 6), .int 22, .int 95, .int nd.1, .int nd.2.2.1, .int nd.2.1, .long nd.2.2.2, .int t.2.1, .int t.2.2.1, .int t.2.2.2.1, .int t.2.2.2.2.1, .int t.2.2.2.2.2, .ref (b 7), .long q, .int sg, .ref (b 8), .ref (b 9), .ref (b 10), .int ((ro z ob).2.2.2.1), .int ((ro z ob).2.2.2.2)]) (C := RX5) (T := TX5) (N := 27) hx hb htb inX5 hown hK hP 0 rfl rfl 0 (by decide) (htb _ kF_X5_67) (fun _ h9 => h9) rfl dX5_out_31 ?_
    refine lv_if_le (tgt := 39) hx hb dX5_out_34 (by decide) (fun hno => absurd hno (by decide)) (fun _ => ?_)
    refine lv_iconst (v := 0) hx hb dX5_out_37 (by decide) ?_
    rw [hQ]
    have hw9 : (rw0 b cA cJ N f (ro z ob) t nd q sg 1) = (rw0 b cA cJ N f (ro z ob) t nd q sg 1) := rfl
    exact W.iret (v := 0) hx hb hr (fun t9 ht hW => ⟨congrArg (fun z => Outcome.returned (some (Value.int z))) (rfl), by rw [ht, ← hw9]; exact hP, by rw [← hw9]; exact hD, hS.F ht⟩) hS.2.2 dX5_out_38
  refine lv_iload_n hx hb dX5_out_17 rfl (lv_at hl 2 rfl) ?_
  refine lv_iconst (v := 3) hx hb dX5_out_18 (by decide) ?_
  refine lv_icmp_le (tgt := 26) hx hb dX5_out_19 (by decide) (fun hc4 => ?_) (fun hc4 => ?_)
  · exact absurd hbad (by rintro (h | h | h | h); exact hc1 h; exact hc2 h; exact hc3 h; exact absurd (Int32.le_trans h hc4) (by decide))
  refine lv_iconst (v := 1) hx hb dX5_out_22 (by decide) ?_
  refine lv_goto (tgt := 27) hx hb dX5_out_23 (by decide) ?_
  refine va_put (D := D) (ci := 5) (v := .int 1) (fs := [.int th, .int N, .ref (b 1), .ref (b 2), .ref (b 3), .ref (b 4), .ref (b 5), .ref (b 6), .int 22, .int 95, .int nd.1, .int nd.2.2.1, .int nd.2.1, .long nd.2.2.2, .int t.2.1, .int t.2.2.1, .int t.2.2.2.1, .int t.2.2.2.2.1, .int t.2.2.2.2.2, .ref (b 7), .long q, .int sg, .ref (b 8), .ref (b 9), .ref (b 10), .int ((ro z ob).2.2.2.1), .int ((ro z ob).2.2.2.2)]) (ty := .int) (C := RX5) (T := TX5) (N := 27) hx hb htb inX5 tyX5 tyX5_ok nmX5 hown hK hP hD hS 0 rfl rfl 0 (by decide) (htb _ kF_X5_67) (fun _ h9 => h9) rfl (by decide +kernel) rfl rfl (Nat.le_of_ble_eq_true rfl) dX5_out_27 (fun H locs hP hD hS => ?_)
  have hP : va_P D vwCl (rw0 b cA cJ N f (ro z ob) t nd q sg 1) H := hP
  have hD : va_D A (rw0 b cA cJ N f (ro z ob) t nd q sg 1) := hD
  refine lv_aload_n hx hb dX5_out_30 rfl (lv_at hl 0 rfl) ?_
  refine va_get (D := D) (ci := 5) (v := .int 1) (fs := [.int 1, .int N, .ref (b 1), .ref (b 2), .ref (b 3), .ref (b 4), .ref (b 5), .ref (b 6), .int 22, .int 95, .int nd.1, .int nd.2.2.1, .int nd.2.1, .long nd.2.2.2, .int t.2.1, .int t.2.2.1, .int t.2.2.2.1, .int t.2.2.2.2.1, .int t.2.2.2.2.2, .ref (b 7), .long q, .int sg, .ref (b 8), .ref (b 9), .ref (b 10), .int ((ro z ob).2.2.2.1), .int ((ro z ob).2.2.2.2)]) (C := RX5) (T := TX5) (N := 27) hx hb htb inX5 hown hK hP 0 rfl rfl 0 (by decide) (htb _ kF_X5_67) (fun _ h9 => h9) rfl dX5_out_31 ?_
  refine lv_if_le (tgt := 39) hx hb dX5_out_34 (by decide) (fun hno => absurd hno (by decide)) (fun _ => ?_)
  refine lv_iconst (v := 0) hx hb dX5_out_37 (by decide) ?_
  rw [hQ]
  have hw9 : (rw0 b cA cJ N f (ro z ob) t nd q sg 1) = (rw0 b cA cJ N f (ro z ob) t nd q sg 1) := rfl
  exact W.iret (v := 0) hx hb hr (fun t9 ht hW => ⟨congrArg (fun z => Outcome.returned (some (Value.int z))) (rfl), by rw [ht, ← hw9]; exact hP, by rw [← hw9]; exact hD, hS.F ht⟩) hS.2.2 dX5_out_38
