theorem cnt_r {f : Nat → Int32} (m : Nat) (hm : xZ m = 1) : nI (sm f (xP m) (min (xZ m) 4)) = nI (bv f (xP m)) := by rw [hm, show min 1 4 = 1 from rfl, sm_1]
theorem stF_8 (st : Int32) (f : Nat → Int32) (v : Nat) : stF st f 8 v = (if 240 < v ∧ v < 254 then 101253168 else 0) := rfl
theorem stF_3 (st : Int32) (f : Nat → Int32) (v : Nat) : stF st f 3 v = (if st = 127 then cF f 3 6 v else 134217762) := rfl
theorem stF_9 (st : Int32) (f : Nat → Int32) (v : Nat) : stF st f 9 v = (if st = 127 then cF f 9 5 v else 134217762) := rfl
theorem stF_T (st : Int32) (f : Nat → Int32) {e : Nat} (v : Nat) (h1 : 4 ≤ e) (h2 : e ≤ 7) : stF st f e v = (if st = 127 then nF (cT f) 6 (nI v) else 134217762) := by
  unfold stF
  rw [if_neg (by omega), if_pos ⟨h1, h2⟩]
theorem stF_G (st : Int32) (f : Nat → Int32) {e : Nat} (v : Nat) (h1 : 10 ≤ e) (h2 : e ≤ 13) : stF st f e v = (if st = 127 then nF (cG f) 5 (nI v) else 134217762) := by
  unfold stF
  rw [if_neg (by omega), if_neg (by omega), if_neg (by omega), if_pos ⟨h1, h2⟩]
theorem stF_o (st : Int32) (f : Nat → Int32) {e : Nat} (v : Nat) (h : e < 3 ∨ 14 ≤ e) : stF st f e v = 0 := by
  unfold stF
  rw [if_neg (by omega), if_neg (by omega), if_neg (by omega), if_neg (by omega), if_neg (by omega)]
set_option maxHeartbeats 4000000 in
set_option maxRecDepth 100000 in
theorem r_content (l : Launch) (D : va_G) (b : Nat → Nat) (cA cJ : ClassId) (N : Int32) (f : Nat → Int32) (o : RO) (t : RT) (nd : ND) (q : Int64) (sg th : Int32)  (hB : isB f) (hG : mapK f 9 5) : Met l yX5_content (wX5_content :: wb) ({ frames := 1, cells := 0, slots := 0, locals := 24 } : Room) (va_Pc [.ref (b 0)] (zPu D [(cA, .int), (cJ, .long)] (rw0 b cA cJ N f o t nd q sg th))) (zb_L (lN (gC f))) 0 0 (fun _ => False) := by
  refine Met.ofW (cc := cX5_content) (maxL := 7) (ret := (some .long)) (by decide) rfl ?_
  intro p ev s m args below meth c s₁ B hml hv
  obtain ⟨rfl, hP, hK, hSt, hnw⟩ := hv
  have hx := B.exec
  have hb := B.bytes
  have hr := B.returns
  have hts := atoms_spec (ws := wX5_content :: wb) B.pre
  have htb : ∀ w ∈ wb, w.before ([.ref (b 0)]).toArray s = true := fun w h => hts w (List.mem_cons_of_mem _ h)
  have hown : s.vm.findClass RX5 = some m.cls := findClass_of_methodNamed B.named
  have hlocks := B.notSynchronized
  have hS : va_S (fun _ => False) s.heap s.heap [] := va_S.rf
  obtain ⟨⟨tt, ff, hZT, hTT, hZF, hTF⟩, hXS⟩ := id hSt
  have hl := lv_entry ([.ref (b 0)]) (n := 7) (Nat.le_of_ble_eq_true rfl)
  rw [lg_entry_eq]
  generalize (lg_sl ([.ref (b 0)]) ++ List.replicate (7 - (lg_sl ([.ref (b 0)])).length) Slot.unset).toArray = ls at hl ⊢
  have hl : lv_has ls 7 [(0, .ref (b 0))] := hl
  refine zb_abs (fun Q hQ => ?_)
  have hG1 : cG f ≤ 4 := hG.1
  have hG8 : mL f 9 5 (cG f) ≤ 8 := hG.2.2
  refine lv_lconst (v := 0) hx hb dX5_content_0 (by decide) ?_
  refine lv_lstore_n hx hb dX5_content_1 rfl hl (by decide) rfl (fun ls hl => ?_)
  have hl : lv_has ls 7 [(1, .long 0), (0, .ref (b 0))] := hl
  refine lv_iconst (v := 0) hx hb dX5_content_2 (by decide) ?_
  refine lv_istore_n hx hb dX5_content_3 rfl hl (by decide) rfl (fun ls hl => ?_)
  have hl : lv_has ls 7 [(3, .int 0), (1, .long 0), (0, .ref (b 0))] := hl
  refine lv_iconst (v := 1) hx hb dX5_content_4 (by decide) ?_
  refine lv_istore hx hb dX5_content_5 hl (by decide) rfl (fun ls hl => ?_)
  have hl : lv_has ls 7 [(4, .int 1), (3, .int 0), (1, .long 0), (0, .ref (b 0))] := hl
  have lp : ∀ (nn k : Nat) (ls : Array Slot), k + nn = cG f → lv_has ls 7 [(0, .ref (b 0)), (1, .long (lN (mC f 9 5 (k)))), (3, .int (nI (mL f 9 5 (k)))), (4, .int (nI (k + 1)))] → W p l ev ({ frames := 1, cells := 0, slots := 0, locals := 24 } : Room) s m ([.ref (b 0)]).toArray below meth c s.heap [] 0 0 Q (F0 m 7 ls []) := by
    intro nn
    induction nn with
    | zero =>
      intro k ls hk_lp  hl
      have hk0_lp : k = cG f := by omega
      refine lv_iload hx hb dX5_content_7 (lv_at hl 3 rfl) ?_
      refine lv_aload_n hx hb dX5_content_9 rfl (lv_at hl 0 rfl) ?_
      refine lv_bipush (v := 9) hx hb dX5_content_10 (by decide) ?_
      refine zb_ci (va_runV (As := [.int 9]) (rest := [.int (nI (k + 1))]) ⟨hx, hb, hml, hown, htb⟩ (r_number l D b cA cJ N f o t nd q sg th 9 hB (by omega)) (cwV 1 htb (wb_V kM_X5_97 kI_X5_number kS_X5_number kN_X5 kD_X5_number) rfl rfl rfl (by decide +kernel) ⟨Nat.le_of_ble_eq_true rfl, Nat.le_of_ble_eq_true rfl⟩) (zp_V 0 rfl rfl hP hK hSt hS hnw) rfl rfl hl.1 rfl (lv_room (Nat.le_of_ble_eq_true rfl)) dX5_content_12 ⟨Nat.le_of_ble_eq_true rfl, Nat.le_of_ble_eq_true rfl⟩) ?_
      refine zb_ti (y := nI (cG f)) (cnt_r 9 rfl) ?_
      refine lv_icmp_gt (tgt := 88) hx hb dX5_content_15 (by decide) (fun _ => ?_) (fun hno => absurd (by rw [hk0_lp]; exact nI_lt (Nat.lt_succ_self _) (by omega)) hno)
      refine lv_lload_n hx hb dX5_content_88 rfl (lv_at hl 1 rfl) ?_
      rw [hQ]
      exact W.lret (v := lN (mC f 9 5 (k))) hx hb hr (fun t9 ht hW => ⟨congrArg (fun z => Outcome.returned (some (Value.long z))) (by rw [hk0_lp]; rfl), ht⟩) (fun q h => nomatch h) dX5_content_89
    | succ nn ih_lp =>
      intro k ls hk_lp  hl
      have hk1_lp : k < cG f := by omega
      refine lv_iload hx hb dX5_content_7 (lv_at hl 3 rfl) ?_
      refine lv_aload_n hx hb dX5_content_9 rfl (lv_at hl 0 rfl) ?_
      refine lv_bipush (v := 9) hx hb dX5_content_10 (by decide) ?_
      refine zb_ci (va_runV (As := [.int 9]) (rest := [.int (nI (k + 1))]) ⟨hx, hb, hml, hown, htb⟩ (r_number l D b cA cJ N f o t nd q sg th 9 hB (by omega)) (cwV 1 htb (wb_V kM_X5_97 kI_X5_number kS_X5_number kN_X5 kD_X5_number) rfl rfl rfl (by decide +kernel) ⟨Nat.le_of_ble_eq_true rfl, Nat.le_of_ble_eq_true rfl⟩) (zp_V 0 rfl rfl hP hK hSt hS hnw) rfl rfl hl.1 rfl (lv_room (Nat.le_of_ble_eq_true rfl)) dX5_content_12 ⟨Nat.le_of_ble_eq_true rfl, Nat.le_of_ble_eq_true rfl⟩) ?_
      refine zb_ti (y := nI (cG f)) (cnt_r 9 rfl) ?_
      refine lv_icmp_gt (tgt := 88) hx hb dX5_content_15 (by decide) (fun hno => absurd hno (nI_nlt hk1_lp (by omega))) (fun _ => ?_)
      have hz4 := (by decide : ∀ k, k < 4 → xZ (9 + (k + 1)) = 4 ∧ 9 + (k + 1) < 22) k (by omega)
      obtain ⟨e9, hme⟩ := mOk_at hG.2.1 (show k + 1 ≤ cG f by omega)
      have h22 := mE_lt hme
      have hft9 := x_fit e9 h22
      have hm9 := mL_mono f 9 5 (show k + 1 ≤ cG f by omega)
      rw [mL_s hme] at hm9
      have hc9 := mC_lt hB 9 5 k
      refine lv_aload_n hx hb dX5_content_18 rfl (lv_at hl 0 rfl) ?_
      refine lv_aload_n hx hb dX5_content_19 rfl (lv_at hl 0 rfl) ?_
      refine lv_bipush (v := 9) hx hb dX5_content_20 (by decide) ?_
      refine lv_iload hx hb dX5_content_22 (lv_at hl 3 rfl) ?_
      refine lv_iadd hx hb dX5_content_24 ?_
      refine zb_ti (nI_add 9 (k + 1)) ?_
      refine zb_ci (va_runV (As := [.int (nI (9 + (k + 1)))]) (rest := [.ref (b 0)]) ⟨hx, hb, hml, hown, htb⟩ (r_number l D b cA cJ N f o t nd q sg th (9 + (k + 1)) hB (by omega)) (cwV 1 htb (wb_V kM_X5_97 kI_X5_number kS_X5_number kN_X5 kD_X5_number) rfl rfl rfl (by decide +kernel) ⟨Nat.le_of_ble_eq_true rfl, Nat.le_of_ble_eq_true rfl⟩) (zp_V 0 rfl rfl hP hK hSt hS hnw) rfl rfl hl.1 rfl (lv_room (Nat.le_of_ble_eq_true rfl)) dX5_content_25 ⟨Nat.le_of_ble_eq_true rfl, Nat.le_of_ble_eq_true rfl⟩) ?_
      refine zb_ti (y := nI (sm f (xP (9 + (k + 1))) 4)) (by rw [hz4.1]; rfl) ?_
      refine lv_iconst (v := 1) hx hb dX5_content_28 (by decide) ?_
      refine zb_ci (va_runV (As := [.int (nI (sm f (xP (9 + (k + 1))) 4)), .int 1]) (rest := []) ⟨hx, hb, hml, hown, htb⟩ (r_named l D b cA cJ N f o t nd q sg th (nI (sm f (xP (9 + (k + 1))) 4)) 1 (by decide) (by decide)) (cwV 2 htb (wb_V kM_X5_104 kI_X5_named kS_X5_named kN_X5 kD_X5_named) rfl rfl rfl (by decide +kernel) ⟨Nat.le_of_ble_eq_true rfl, Nat.le_of_ble_eq_true rfl⟩) (zp_V 0 rfl rfl hP hK hSt hS hnw) rfl rfl hl.1 rfl (lv_room (Nat.le_of_ble_eq_true rfl)) dX5_content_29 ⟨Nat.le_of_ble_eq_true rfl, Nat.le_of_ble_eq_true rfl⟩) ?_
      refine zb_ti (y := nI e9) (by show oI (mE f 9 5 (k + 1)) = _; rw [hme]; rfl) ?_
      refine lv_istore hx hb dX5_content_32 hl (by decide) rfl (fun ls hl => ?_)
      have hl : lv_has ls 7 [(5, .int (nI e9)), (0, .ref (b 0)), (1, .long (lN (mC f 9 5 (k)))), (3, .int (nI (mL f 9 5 (k)))), (4, .int (nI (k + 1)))] := hl
      refine lv_iconst (v := 0) hx hb dX5_content_34 (by decide) ?_
      refine lv_istore hx hb dX5_content_35 hl (by decide) rfl (fun ls hl => ?_)
      have hl : lv_has ls 7 [(6, .int 0), (5, .int (nI e9)), (0, .ref (b 0)), (1, .long (lN (mC f 9 5 (k)))), (3, .int (nI (mL f 9 5 (k)))), (4, .int (nI (k + 1)))] := hl
      have e1 : (lN (mC f 9 5 (k)) : Int64) = lN (mC f 9 5 k + sm f (xP e9) (0) * 2 ^ (8 * mL f 9 5 k)) := by show _ = lN (mC f 9 5 k + 0 * _); rw [Nat.zero_mul, Nat.add_zero]
      have hl : lv_has ls 7 [(6, .int 0), (5, .int (nI e9)), (0, .ref (b 0)), (1, .long (lN (mC f 9 5 k + sm f (xP e9) (0) * 2 ^ (8 * mL f 9 5 k)))), (3, .int (nI (mL f 9 5 (k)))), (4, .int (nI (k + 1)))] := Eq.mp (congrArg (fun zz9 : Int64 => lv_has ls 7 [(6, .int 0), (5, .int (nI e9)), (0, .ref (b 0)), (1, .long zz9), (3, .int (nI (mL f 9 5 (k)))), (4, .int (nI (k + 1)))]) e1) hl
      have lq : ∀ (nn j : Nat) (ls : Array Slot), j + nn = xZ e9 → lv_has ls 7 [(0, .ref (b 0)), (1, .long (lN (mC f 9 5 k + sm f (xP e9) (j) * 2 ^ (8 * mL f 9 5 k)))), (3, .int (nI (mL f 9 5 k + (j)))), (4, .int (nI (k + 1))), (5, .int (nI e9)), (6, .int (nI (j)))] → W p l ev ({ frames := 1, cells := 0, slots := 0, locals := 24 } : Room) s m ([.ref (b 0)]).toArray below meth c s.heap [] 0 0 Q (F0 m 37 ls []) := by
        intro nn
        induction nn with
        | zero =>
          intro j ls hk_lq  hl
          have hk0_lq : j = xZ e9 := by omega
          refine lv_iload hx hb dX5_content_37 (lv_at hl 5 rfl) ?_
          refine lv_aload_n hx hb dX5_content_39 rfl (lv_at hl 0 rfl) ?_
          refine va_get (D := D) (ci := 5) (v := .ref (b 3)) (fs := [.int th, .int N, .ref (b 1), .ref (b 2), .ref (b 3), .ref (b 4), .ref (b 5), .ref (b 6), .int 22, .int 95, .int nd.1, .int nd.2.2.1, .int nd.2.1, .long nd.2.2.2, .int t.2.1, .int t.2.2.1, .int t.2.2.2.1, .int t.2.2.2.2.1, .int t.2.2.2.2.2, .ref (b 7), .long q, .int sg, .ref (b 8), .ref (b 9), .ref (b 10), .int o.2.2.2.1, .int o.2.2.2.2]) (C := RX5) (T := TX5) (N := 27) hx hb htb inX5 hown hK hP 0 rfl rfl 4 (by decide) (htb _ kF_X5_16) (fun _ h9 => h9) rfl dX5_content_40 ?_
          refine lv_iload hx hb dX5_content_43 (lv_at hl 4 rfl) ?_
          refine va_iald (i := nI e9) hx hb hK hP 3 0 rfl rfl (vp_in_nI (by omega) (by decide)) dX5_content_45 ?_
          refine zb_ti (y := nI (xZ e9)) (by rw [nI_clamp (by omega)]) ?_
          refine lv_icmp_ge (tgt := 82) hx hb dX5_content_46 (by decide) (fun _ => ?_) (fun hno => absurd (by rw [hk0_lq]; exact nI_le (Nat.le_refl _) (by omega)) hno)
          have e2 : (lN (mC f 9 5 k + sm f (xP e9) (j) * 2 ^ (8 * mL f 9 5 k)) : Int64) = lN (mC f 9 5 (k + 1)) := by rw [hk0_lq, mC_s hme]
          have hl : lv_has ls 7 [(0, .ref (b 0)), (1, .long (lN (mC f 9 5 (k + 1)))), (3, .int (nI (mL f 9 5 k + (j)))), (4, .int (nI (k + 1))), (5, .int (nI e9)), (6, .int (nI (j)))] := Eq.mp (congrArg (fun zz9 : Int64 => lv_has ls 7 [(0, .ref (b 0)), (1, .long zz9), (3, .int (nI (mL f 9 5 k + (j)))), (4, .int (nI (k + 1))), (5, .int (nI e9)), (6, .int (nI (j)))]) e2) hl
          have e3 : (nI (mL f 9 5 k + (j)) : Int32) = nI (mL f 9 5 (k + 1)) := by rw [hk0_lq, mL_s hme]
          have hl : lv_has ls 7 [(0, .ref (b 0)), (1, .long (lN (mC f 9 5 (k + 1)))), (3, .int (nI (mL f 9 5 (k + 1)))), (4, .int (nI (k + 1))), (5, .int (nI e9)), (6, .int (nI (j)))] := Eq.mp (congrArg (fun zz9 : Int32 => lv_has ls 7 [(0, .ref (b 0)), (1, .long (lN (mC f 9 5 (k + 1)))), (3, .int zz9), (4, .int (nI (k + 1))), (5, .int (nI e9)), (6, .int (nI (j)))]) e3) hl
          refine lv_iinc (k := 3) (v := nI ((k + 1) + 1)) hx hb dX5_content_82 hl rfl (nI_1 (k + 1)) (by decide) rfl (fun ls hl => ?_)
          have hl : lv_has ls 7 [(4, .int (nI ((k + 1) + 1))), (0, .ref (b 0)), (1, .long (lN (mC f 9 5 (k + 1)))), (3, .int (nI (mL f 9 5 (k + 1)))), (5, .int (nI e9)), (6, .int (nI (j)))] := hl
          refine lv_goto (tgt := 7) hx hb dX5_content_85 (by decide) ?_
          exact ih_lp (k + 1) ls (by omega) (lv_sub hl [1, 2, 3, 0] rfl)
        | succ nn ih_lq =>
          intro j ls hk_lq  hl
          have hk1_lq : j < xZ e9 := by omega
          refine lv_iload hx hb dX5_content_37 (lv_at hl 5 rfl) ?_
          refine lv_aload_n hx hb dX5_content_39 rfl (lv_at hl 0 rfl) ?_
          refine va_get (D := D) (ci := 5) (v := .ref (b 3)) (fs := [.int th, .int N, .ref (b 1), .ref (b 2), .ref (b 3), .ref (b 4), .ref (b 5), .ref (b 6), .int 22, .int 95, .int nd.1, .int nd.2.2.1, .int nd.2.1, .long nd.2.2.2, .int t.2.1, .int t.2.2.1, .int t.2.2.2.1, .int t.2.2.2.2.1, .int t.2.2.2.2.2, .ref (b 7), .long q, .int sg, .ref (b 8), .ref (b 9), .ref (b 10), .int o.2.2.2.1, .int o.2.2.2.2]) (C := RX5) (T := TX5) (N := 27) hx hb htb inX5 hown hK hP 0 rfl rfl 4 (by decide) (htb _ kF_X5_16) (fun _ h9 => h9) rfl dX5_content_40 ?_
          refine lv_iload hx hb dX5_content_43 (lv_at hl 4 rfl) ?_
          refine va_iald (i := nI e9) hx hb hK hP 3 0 rfl rfl (vp_in_nI (by omega) (by decide)) dX5_content_45 ?_
          refine zb_ti (y := nI (xZ e9)) (by rw [nI_clamp (by omega)]) ?_
          refine lv_icmp_ge (tgt := 82) hx hb dX5_content_46 (by decide) (fun hno => absurd hno (nI_ge (a := j) (b := xZ e9) hk1_lq (by omega))) (fun _ => ?_)
          refine lv_lload_n hx hb dX5_content_49 rfl (lv_at hl 1 rfl) ?_
          refine lv_aload_n hx hb dX5_content_50 rfl (lv_at hl 0 rfl) ?_
          refine va_get (D := D) (ci := 5) (v := .ref (b 6)) (fs := [.int th, .int N, .ref (b 1), .ref (b 2), .ref (b 3), .ref (b 4), .ref (b 5), .ref (b 6), .int 22, .int 95, .int nd.1, .int nd.2.2.1, .int nd.2.1, .long nd.2.2.2, .int t.2.1, .int t.2.2.1, .int t.2.2.2.1, .int t.2.2.2.2.1, .int t.2.2.2.2.2, .ref (b 7), .long q, .int sg, .ref (b 8), .ref (b 9), .ref (b 10), .int o.2.2.2.1, .int o.2.2.2.2]) (C := RX5) (T := TX5) (N := 27) hx hb htb inX5 hown hK hP 0 rfl rfl 7 (by decide) (htb _ kF_X5_25) (fun _ h9 => h9) rfl dX5_content_51 ?_
          refine lv_aload_n hx hb dX5_content_54 rfl (lv_at hl 0 rfl) ?_
          refine va_get (D := D) (ci := 5) (v := .ref (b 5)) (fs := [.int th, .int N, .ref (b 1), .ref (b 2), .ref (b 3), .ref (b 4), .ref (b 5), .ref (b 6), .int 22, .int 95, .int nd.1, .int nd.2.2.1, .int nd.2.1, .long nd.2.2.2, .int t.2.1, .int t.2.2.1, .int t.2.2.2.1, .int t.2.2.2.2.1, .int t.2.2.2.2.2, .ref (b 7), .long q, .int sg, .ref (b 8), .ref (b 9), .ref (b 10), .int o.2.2.2.1, .int o.2.2.2.2]) (C := RX5) (T := TX5) (N := 27) hx hb htb inX5 hown hK hP 0 rfl rfl 6 (by decide) (htb _ kF_X5_22) (fun _ h9 => h9) rfl dX5_content_55 ?_
          refine lv_iload hx hb dX5_content_58 (lv_at hl 4 rfl) ?_
          refine va_iald (i := nI e9) hx hb hK hP 5 0 rfl rfl (vp_in_nI (by omega) (by decide)) dX5_content_60 ?_
          refine zb_ti (y := nI (xP e9)) (by rw [nI_clamp (by omega)]) ?_
          refine lv_iload hx hb dX5_content_61 (lv_at hl 5 rfl) ?_
          refine lv_iadd hx hb dX5_content_63 ?_
          refine zb_ti (nI_add (xP e9) (j)) ?_
          refine va_iald (i := nI ((xP e9) + (j))) hx hb hK hP 6 0 rfl rfl (vp_in_nI (by omega) (by decide)) dX5_content_64 ?_
          refine zb_ti (y := f ((xP e9) + (j))) (by rw [nI_clamp (by omega)]) ?_
          refine lv_i2l hx hb dX5_content_65 rfl ?_
          refine lv_bipush (v := 8) hx hb dX5_content_66 (by decide) ?_
          refine lv_iload_n hx hb dX5_content_68 rfl (lv_at hl 2 rfl) ?_
          refine lv_imul hx hb dX5_content_69 ?_
          refine zb_ti (pk_mul 8 (mL f 9 5 k + (j))) ?_
          refine lv_lshl hx hb dX5_content_70 rfl ?_
          refine lv_lor hx hb dX5_content_71 ?_
          refine zb_tl (y := lN (mC f 9 5 k + sm f (xP e9) (j + 1) * 2 ^ (8 * mL f 9 5 k))) (mC_j hB hc9 (by omega)) ?_
          refine lv_lstore_n hx hb dX5_content_72 rfl hl (by decide) rfl (fun ls hl => ?_)
          have hl : lv_has ls 7 [(1, .long (lN (mC f 9 5 k + sm f (xP e9) (j + 1) * 2 ^ (8 * mL f 9 5 k)))), (0, .ref (b 0)), (3, .int (nI (mL f 9 5 k + (j)))), (4, .int (nI (k + 1))), (5, .int (nI e9)), (6, .int (nI (j)))] := hl
          refine lv_iinc (k := 2) (v := nI ((mL f 9 5 k + (j)) + 1)) hx hb dX5_content_73 hl rfl (nI_1 (mL f 9 5 k + (j))) (by decide) rfl (fun ls hl => ?_)
          have hl : lv_has ls 7 [(3, .int (nI ((mL f 9 5 k + (j)) + 1))), (1, .long (lN (mC f 9 5 k + sm f (xP e9) (j + 1) * 2 ^ (8 * mL f 9 5 k)))), (0, .ref (b 0)), (4, .int (nI (k + 1))), (5, .int (nI e9)), (6, .int (nI (j)))] := hl
          refine lv_iinc (k := 5) (v := nI ((j) + 1)) hx hb dX5_content_76 hl rfl (nI_1 (j)) (by decide) rfl (fun ls hl => ?_)
          have hl : lv_has ls 7 [(6, .int (nI ((j) + 1))), (3, .int (nI ((mL f 9 5 k + (j)) + 1))), (1, .long (lN (mC f 9 5 k + sm f (xP e9) (j + 1) * 2 ^ (8 * mL f 9 5 k)))), (0, .ref (b 0)), (4, .int (nI (k + 1))), (5, .int (nI e9))] := hl
          refine lv_goto (tgt := 37) hx hb dX5_content_79 (by decide) ?_
          exact ih_lq (j + 1) ls (by omega) (lv_sub hl [3, 2, 1, 4, 5, 0] rfl)
      exact lq (xZ e9 - 0) (0) ls (by omega) (lv_sub hl [2, 3, 4, 5, 1, 0] rfl)
  exact lp (cG f - 0) (0) ls (by omega) (lv_sub hl [3, 2, 1, 0] rfl)
set_option maxHeartbeats 4000000 in
set_option maxRecDepth 100000 in
theorem r_storing (l : Launch) (D : va_G) (b : Nat → Nat) (cA cJ : ClassId) (N : Int32) (f : Nat → Int32) (o : RO) (t : RT) (nd : ND) (q : Int64) (sg th : Int32) (e : Nat) (hB : isB f) (hBh : isB t.1) (he : e < 22) : Met l yX5_storing (wX5_storing :: wb) ({ frames := 2, cells := 0, slots := 0, locals := 50 } : Room) (va_Pc [.ref (b 0), .int (nI e)] (zPu D [(cA, .int), (cJ, .long)] (rw0 b cA cJ N f o t nd q sg th))) (zb_I (nI (stF nd.1 f e (sm t.1 0 (min (xZ e) 4))))) 0 0 (fun _ => False) := by
  refine Met.ofW (cc := cX5_storing) (maxL := 5) (ret := (some .int)) (by decide) rfl ?_
  intro p ev s m args below meth c s₁ B hml hv
  obtain ⟨rfl, hP, hK, hSt, hnw⟩ := hv
  have hx := B.exec
  have hb := B.bytes
  have hr := B.returns
  have hts := atoms_spec (ws := wX5_storing :: wb) B.pre
  have htb : ∀ w ∈ wb, w.before ([.ref (b 0), .int (nI e)]).toArray s = true := fun w h => hts w (List.mem_cons_of_mem _ h)
  have hown : s.vm.findClass RX5 = some m.cls := findClass_of_methodNamed B.named
  have hlocks := B.notSynchronized
  have hS : va_S (fun _ => False) s.heap s.heap [] := va_S.rf
  obtain ⟨⟨tt, ff, hZT, hTT, hZF, hTF⟩, hXS⟩ := id hSt
  have hl := lv_entry ([.ref (b 0), .int (nI e)]) (n := 5) (Nat.le_of_ble_eq_true rfl)
  rw [lg_entry_eq]
  generalize (lg_sl ([.ref (b 0), .int (nI e)]) ++ List.replicate (5 - (lg_sl ([.ref (b 0), .int (nI e)])).length) Slot.unset).toArray = ls at hl ⊢
  have hl : lv_has ls 5 [(0, .ref (b 0)), (1, .int (nI e))] := hl
  refine zb_abs (fun Q hQ => ?_)
  have hft := x_fit e he
  refine lv_aload_n hx hb dX5_storing_0 rfl (lv_at hl 0 rfl) ?_
  refine va_get (D := D) (ci := 5) (v := .ref (b 7)) (fs := [.int th, .int N, .ref (b 1), .ref (b 2), .ref (b 3), .ref (b 4), .ref (b 5), .ref (b 6), .int 22, .int 95, .int nd.1, .int nd.2.2.1, .int nd.2.1, .long nd.2.2.2, .int t.2.1, .int t.2.2.1, .int t.2.2.2.1, .int t.2.2.2.2.1, .int t.2.2.2.2.2, .ref (b 7), .long q, .int sg, .ref (b 8), .ref (b 9), .ref (b 10), .int o.2.2.2.1, .int o.2.2.2.2]) (C := RX5) (T := TX5) (N := 27) hx hb htb inX5 hown hK hP 0 rfl rfl 19 (by decide) (htb _ kF_X5_28) (fun _ h9 => h9) rfl dX5_storing_1 ?_
  refine lv_iconst (v := 0) hx hb dX5_storing_4 (by decide) ?_
  refine va_iald (i := nI 0) hx hb hK hP 7 0 rfl rfl (vp_in_nI (by omega) (by decide)) dX5_storing_5 ?_
  refine zb_ti (y := t.1 0) (by rw [nI_clamp (by omega)]) ?_
  refine lv_istore_n hx hb dX5_storing_6 rfl hl (by decide) rfl (fun ls hl => ?_)
  have hl : lv_has ls 5 [(2, .int (t.1 0)), (0, .ref (b 0)), (1, .int (nI e))] := hl
  refine lv_iconst (v := 1) hx hb dX5_storing_7 (by decide) ?_
  refine lv_istore_n hx hb dX5_storing_8 rfl hl (by decide) rfl (fun ls hl => ?_)
  have hl : lv_has ls 5 [(3, .int 1), (2, .int (t.1 0)), (0, .ref (b 0)), (1, .int (nI e))] := hl
  have e1 : (t.1 0 : Int32) = nI (sm t.1 0 1) := by rw [sm_1]; exact (bv_of hBh 0).2
  have hl : lv_has ls 5 [(3, .int 1), (2, .int (nI (sm t.1 0 1))), (0, .ref (b 0)), (1, .int (nI e))] := Eq.mp (congrArg (fun zz9 : Int32 => lv_has ls 5 [(3, .int 1), (2, .int zz9), (0, .ref (b 0)), (1, .int (nI e))]) e1) hl
  have lp : ∀ (nn k : Nat) (ls : Array Slot), k + nn = min (xZ e) 4 → lv_has ls 5 [(0, .ref (b 0)), (1, .int (nI e)), (2, .int (nI (sm t.1 0 (k)))), (3, .int (nI (k)))] → W p l ev ({ frames := 2, cells := 0, slots := 0, locals := 50 } : Room) s m ([.ref (b 0), .int (nI e)]).toArray below meth c s.heap [] 0 0 Q (F0 m 9 ls []) := by
    intro nn
    induction nn with
    | zero =>
      intro k ls hk_lp  hl
      have hk0_lp : k = min (xZ e) 4 := by omega
      refine lv_iload_n hx hb dX5_storing_9 rfl (lv_at hl 3 rfl) ?_
      refine lv_aload_n hx hb dX5_storing_10 rfl (lv_at hl 0 rfl) ?_
      refine va_get (D := D) (ci := 5) (v := .ref (b 3)) (fs := [.int th, .int N, .ref (b 1), .ref (b 2), .ref (b 3), .ref (b 4), .ref (b 5), .ref (b 6), .int 22, .int 95, .int nd.1, .int nd.2.2.1, .int nd.2.1, .long nd.2.2.2, .int t.2.1, .int t.2.2.1, .int t.2.2.2.1, .int t.2.2.2.2.1, .int t.2.2.2.2.2, .ref (b 7), .long q, .int sg, .ref (b 8), .ref (b 9), .ref (b 10), .int o.2.2.2.1, .int o.2.2.2.2]) (C := RX5) (T := TX5) (N := 27) hx hb htb inX5 hown hK hP 0 rfl rfl 4 (by decide) (htb _ kF_X5_16) (fun _ h9 => h9) rfl dX5_storing_11 ?_
      refine lv_iload_n hx hb dX5_storing_14 rfl (lv_at hl 1 rfl) ?_
      refine va_iald (i := nI e) hx hb hK hP 3 0 rfl rfl (vp_in_nI (by omega) (by decide)) dX5_storing_15 ?_
      refine zb_ti (y := nI (xZ e)) (by rw [nI_clamp (by omega)]) ?_
      refine lv_icmp_ge (tgt := 44) hx hb dX5_storing_16 (by decide) (fun hc2 => ?_) (fun hc2 => ?_)
      · have e3 : (nI (sm t.1 0 (k)) : Int32) = nI (sm t.1 0 (min (xZ e) 4)) := by rw [hk0_lp]
        have hl : lv_has ls 5 [(0, .ref (b 0)), (1, .int (nI e)), (2, .int (nI (sm t.1 0 (min (xZ e) 4)))), (3, .int (nI (k)))] := Eq.mp (congrArg (fun zz9 : Int32 => lv_has ls 5 [(0, .ref (b 0)), (1, .int (nI e)), (2, .int zz9), (3, .int (nI (k)))]) e3) hl
        rcases (show e = 8 ∨ e = 3 ∨ (4 ≤ e ∧ e ≤ 7) ∨ e = 9 ∨ (10 ≤ e ∧ e ≤ 13) ∨ e < 3 ∨ 14 ≤ e by omega) with he9 | he9 | he9 | he9 | he9 | he9 | he9
        · subst he9
          have hV8 : sm t.1 0 (min (xZ 8) 4) < 256 := sm_lt hBh 0 1
          refine lv_iload_n hx hb dX5_storing_44 rfl (lv_at hl 1 rfl) ?_
          refine lv_bipush (v := 8) hx hb dX5_storing_45 (by decide) ?_
          refine lv_icmp_ne (tgt := 71) hx hb dX5_storing_47 (by decide) (fun hno => absurd (rfl) hno) (fun _ => ?_)
          refine lv_iload_n hx hb dX5_storing_50 rfl (lv_at hl 2 rfl) ?_
          refine lv_sipush (v := 240) hx hb dX5_storing_51 (by decide) ?_
          refine lv_icmp_le (tgt := 69) hx hb dX5_storing_54 (by decide) (fun hc4 => ?_) (fun hc4 => ?_)
          · refine lv_iconst (v := 0) hx hb dX5_storing_69 (by decide) ?_
            rw [hQ]
            exact W.iret (v := 0) hx hb hr (fun t9 ht hW => ⟨congrArg (fun z => Outcome.returned (some (Value.int z))) (by rw [stF_8, if_neg (fun h => by have := (nI_leI (b := 240) (by omega) (by decide)).mp hc4; omega)]; rfl), ht⟩) (fun q h => nomatch h) dX5_storing_70
          refine lv_iload_n hx hb dX5_storing_57 rfl (lv_at hl 2 rfl) ?_
          refine lv_sipush (v := 254) hx hb dX5_storing_58 (by decide) ?_
          refine lv_icmp_ge (tgt := 69) hx hb dX5_storing_61 (by decide) (fun hc5 => ?_) (fun hc5 => ?_)
          · refine lv_iconst (v := 0) hx hb dX5_storing_69 (by decide) ?_
            rw [hQ]
            exact W.iret (v := 0) hx hb hr (fun t9 ht hW => ⟨congrArg (fun z => Outcome.returned (some (Value.int z))) (by rw [stF_8, if_neg (fun h => by have := (nI_leI (a := 254) (by decide) (by omega)).mp hc5; omega)]; rfl), ht⟩) (fun q h => nomatch h) dX5_storing_70
          refine lv_ldc (v := 101253168) hx hb hown (htb _ kK_X5_140) dX5_storing_64 ?_
          refine lv_goto (tgt := 70) hx hb dX5_storing_66 (by decide) ?_
          rw [hQ]
          exact W.iret (v := 101253168) hx hb hr (fun t9 ht hW => ⟨congrArg (fun z => Outcome.returned (some (Value.int z))) (by rw [stF_8, if_pos ⟨by have h9 : ¬ sm t.1 0 (min (xZ 8) 4) ≤ 240 := fun h => hc4 ((nI_leI (b := 240) (by omega) (by decide)).mpr h); omega, by have h9 : ¬ 254 ≤ sm t.1 0 (min (xZ 8) 4) := fun h => hc5 ((nI_leI (a := 254) (by decide) (by omega)).mpr h); omega⟩]; rfl), ht⟩) (fun q h => nomatch h) dX5_storing_70
        · subst he9
          have hV8 : sm t.1 0 (min (xZ 3) 4) < 256 := sm_lt hBh 0 1
          refine lv_iload_n hx hb dX5_storing_44 rfl (lv_at hl 1 rfl) ?_
          refine lv_bipush (v := 8) hx hb dX5_storing_45 (by decide) ?_
          refine lv_icmp_ne (tgt := 71) hx hb dX5_storing_47 (by decide) (fun _ => ?_) (fun hno => absurd hno (fun h => by have := (nI_eq (a := 3) (b := 8) (by omega) (by decide)).mp h; omega))
          refine lv_iload_n hx hb dX5_storing_71 rfl (lv_at hl 1 rfl) ?_
          refine lv_iconst (v := 3) hx hb dX5_storing_72 (by decide) ?_
          refine lv_icmp_lt (tgt := 86) hx hb dX5_storing_73 (by decide) (fun hno => absurd hno (nI_nlt (a := 3) (b := 3) (by omega) (by omega))) (fun _ => ?_)
          refine lv_iload_n hx hb dX5_storing_76 rfl (lv_at hl 1 rfl) ?_
          refine lv_bipush (v := 8) hx hb dX5_storing_77 (by decide) ?_
          refine lv_icmp_ge (tgt := 86) hx hb dX5_storing_79 (by decide) (fun hno => absurd hno (nI_ge (a := 3) (b := 8) (by omega) (by decide))) (fun _ => ?_)
          refine lv_iconst (v := 3) hx hb dX5_storing_82 (by decide) ?_
          refine lv_goto (tgt := 104) hx hb dX5_storing_83 (by decide) ?_
          refine lv_istore_n hx hb dX5_storing_104 rfl hl (by decide) rfl (fun ls hl => ?_)
          have hl : lv_has ls 5 [(3, .int 3), (0, .ref (b 0)), (1, .int (nI 3)), (2, .int (nI (sm t.1 0 (min (xZ 3) 4))))] := hl
          refine lv_iload_n hx hb dX5_storing_105 rfl (lv_at hl 0 rfl) ?_
          refine lv_if_ne (tgt := 111) hx hb dX5_storing_106 (by decide) (fun _ => ?_) (fun hno => absurd hno (by decide))
          refine lv_aload_n hx hb dX5_storing_111 rfl (lv_at hl 1 rfl) ?_
          refine va_get (D := D) (ci := 5) (v := .int nd.1) (fs := [.int th, .int N, .ref (b 1), .ref (b 2), .ref (b 3), .ref (b 4), .ref (b 5), .ref (b 6), .int 22, .int 95, .int nd.1, .int nd.2.2.1, .int nd.2.1, .long nd.2.2.2, .int t.2.1, .int t.2.2.1, .int t.2.2.2.1, .int t.2.2.2.2.1, .int t.2.2.2.2.2, .ref (b 7), .long q, .int sg, .ref (b 8), .ref (b 9), .ref (b 10), .int o.2.2.2.1, .int o.2.2.2.2]) (C := RX5) (T := TX5) (N := 27) hx hb htb inX5 hown hK hP 0 rfl rfl 10 (by decide) (htb _ kF_X5_82) (fun _ h9 => h9) rfl dX5_storing_112 ?_
          refine lv_bipush (v := 127) hx hb dX5_storing_115 (by decide) ?_
          refine lv_icmp_eq (tgt := 123) hx hb dX5_storing_117 (by decide) (fun hc6 => ?_) (fun hc6 => ?_)
          · refine lv_iload_n hx hb dX5_storing_123 rfl (lv_at hl 2 rfl) ?_
            refine lv_iload_n hx hb dX5_storing_124 rfl (lv_at hl 0 rfl) ?_
            refine lv_icmp_le (tgt := 164) hx hb dX5_storing_125 (by decide) (fun _ => ?_) (fun hno => absurd (nI_le (a := 3) (b := 3) (by omega) (by omega)) hno)
            refine lv_iload_n hx hb dX5_storing_164 rfl (lv_at hl 3 rfl) ?_
            refine lv_iconst (v := 4) hx hb dX5_storing_165 (by decide) ?_
            refine lv_icmp_le (tgt := 172) hx hb dX5_storing_166 (by decide) (fun hc7 => ?_) (fun hc7 => ?_)
            · refine lv_aload_n hx hb dX5_storing_172 rfl (lv_at hl 1 rfl) ?_
              refine lv_iload_n hx hb dX5_storing_173 rfl (lv_at hl 0 rfl) ?_
              refine lv_iload_n hx hb dX5_storing_174 rfl (lv_at hl 3 rfl) ?_
              refine zb_ci (va_runV (As := [.int 3, .int (nI (sm t.1 0 (min (xZ 3) 4)))]) (rest := []) ⟨hx, hb, hml, hown, htb⟩ (r_lengthT l D b cA cJ N f o t nd q sg th (sm t.1 0 (min (xZ 3) 4)) hB ((nI_leI (b := 4) (by omega) (by decide)).mp hc7)) (cwV 2 htb (wb_V kM_X5_116 kI_X5_lengthOf kS_X5_lengthOf kN_X5 kD_X5_lengthOf) rfl rfl rfl (by decide +kernel) ⟨Nat.le_of_ble_eq_true rfl, Nat.le_of_ble_eq_true rfl⟩) (zp_V 0 rfl rfl hP hK hSt hS hnw) rfl rfl hl.1 rfl (lv_room (Nat.le_of_ble_eq_true rfl)) dX5_storing_175 ⟨Nat.le_of_ble_eq_true rfl, Nat.le_of_ble_eq_true rfl⟩) ?_
              by_cases hc8 : mOk f 3 6 (sm t.1 0 (min (xZ 3) 4)) = true
              · refine zb_ti (y := nI (mL f 3 6 (sm t.1 0 (min (xZ 3) 4)))) (if_pos hc8) ?_
                have hm31 := mL_31 f 3 6 (sm t.1 0 (min (xZ 3) 4)) ((nI_leI (b := 4) (by omega) (by decide)).mp hc7)
                refine lv_istore hx hb dX5_storing_178 hl (by decide) rfl (fun ls hl => ?_)
                have hl : lv_has ls 5 [(4, .int (nI (mL f 3 6 (sm t.1 0 (min (xZ 3) 4))))), (3, .int 3), (0, .ref (b 0)), (1, .int (nI 3)), (2, .int (nI (sm t.1 0 (min (xZ 3) 4))))] := hl
                refine lv_iload hx hb dX5_storing_180 (lv_at hl 0 rfl) ?_
                refine lv_if_ge (tgt := 190) hx hb dX5_storing_182 (by decide) (fun _ => ?_) (fun hno => absurd (nI_le (a := 0) (Nat.zero_le _) hm31) hno)
                refine lv_iload hx hb dX5_storing_190 (lv_at hl 0 rfl) ?_
                refine lv_bipush (v := 8) hx hb dX5_storing_192 (by decide) ?_
                refine lv_icmp_le (tgt := 202) hx hb dX5_storing_194 (by decide) (fun hc9 => ?_) (fun hc9 => ?_)
                · refine lv_iconst (v := 0) hx hb dX5_storing_202 (by decide) ?_
                  rw [hQ]
                  exact W.iret (v := 0) hx hb hr (fun t9 ht hW => ⟨congrArg (fun z => Outcome.returned (some (Value.int z))) (by rw [stF_3, if_pos hc6]; unfold cF; rw [if_neg (show ¬ 4 < sm t.1 0 (min (xZ 3) 4) by have := (nI_leI (b := 4) (by omega) (by decide)).mp hc7; omega), if_pos hc8, if_neg (show ¬ 8 < mL f 3 6 (sm t.1 0 (min (xZ 3) 4)) by have := (nI_leI (b := 8) hm31 (by decide)).mp hc9; omega)]; rfl), ht⟩) (fun q h => nomatch h) dX5_storing_203
                refine lv_ldc (v := 100925506) hx hb hown (htb _ kK_X5_144) dX5_storing_197 ?_
                refine lv_goto (tgt := 203) hx hb dX5_storing_199 (by decide) ?_
                rw [hQ]
                exact W.iret (v := 100925506) hx hb hr (fun t9 ht hW => ⟨congrArg (fun z => Outcome.returned (some (Value.int z))) (by rw [stF_3, if_pos hc6]; unfold cF; rw [if_neg (show ¬ 4 < sm t.1 0 (min (xZ 3) 4) by have := (nI_leI (b := 4) (by omega) (by decide)).mp hc7; omega), if_pos hc8, if_pos (show 8 < mL f 3 6 (sm t.1 0 (min (xZ 3) 4)) by have h9 : ¬ mL f 3 6 (sm t.1 0 (min (xZ 3) 4)) ≤ 8 := fun h => hc9 ((nI_leI (b := 8) hm31 (by decide)).mpr h); omega)]; rfl), ht⟩) (fun q h => nomatch h) dX5_storing_203
              · refine zb_ti (y := (-1)) (if_neg hc8) ?_
                refine lv_istore hx hb dX5_storing_178 hl (by decide) rfl (fun ls hl => ?_)
                have hl : lv_has ls 5 [(4, .int (-1)), (3, .int 3), (0, .ref (b 0)), (1, .int (nI 3)), (2, .int (nI (sm t.1 0 (min (xZ 3) 4))))] := hl
                refine lv_iload hx hb dX5_storing_180 (lv_at hl 0 rfl) ?_
                refine lv_if_ge (tgt := 190) hx hb dX5_storing_182 (by decide) (fun hno => absurd hno (by decide)) (fun _ => ?_)
                refine lv_ldc (v := 100925505) hx hb hown (htb _ kK_X5_143) dX5_storing_185 ?_
                refine lv_goto (tgt := 203) hx hb dX5_storing_187 (by decide) ?_
                rw [hQ]
                exact W.iret (v := 100925505) hx hb hr (fun t9 ht hW => ⟨congrArg (fun z => Outcome.returned (some (Value.int z))) (by rw [stF_3, if_pos hc6]; unfold cF; rw [if_neg (show ¬ 4 < sm t.1 0 (min (xZ 3) 4) by have := (nI_leI (b := 4) (by omega) (by decide)).mp hc7; omega), if_neg hc8]; rfl), ht⟩) (fun q h => nomatch h) dX5_storing_203
            refine lv_ldc (v := 101253168) hx hb hown (htb _ kK_X5_140) dX5_storing_169 ?_
            rw [hQ]
            exact W.iret (v := 101253168) hx hb hr (fun t9 ht hW => ⟨congrArg (fun z => Outcome.returned (some (Value.int z))) (by rw [stF_3, if_pos hc6]; unfold cF; rw [if_pos (show 4 < sm t.1 0 (min (xZ 3) 4) by have h9 : ¬ sm t.1 0 (min (xZ 3) 4) ≤ 4 := fun h => hc7 ((nI_leI (b := 4) (by omega) (by decide)).mpr h); omega)]; rfl), ht⟩) (fun q h => nomatch h) dX5_storing_171
          refine lv_ldc (v := 134217762) hx hb hown (htb _ kK_X5_141) dX5_storing_120 ?_
          rw [hQ]
          exact W.iret (v := 134217762) hx hb hr (fun t9 ht hW => ⟨congrArg (fun z => Outcome.returned (some (Value.int z))) (by rw [stF_3, if_neg hc6]; rfl), ht⟩) (fun q h => nomatch h) dX5_storing_122
        · refine lv_iload_n hx hb dX5_storing_44 rfl (lv_at hl 1 rfl) ?_
          refine lv_bipush (v := 8) hx hb dX5_storing_45 (by decide) ?_
          refine lv_icmp_ne (tgt := 71) hx hb dX5_storing_47 (by decide) (fun _ => ?_) (fun hno => absurd hno (fun h => by have := (nI_eq (a := e) (b := 8) (by omega) (by decide)).mp h; omega))
          refine lv_iload_n hx hb dX5_storing_71 rfl (lv_at hl 1 rfl) ?_
          refine lv_iconst (v := 3) hx hb dX5_storing_72 (by decide) ?_
          refine lv_icmp_lt (tgt := 86) hx hb dX5_storing_73 (by decide) (fun hno => absurd hno (nI_nlt (a := e) (b := 3) (by omega) (by omega))) (fun _ => ?_)
          refine lv_iload_n hx hb dX5_storing_76 rfl (lv_at hl 1 rfl) ?_
          refine lv_bipush (v := 8) hx hb dX5_storing_77 (by decide) ?_
          refine lv_icmp_ge (tgt := 86) hx hb dX5_storing_79 (by decide) (fun hno => absurd hno (nI_ge (a := e) (b := 8) (by omega) (by decide))) (fun _ => ?_)
          refine lv_iconst (v := 3) hx hb dX5_storing_82 (by decide) ?_
          refine lv_goto (tgt := 104) hx hb dX5_storing_83 (by decide) ?_
          refine lv_istore_n hx hb dX5_storing_104 rfl hl (by decide) rfl (fun ls hl => ?_)
          have hl : lv_has ls 5 [(3, .int 3), (0, .ref (b 0)), (1, .int (nI e)), (2, .int (nI (sm t.1 0 (min (xZ e) 4))))] := hl
          refine lv_iload_n hx hb dX5_storing_105 rfl (lv_at hl 0 rfl) ?_
          refine lv_if_ne (tgt := 111) hx hb dX5_storing_106 (by decide) (fun _ => ?_) (fun hno => absurd hno (by decide))
          refine lv_aload_n hx hb dX5_storing_111 rfl (lv_at hl 1 rfl) ?_
          refine va_get (D := D) (ci := 5) (v := .int nd.1) (fs := [.int th, .int N, .ref (b 1), .ref (b 2), .ref (b 3), .ref (b 4), .ref (b 5), .ref (b 6), .int 22, .int 95, .int nd.1, .int nd.2.2.1, .int nd.2.1, .long nd.2.2.2, .int t.2.1, .int t.2.2.1, .int t.2.2.2.1, .int t.2.2.2.2.1, .int t.2.2.2.2.2, .ref (b 7), .long q, .int sg, .ref (b 8), .ref (b 9), .ref (b 10), .int o.2.2.2.1, .int o.2.2.2.2]) (C := RX5) (T := TX5) (N := 27) hx hb htb inX5 hown hK hP 0 rfl rfl 10 (by decide) (htb _ kF_X5_82) (fun _ h9 => h9) rfl dX5_storing_112 ?_
          refine lv_bipush (v := 127) hx hb dX5_storing_115 (by decide) ?_
          refine lv_icmp_eq (tgt := 123) hx hb dX5_storing_117 (by decide) (fun hc10 => ?_) (fun hc10 => ?_)
          · refine lv_iload_n hx hb dX5_storing_123 rfl (lv_at hl 2 rfl) ?_
            refine lv_iload_n hx hb dX5_storing_124 rfl (lv_at hl 0 rfl) ?_
            refine lv_icmp_le (tgt := 164) hx hb dX5_storing_125 (by decide) (fun hno => absurd hno (nI_ge (a := 3) (b := e) (by omega) (by omega))) (fun _ => ?_)
            refine lv_aload_n hx hb dX5_storing_128 rfl (lv_at hl 1 rfl) ?_
            refine lv_iload_n hx hb dX5_storing_129 rfl (lv_at hl 0 rfl) ?_
            refine zb_ci (va_runV (As := [.int 3]) (rest := []) ⟨hx, hb, hml, hown, htb⟩ (r_number l D b cA cJ N f o t nd q sg th 3 hB (by omega)) (cwV 1 htb (wb_V kM_X5_97 kI_X5_number kS_X5_number kN_X5 kD_X5_number) rfl rfl rfl (by decide +kernel) ⟨Nat.le_of_ble_eq_true rfl, Nat.le_of_ble_eq_true rfl⟩) (zp_V 0 rfl rfl hP hK hSt hS hnw) rfl rfl hl.1 rfl (lv_room (Nat.le_of_ble_eq_true rfl)) dX5_storing_130 ⟨Nat.le_of_ble_eq_true rfl, Nat.le_of_ble_eq_true rfl⟩) ?_
            refine zb_ti (y := nI (cT f)) (cnt_r 3 rfl) ?_
            refine lv_if_eq (tgt := 141) hx hb dX5_storing_133 (by decide) (fun hc11 => ?_) (fun hc11 => ?_)
            · refine lv_iload_n hx hb dX5_storing_141 rfl (lv_at hl 3 rfl) ?_
              refine lv_if_eq (tgt := 162) hx hb dX5_storing_142 (by decide) (fun hc12 => ?_) (fun hc12 => ?_)
              · refine lv_iconst (v := 0) hx hb dX5_storing_162 (by decide) ?_
                rw [hQ]
                exact W.iret (v := 0) hx hb hr (fun t9 ht hW => ⟨congrArg (fun z => Outcome.returned (some (Value.int z))) (by rw [stF_T _ _ _ he9.1 he9.2, if_pos hc10]; unfold nF; rw [if_pos (show cT f = 0 from (nI_eq (show cT f < 2 ^ 31 from Nat.lt_trans (bv_of hB (xP 3)).1 (by decide)) (by decide)).mp hc11), if_pos hc12]; rfl), ht⟩) (fun q h => nomatch h) dX5_storing_163
              refine lv_aload_n hx hb dX5_storing_145 rfl (lv_at hl 1 rfl) ?_
              refine lv_iload_n hx hb dX5_storing_146 rfl (lv_at hl 3 rfl) ?_
              refine lv_iload_n hx hb dX5_storing_147 rfl (lv_at hl 0 rfl) ?_
              refine zb_ci (va_runS (As := [.int 3]) (rest := [.int (nI (sm t.1 0 (min (xZ e) 4))), .ref (b 0)]) ⟨hx, hb, hml, hown, htb⟩ (r_rightOf l D b cA cJ N f o t nd q sg th 3) (va_cwS 1 htb (wb_S kM_X5_101 kZ_X5_rightOf kN_X5 kD_X5_rightOf) rfl rfl rfl (by decide +kernel) ⟨Nat.le_of_ble_eq_true rfl, Nat.le_of_ble_eq_true rfl⟩) (zp_S hP hK hSt hS hnw) rfl rfl hl.1 rfl (lv_room (Nat.le_of_ble_eq_true rfl)) dX5_storing_148 ⟨Nat.le_of_ble_eq_true rfl, Nat.le_of_ble_eq_true rfl⟩) ?_
              refine zb_ti (y := nI 2) (if_pos rfl) ?_
              refine zb_ci (va_runV (As := [.int (nI (sm t.1 0 (min (xZ e) 4))), .int (nI 2)]) (rest := []) ⟨hx, hb, hml, hown, htb⟩ (r_named l D b cA cJ N f o t nd q sg th (nI (sm t.1 0 (min (xZ e) 4))) 2 (by decide) (by decide)) (cwV 2 htb (wb_V kM_X5_104 kI_X5_named kS_X5_named kN_X5 kD_X5_named) rfl rfl rfl (by decide +kernel) ⟨Nat.le_of_ble_eq_true rfl, Nat.le_of_ble_eq_true rfl⟩) (zp_V 0 rfl rfl hP hK hSt hS hnw) rfl rfl hl.1 rfl (lv_room (Nat.le_of_ble_eq_true rfl)) dX5_storing_151 ⟨Nat.le_of_ble_eq_true rfl, Nat.le_of_ble_eq_true rfl⟩) ?_
              refine zb_ti (y := oI (mp (nI (sm t.1 0 (min (xZ e) 4))) 6)) (rfl) ?_
              cases hme : mp (nI (sm t.1 0 (min (xZ e) 4))) 6 with
              | none =>
                refine zb_ti (y := (-1)) (rfl) ?_
                refine lv_if_ge (tgt := 162) hx hb dX5_storing_154 (by decide) (fun hno => absurd hno (by decide)) (fun _ => ?_)
                refine lv_ldc (v := 100925505) hx hb hown (htb _ kK_X5_143) dX5_storing_157 ?_
                refine lv_goto (tgt := 163) hx hb dX5_storing_159 (by decide) ?_
                rw [hQ]
                exact W.iret (v := 100925505) hx hb hr (fun t9 ht hW => ⟨congrArg (fun z => Outcome.returned (some (Value.int z))) (by rw [stF_T _ _ _ he9.1 he9.2, if_pos hc10]; unfold nF; rw [if_pos (show cT f = 0 from (nI_eq (show cT f < 2 ^ 31 from Nat.lt_trans (bv_of hB (xP 3)).1 (by decide)) (by decide)).mp hc11), if_neg hc12, if_pos hme]; rfl), ht⟩) (fun q h => nomatch h) dX5_storing_163
              | some e9 =>
                refine zb_ti (y := nI e9) (rfl) ?_
                have h22_e9 : e9 < 22 := (fun h => (mp_lt h).1) hme
                have hft_e9 := x_fit e9 h22_e9
                refine lv_if_ge (tgt := 162) hx hb dX5_storing_154 (by decide) (fun _ => ?_) (fun hno => absurd (ni_0le h22_e9) hno)
                refine lv_iconst (v := 0) hx hb dX5_storing_162 (by decide) ?_
                rw [hQ]
                exact W.iret (v := 0) hx hb hr (fun t9 ht hW => ⟨congrArg (fun z => Outcome.returned (some (Value.int z))) (by rw [stF_T _ _ _ he9.1 he9.2, if_pos hc10]; unfold nF; rw [if_pos (show cT f = 0 from (nI_eq (show cT f < 2 ^ 31 from Nat.lt_trans (bv_of hB (xP 3)).1 (by decide)) (by decide)).mp hc11), if_neg hc12, if_neg (by rw [hme]; exact fun h => nomatch h)]; rfl), ht⟩) (fun q h => nomatch h) dX5_storing_163
            refine lv_ldc (v := 100728832) hx hb hown (htb _ kK_X5_142) dX5_storing_136 ?_
            refine lv_goto (tgt := 163) hx hb dX5_storing_138 (by decide) ?_
            rw [hQ]
            exact W.iret (v := 100728832) hx hb hr (fun t9 ht hW => ⟨congrArg (fun z => Outcome.returned (some (Value.int z))) (by rw [stF_T _ _ _ he9.1 he9.2, if_pos hc10]; unfold nF; rw [if_neg (fun h => hc11 (by rw [h]; rfl))]; rfl), ht⟩) (fun q h => nomatch h) dX5_storing_163
          refine lv_ldc (v := 134217762) hx hb hown (htb _ kK_X5_141) dX5_storing_120 ?_
          rw [hQ]
          exact W.iret (v := 134217762) hx hb hr (fun t9 ht hW => ⟨congrArg (fun z => Outcome.returned (some (Value.int z))) (by rw [stF_T _ _ _ he9.1 he9.2, if_neg hc10]; rfl), ht⟩) (fun q h => nomatch h) dX5_storing_122
        · subst he9
          have hV8 : sm t.1 0 (min (xZ 9) 4) < 256 := sm_lt hBh 0 1
          refine lv_iload_n hx hb dX5_storing_44 rfl (lv_at hl 1 rfl) ?_
          refine lv_bipush (v := 8) hx hb dX5_storing_45 (by decide) ?_
          refine lv_icmp_ne (tgt := 71) hx hb dX5_storing_47 (by decide) (fun _ => ?_) (fun hno => absurd hno (fun h => by have := (nI_eq (a := 9) (b := 8) (by omega) (by decide)).mp h; omega))
          refine lv_iload_n hx hb dX5_storing_71 rfl (lv_at hl 1 rfl) ?_
          refine lv_iconst (v := 3) hx hb dX5_storing_72 (by decide) ?_
          refine lv_icmp_lt (tgt := 86) hx hb dX5_storing_73 (by decide) (fun hno => absurd hno (nI_nlt (a := 9) (b := 3) (by omega) (by omega))) (fun _ => ?_)
          refine lv_iload_n hx hb dX5_storing_76 rfl (lv_at hl 1 rfl) ?_
          refine lv_bipush (v := 8) hx hb dX5_storing_77 (by decide) ?_
          refine lv_icmp_ge (tgt := 86) hx hb dX5_storing_79 (by decide) (fun _ => ?_) (fun hno => absurd (nI_le (a := 8) (b := 9) (by omega) (by omega)) hno)
          refine lv_iload_n hx hb dX5_storing_86 rfl (lv_at hl 1 rfl) ?_
          refine lv_bipush (v := 9) hx hb dX5_storing_87 (by decide) ?_
          refine lv_icmp_lt (tgt := 103) hx hb dX5_storing_89 (by decide) (fun hno => absurd hno (nI_nlt (a := 9) (b := 9) (by omega) (by omega))) (fun _ => ?_)
          refine lv_iload_n hx hb dX5_storing_92 rfl (lv_at hl 1 rfl) ?_
          refine lv_bipush (v := 14) hx hb dX5_storing_93 (by decide) ?_
          refine lv_icmp_ge (tgt := 103) hx hb dX5_storing_95 (by decide) (fun hno => absurd hno (nI_ge (a := 9) (b := 14) (by omega) (by decide))) (fun _ => ?_)
          refine lv_bipush (v := 9) hx hb dX5_storing_98 (by decide) ?_
          refine lv_goto (tgt := 104) hx hb dX5_storing_100 (by decide) ?_
          refine lv_istore_n hx hb dX5_storing_104 rfl hl (by decide) rfl (fun ls hl => ?_)
          have hl : lv_has ls 5 [(3, .int 9), (0, .ref (b 0)), (1, .int (nI 9)), (2, .int (nI (sm t.1 0 (min (xZ 9) 4))))] := hl
          refine lv_iload_n hx hb dX5_storing_105 rfl (lv_at hl 0 rfl) ?_
          refine lv_if_ne (tgt := 111) hx hb dX5_storing_106 (by decide) (fun _ => ?_) (fun hno => absurd hno (by decide))
          refine lv_aload_n hx hb dX5_storing_111 rfl (lv_at hl 1 rfl) ?_
          refine va_get (D := D) (ci := 5) (v := .int nd.1) (fs := [.int th, .int N, .ref (b 1), .ref (b 2), .ref (b 3), .ref (b 4), .ref (b 5), .ref (b 6), .int 22, .int 95, .int nd.1, .int nd.2.2.1, .int nd.2.1, .long nd.2.2.2, .int t.2.1, .int t.2.2.1, .int t.2.2.2.1, .int t.2.2.2.2.1, .int t.2.2.2.2.2, .ref (b 7), .long q, .int sg, .ref (b 8), .ref (b 9), .ref (b 10), .int o.2.2.2.1, .int o.2.2.2.2]) (C := RX5) (T := TX5) (N := 27) hx hb htb inX5 hown hK hP 0 rfl rfl 10 (by decide) (htb _ kF_X5_82) (fun _ h9 => h9) rfl dX5_storing_112 ?_
          refine lv_bipush (v := 127) hx hb dX5_storing_115 (by decide) ?_
          refine lv_icmp_eq (tgt := 123) hx hb dX5_storing_117 (by decide) (fun hc13 => ?_) (fun hc13 => ?_)
          · refine lv_iload_n hx hb dX5_storing_123 rfl (lv_at hl 2 rfl) ?_
            refine lv_iload_n hx hb dX5_storing_124 rfl (lv_at hl 0 rfl) ?_
            refine lv_icmp_le (tgt := 164) hx hb dX5_storing_125 (by decide) (fun _ => ?_) (fun hno => absurd (nI_le (a := 9) (b := 9) (by omega) (by omega)) hno)
            refine lv_iload_n hx hb dX5_storing_164 rfl (lv_at hl 3 rfl) ?_
            refine lv_iconst (v := 4) hx hb dX5_storing_165 (by decide) ?_
            refine lv_icmp_le (tgt := 172) hx hb dX5_storing_166 (by decide) (fun hc14 => ?_) (fun hc14 => ?_)
            · refine lv_aload_n hx hb dX5_storing_172 rfl (lv_at hl 1 rfl) ?_
              refine lv_iload_n hx hb dX5_storing_173 rfl (lv_at hl 0 rfl) ?_
              refine lv_iload_n hx hb dX5_storing_174 rfl (lv_at hl 3 rfl) ?_
              refine zb_ci (va_runV (As := [.int 9, .int (nI (sm t.1 0 (min (xZ 9) 4)))]) (rest := []) ⟨hx, hb, hml, hown, htb⟩ (r_lengthG l D b cA cJ N f o t nd q sg th (sm t.1 0 (min (xZ 9) 4)) hB ((nI_leI (b := 4) (by omega) (by decide)).mp hc14)) (cwV 2 htb (wb_V kM_X5_116 kI_X5_lengthOf kS_X5_lengthOf kN_X5 kD_X5_lengthOf) rfl rfl rfl (by decide +kernel) ⟨Nat.le_of_ble_eq_true rfl, Nat.le_of_ble_eq_true rfl⟩) (zp_V 0 rfl rfl hP hK hSt hS hnw) rfl rfl hl.1 rfl (lv_room (Nat.le_of_ble_eq_true rfl)) dX5_storing_175 ⟨Nat.le_of_ble_eq_true rfl, Nat.le_of_ble_eq_true rfl⟩) ?_
              by_cases hc15 : mOk f 9 5 (sm t.1 0 (min (xZ 9) 4)) = true
              · refine zb_ti (y := nI (mL f 9 5 (sm t.1 0 (min (xZ 9) 4)))) (if_pos hc15) ?_
                have hm31 := mL_31 f 9 5 (sm t.1 0 (min (xZ 9) 4)) ((nI_leI (b := 4) (by omega) (by decide)).mp hc14)
                refine lv_istore hx hb dX5_storing_178 hl (by decide) rfl (fun ls hl => ?_)
                have hl : lv_has ls 5 [(4, .int (nI (mL f 9 5 (sm t.1 0 (min (xZ 9) 4))))), (3, .int 9), (0, .ref (b 0)), (1, .int (nI 9)), (2, .int (nI (sm t.1 0 (min (xZ 9) 4))))] := hl
                refine lv_iload hx hb dX5_storing_180 (lv_at hl 0 rfl) ?_
                refine lv_if_ge (tgt := 190) hx hb dX5_storing_182 (by decide) (fun _ => ?_) (fun hno => absurd (nI_le (a := 0) (Nat.zero_le _) hm31) hno)
                refine lv_iload hx hb dX5_storing_190 (lv_at hl 0 rfl) ?_
                refine lv_bipush (v := 8) hx hb dX5_storing_192 (by decide) ?_
                refine lv_icmp_le (tgt := 202) hx hb dX5_storing_194 (by decide) (fun hc16 => ?_) (fun hc16 => ?_)
                · refine lv_iconst (v := 0) hx hb dX5_storing_202 (by decide) ?_
                  rw [hQ]
                  exact W.iret (v := 0) hx hb hr (fun t9 ht hW => ⟨congrArg (fun z => Outcome.returned (some (Value.int z))) (by rw [stF_9, if_pos hc13]; unfold cF; rw [if_neg (show ¬ 4 < sm t.1 0 (min (xZ 9) 4) by have := (nI_leI (b := 4) (by omega) (by decide)).mp hc14; omega), if_pos hc15, if_neg (show ¬ 8 < mL f 9 5 (sm t.1 0 (min (xZ 9) 4)) by have := (nI_leI (b := 8) hm31 (by decide)).mp hc16; omega)]; rfl), ht⟩) (fun q h => nomatch h) dX5_storing_203
                refine lv_ldc (v := 100925506) hx hb hown (htb _ kK_X5_144) dX5_storing_197 ?_
                refine lv_goto (tgt := 203) hx hb dX5_storing_199 (by decide) ?_
                rw [hQ]
                exact W.iret (v := 100925506) hx hb hr (fun t9 ht hW => ⟨congrArg (fun z => Outcome.returned (some (Value.int z))) (by rw [stF_9, if_pos hc13]; unfold cF; rw [if_neg (show ¬ 4 < sm t.1 0 (min (xZ 9) 4) by have := (nI_leI (b := 4) (by omega) (by decide)).mp hc14; omega), if_pos hc15, if_pos (show 8 < mL f 9 5 (sm t.1 0 (min (xZ 9) 4)) by have h9 : ¬ mL f 9 5 (sm t.1 0 (min (xZ 9) 4)) ≤ 8 := fun h => hc16 ((nI_leI (b := 8) hm31 (by decide)).mpr h); omega)]; rfl), ht⟩) (fun q h => nomatch h) dX5_storing_203
              · refine zb_ti (y := (-1)) (if_neg hc15) ?_
                refine lv_istore hx hb dX5_storing_178 hl (by decide) rfl (fun ls hl => ?_)
                have hl : lv_has ls 5 [(4, .int (-1)), (3, .int 9), (0, .ref (b 0)), (1, .int (nI 9)), (2, .int (nI (sm t.1 0 (min (xZ 9) 4))))] := hl
                refine lv_iload hx hb dX5_storing_180 (lv_at hl 0 rfl) ?_
                refine lv_if_ge (tgt := 190) hx hb dX5_storing_182 (by decide) (fun hno => absurd hno (by decide)) (fun _ => ?_)
                refine lv_ldc (v := 100925505) hx hb hown (htb _ kK_X5_143) dX5_storing_185 ?_
                refine lv_goto (tgt := 203) hx hb dX5_storing_187 (by decide) ?_
                rw [hQ]
                exact W.iret (v := 100925505) hx hb hr (fun t9 ht hW => ⟨congrArg (fun z => Outcome.returned (some (Value.int z))) (by rw [stF_9, if_pos hc13]; unfold cF; rw [if_neg (show ¬ 4 < sm t.1 0 (min (xZ 9) 4) by have := (nI_leI (b := 4) (by omega) (by decide)).mp hc14; omega), if_neg hc15]; rfl), ht⟩) (fun q h => nomatch h) dX5_storing_203
            refine lv_ldc (v := 101253168) hx hb hown (htb _ kK_X5_140) dX5_storing_169 ?_
            rw [hQ]
            exact W.iret (v := 101253168) hx hb hr (fun t9 ht hW => ⟨congrArg (fun z => Outcome.returned (some (Value.int z))) (by rw [stF_9, if_pos hc13]; unfold cF; rw [if_pos (show 4 < sm t.1 0 (min (xZ 9) 4) by have h9 : ¬ sm t.1 0 (min (xZ 9) 4) ≤ 4 := fun h => hc14 ((nI_leI (b := 4) (by omega) (by decide)).mpr h); omega)]; rfl), ht⟩) (fun q h => nomatch h) dX5_storing_171
          refine lv_ldc (v := 134217762) hx hb hown (htb _ kK_X5_141) dX5_storing_120 ?_
          rw [hQ]
          exact W.iret (v := 134217762) hx hb hr (fun t9 ht hW => ⟨congrArg (fun z => Outcome.returned (some (Value.int z))) (by rw [stF_9, if_neg hc13]; rfl), ht⟩) (fun q h => nomatch h) dX5_storing_122
        · refine lv_iload_n hx hb dX5_storing_44 rfl (lv_at hl 1 rfl) ?_
          refine lv_bipush (v := 8) hx hb dX5_storing_45 (by decide) ?_
          refine lv_icmp_ne (tgt := 71) hx hb dX5_storing_47 (by decide) (fun _ => ?_) (fun hno => absurd hno (fun h => by have := (nI_eq (a := e) (b := 8) (by omega) (by decide)).mp h; omega))
          refine lv_iload_n hx hb dX5_storing_71 rfl (lv_at hl 1 rfl) ?_
          refine lv_iconst (v := 3) hx hb dX5_storing_72 (by decide) ?_
          refine lv_icmp_lt (tgt := 86) hx hb dX5_storing_73 (by decide) (fun hno => absurd hno (nI_nlt (a := e) (b := 3) (by omega) (by omega))) (fun _ => ?_)
          refine lv_iload_n hx hb dX5_storing_76 rfl (lv_at hl 1 rfl) ?_
          refine lv_bipush (v := 8) hx hb dX5_storing_77 (by decide) ?_
          refine lv_icmp_ge (tgt := 86) hx hb dX5_storing_79 (by decide) (fun _ => ?_) (fun hno => absurd (nI_le (a := 8) (b := e) (by omega) (by omega)) hno)
          refine lv_iload_n hx hb dX5_storing_86 rfl (lv_at hl 1 rfl) ?_
          refine lv_bipush (v := 9) hx hb dX5_storing_87 (by decide) ?_
          refine lv_icmp_lt (tgt := 103) hx hb dX5_storing_89 (by decide) (fun hno => absurd hno (nI_nlt (a := e) (b := 9) (by omega) (by omega))) (fun _ => ?_)
          refine lv_iload_n hx hb dX5_storing_92 rfl (lv_at hl 1 rfl) ?_
          refine lv_bipush (v := 14) hx hb dX5_storing_93 (by decide) ?_
          refine lv_icmp_ge (tgt := 103) hx hb dX5_storing_95 (by decide) (fun hno => absurd hno (nI_ge (a := e) (b := 14) (by omega) (by decide))) (fun _ => ?_)
          refine lv_bipush (v := 9) hx hb dX5_storing_98 (by decide) ?_
          refine lv_goto (tgt := 104) hx hb dX5_storing_100 (by decide) ?_
          refine lv_istore_n hx hb dX5_storing_104 rfl hl (by decide) rfl (fun ls hl => ?_)
          have hl : lv_has ls 5 [(3, .int 9), (0, .ref (b 0)), (1, .int (nI e)), (2, .int (nI (sm t.1 0 (min (xZ e) 4))))] := hl
          refine lv_iload_n hx hb dX5_storing_105 rfl (lv_at hl 0 rfl) ?_
          refine lv_if_ne (tgt := 111) hx hb dX5_storing_106 (by decide) (fun _ => ?_) (fun hno => absurd hno (by decide))
          refine lv_aload_n hx hb dX5_storing_111 rfl (lv_at hl 1 rfl) ?_
          refine va_get (D := D) (ci := 5) (v := .int nd.1) (fs := [.int th, .int N, .ref (b 1), .ref (b 2), .ref (b 3), .ref (b 4), .ref (b 5), .ref (b 6), .int 22, .int 95, .int nd.1, .int nd.2.2.1, .int nd.2.1, .long nd.2.2.2, .int t.2.1, .int t.2.2.1, .int t.2.2.2.1, .int t.2.2.2.2.1, .int t.2.2.2.2.2, .ref (b 7), .long q, .int sg, .ref (b 8), .ref (b 9), .ref (b 10), .int o.2.2.2.1, .int o.2.2.2.2]) (C := RX5) (T := TX5) (N := 27) hx hb htb inX5 hown hK hP 0 rfl rfl 10 (by decide) (htb _ kF_X5_82) (fun _ h9 => h9) rfl dX5_storing_112 ?_
          refine lv_bipush (v := 127) hx hb dX5_storing_115 (by decide) ?_
          refine lv_icmp_eq (tgt := 123) hx hb dX5_storing_117 (by decide) (fun hc17 => ?_) (fun hc17 => ?_)
          · refine lv_iload_n hx hb dX5_storing_123 rfl (lv_at hl 2 rfl) ?_
            refine lv_iload_n hx hb dX5_storing_124 rfl (lv_at hl 0 rfl) ?_
            refine lv_icmp_le (tgt := 164) hx hb dX5_storing_125 (by decide) (fun hno => absurd hno (nI_ge (a := 9) (b := e) (by omega) (by omega))) (fun _ => ?_)
            refine lv_aload_n hx hb dX5_storing_128 rfl (lv_at hl 1 rfl) ?_
            refine lv_iload_n hx hb dX5_storing_129 rfl (lv_at hl 0 rfl) ?_
            refine zb_ci (va_runV (As := [.int 9]) (rest := []) ⟨hx, hb, hml, hown, htb⟩ (r_number l D b cA cJ N f o t nd q sg th 9 hB (by omega)) (cwV 1 htb (wb_V kM_X5_97 kI_X5_number kS_X5_number kN_X5 kD_X5_number) rfl rfl rfl (by decide +kernel) ⟨Nat.le_of_ble_eq_true rfl, Nat.le_of_ble_eq_true rfl⟩) (zp_V 0 rfl rfl hP hK hSt hS hnw) rfl rfl hl.1 rfl (lv_room (Nat.le_of_ble_eq_true rfl)) dX5_storing_130 ⟨Nat.le_of_ble_eq_true rfl, Nat.le_of_ble_eq_true rfl⟩) ?_
            refine zb_ti (y := nI (cG f)) (cnt_r 9 rfl) ?_
            refine lv_if_eq (tgt := 141) hx hb dX5_storing_133 (by decide) (fun hc18 => ?_) (fun hc18 => ?_)
            · refine lv_iload_n hx hb dX5_storing_141 rfl (lv_at hl 3 rfl) ?_
              refine lv_if_eq (tgt := 162) hx hb dX5_storing_142 (by decide) (fun hc19 => ?_) (fun hc19 => ?_)
              · refine lv_iconst (v := 0) hx hb dX5_storing_162 (by decide) ?_
                rw [hQ]
                exact W.iret (v := 0) hx hb hr (fun t9 ht hW => ⟨congrArg (fun z => Outcome.returned (some (Value.int z))) (by rw [stF_G _ _ _ he9.1 he9.2, if_pos hc17]; unfold nF; rw [if_pos (show cG f = 0 from (nI_eq (show cG f < 2 ^ 31 from Nat.lt_trans (bv_of hB (xP 9)).1 (by decide)) (by decide)).mp hc18), if_pos hc19]; rfl), ht⟩) (fun q h => nomatch h) dX5_storing_163
              refine lv_aload_n hx hb dX5_storing_145 rfl (lv_at hl 1 rfl) ?_
              refine lv_iload_n hx hb dX5_storing_146 rfl (lv_at hl 3 rfl) ?_
              refine lv_iload_n hx hb dX5_storing_147 rfl (lv_at hl 0 rfl) ?_
              refine zb_ci (va_runS (As := [.int 9]) (rest := [.int (nI (sm t.1 0 (min (xZ e) 4))), .ref (b 0)]) ⟨hx, hb, hml, hown, htb⟩ (r_rightOf l D b cA cJ N f o t nd q sg th 9) (va_cwS 1 htb (wb_S kM_X5_101 kZ_X5_rightOf kN_X5 kD_X5_rightOf) rfl rfl rfl (by decide +kernel) ⟨Nat.le_of_ble_eq_true rfl, Nat.le_of_ble_eq_true rfl⟩) (zp_S hP hK hSt hS hnw) rfl rfl hl.1 rfl (lv_room (Nat.le_of_ble_eq_true rfl)) dX5_storing_148 ⟨Nat.le_of_ble_eq_true rfl, Nat.le_of_ble_eq_true rfl⟩) ?_
              refine zb_ti (y := nI 1) (if_neg (by decide)) ?_
              refine zb_ci (va_runV (As := [.int (nI (sm t.1 0 (min (xZ e) 4))), .int (nI 1)]) (rest := []) ⟨hx, hb, hml, hown, htb⟩ (r_named l D b cA cJ N f o t nd q sg th (nI (sm t.1 0 (min (xZ e) 4))) 1 (by decide) (by decide)) (cwV 2 htb (wb_V kM_X5_104 kI_X5_named kS_X5_named kN_X5 kD_X5_named) rfl rfl rfl (by decide +kernel) ⟨Nat.le_of_ble_eq_true rfl, Nat.le_of_ble_eq_true rfl⟩) (zp_V 0 rfl rfl hP hK hSt hS hnw) rfl rfl hl.1 rfl (lv_room (Nat.le_of_ble_eq_true rfl)) dX5_storing_151 ⟨Nat.le_of_ble_eq_true rfl, Nat.le_of_ble_eq_true rfl⟩) ?_
              refine zb_ti (y := oI (mp (nI (sm t.1 0 (min (xZ e) 4))) 5)) (rfl) ?_
              cases hme : mp (nI (sm t.1 0 (min (xZ e) 4))) 5 with
              | none =>
                refine zb_ti (y := (-1)) (rfl) ?_
                refine lv_if_ge (tgt := 162) hx hb dX5_storing_154 (by decide) (fun hno => absurd hno (by decide)) (fun _ => ?_)
                refine lv_ldc (v := 100925505) hx hb hown (htb _ kK_X5_143) dX5_storing_157 ?_
                refine lv_goto (tgt := 163) hx hb dX5_storing_159 (by decide) ?_
                rw [hQ]
                exact W.iret (v := 100925505) hx hb hr (fun t9 ht hW => ⟨congrArg (fun z => Outcome.returned (some (Value.int z))) (by rw [stF_G _ _ _ he9.1 he9.2, if_pos hc17]; unfold nF; rw [if_pos (show cG f = 0 from (nI_eq (show cG f < 2 ^ 31 from Nat.lt_trans (bv_of hB (xP 9)).1 (by decide)) (by decide)).mp hc18), if_neg hc19, if_pos hme]; rfl), ht⟩) (fun q h => nomatch h) dX5_storing_163
              | some e9 =>
                refine zb_ti (y := nI e9) (rfl) ?_
                have h22_e9 : e9 < 22 := (fun h => (mp_lt h).1) hme
                have hft_e9 := x_fit e9 h22_e9
                refine lv_if_ge (tgt := 162) hx hb dX5_storing_154 (by decide) (fun _ => ?_) (fun hno => absurd (ni_0le h22_e9) hno)
                refine lv_iconst (v := 0) hx hb dX5_storing_162 (by decide) ?_
                rw [hQ]
                exact W.iret (v := 0) hx hb hr (fun t9 ht hW => ⟨congrArg (fun z => Outcome.returned (some (Value.int z))) (by rw [stF_G _ _ _ he9.1 he9.2, if_pos hc17]; unfold nF; rw [if_pos (show cG f = 0 from (nI_eq (show cG f < 2 ^ 31 from Nat.lt_trans (bv_of hB (xP 9)).1 (by decide)) (by decide)).mp hc18), if_neg hc19, if_neg (by rw [hme]; exact fun h => nomatch h)]; rfl), ht⟩) (fun q h => nomatch h) dX5_storing_163
            refine lv_ldc (v := 100728832) hx hb hown (htb _ kK_X5_142) dX5_storing_136 ?_
            refine lv_goto (tgt := 163) hx hb dX5_storing_138 (by decide) ?_
            rw [hQ]
            exact W.iret (v := 100728832) hx hb hr (fun t9 ht hW => ⟨congrArg (fun z => Outcome.returned (some (Value.int z))) (by rw [stF_G _ _ _ he9.1 he9.2, if_pos hc17]; unfold nF; rw [if_neg (fun h => hc18 (by rw [h]; rfl))]; rfl), ht⟩) (fun q h => nomatch h) dX5_storing_163
          refine lv_ldc (v := 134217762) hx hb hown (htb _ kK_X5_141) dX5_storing_120 ?_
          rw [hQ]
          exact W.iret (v := 134217762) hx hb hr (fun t9 ht hW => ⟨congrArg (fun z => Outcome.returned (some (Value.int z))) (by rw [stF_G _ _ _ he9.1 he9.2, if_neg hc17]; rfl), ht⟩) (fun q h => nomatch h) dX5_storing_122
        · refine lv_iload_n hx hb dX5_storing_44 rfl (lv_at hl 1 rfl) ?_
          refine lv_bipush (v := 8) hx hb dX5_storing_45 (by decide) ?_
          refine lv_icmp_ne (tgt := 71) hx hb dX5_storing_47 (by decide) (fun _ => ?_) (fun hno => absurd hno (fun h => by have := (nI_eq (a := e) (b := 8) (by omega) (by decide)).mp h; omega))
          refine lv_iload_n hx hb dX5_storing_71 rfl (lv_at hl 1 rfl) ?_
          refine lv_iconst (v := 3) hx hb dX5_storing_72 (by decide) ?_
          refine lv_icmp_lt (tgt := 86) hx hb dX5_storing_73 (by decide) (fun _ => ?_) (fun hno => absurd (nI_lt (a := e) (b := 3) (by omega) (by decide)) hno)
          refine lv_iload_n hx hb dX5_storing_86 rfl (lv_at hl 1 rfl) ?_
          refine lv_bipush (v := 9) hx hb dX5_storing_87 (by decide) ?_
          refine lv_icmp_lt (tgt := 103) hx hb dX5_storing_89 (by decide) (fun _ => ?_) (fun hno => absurd (nI_lt (a := e) (b := 9) (by omega) (by decide)) hno)
          refine lv_iconst (v := 0) hx hb dX5_storing_103 (by decide) ?_
          refine lv_istore_n hx hb dX5_storing_104 rfl hl (by decide) rfl (fun ls hl => ?_)
          have hl : lv_has ls 5 [(3, .int 0), (0, .ref (b 0)), (1, .int (nI e)), (2, .int (nI (sm t.1 0 (min (xZ e) 4))))] := hl
          refine lv_iload_n hx hb dX5_storing_105 rfl (lv_at hl 0 rfl) ?_
          refine lv_if_ne (tgt := 111) hx hb dX5_storing_106 (by decide) (fun hno => absurd (by decide) hno) (fun _ => ?_)
          refine lv_iconst (v := 0) hx hb dX5_storing_109 (by decide) ?_
          rw [hQ]
          exact W.iret (v := 0) hx hb hr (fun t9 ht hW => ⟨congrArg (fun z => Outcome.returned (some (Value.int z))) (by rw [stF_o _ _ _ (by omega)]; rfl), ht⟩) (fun q h => nomatch h) dX5_storing_110
        · refine lv_iload_n hx hb dX5_storing_44 rfl (lv_at hl 1 rfl) ?_
          refine lv_bipush (v := 8) hx hb dX5_storing_45 (by decide) ?_
          refine lv_icmp_ne (tgt := 71) hx hb dX5_storing_47 (by decide) (fun _ => ?_) (fun hno => absurd hno (fun h => by have := (nI_eq (a := e) (b := 8) (by omega) (by decide)).mp h; omega))
          refine lv_iload_n hx hb dX5_storing_71 rfl (lv_at hl 1 rfl) ?_
          refine lv_iconst (v := 3) hx hb dX5_storing_72 (by decide) ?_
          refine lv_icmp_lt (tgt := 86) hx hb dX5_storing_73 (by decide) (fun hno => absurd hno (nI_nlt (a := e) (b := 3) (by omega) (by omega))) (fun _ => ?_)
          refine lv_iload_n hx hb dX5_storing_76 rfl (lv_at hl 1 rfl) ?_
          refine lv_bipush (v := 8) hx hb dX5_storing_77 (by decide) ?_
          refine lv_icmp_ge (tgt := 86) hx hb dX5_storing_79 (by decide) (fun _ => ?_) (fun hno => absurd (nI_le (a := 8) (b := e) (by omega) (by omega)) hno)
          refine lv_iload_n hx hb dX5_storing_86 rfl (lv_at hl 1 rfl) ?_
          refine lv_bipush (v := 9) hx hb dX5_storing_87 (by decide) ?_
          refine lv_icmp_lt (tgt := 103) hx hb dX5_storing_89 (by decide) (fun hno => absurd hno (nI_nlt (a := e) (b := 9) (by omega) (by omega))) (fun _ => ?_)
          refine lv_iload_n hx hb dX5_storing_92 rfl (lv_at hl 1 rfl) ?_
          refine lv_bipush (v := 14) hx hb dX5_storing_93 (by decide) ?_
          refine lv_icmp_ge (tgt := 103) hx hb dX5_storing_95 (by decide) (fun _ => ?_) (fun hno => absurd (nI_le (a := 14) (b := e) (by omega) (by omega)) hno)
          refine lv_iconst (v := 0) hx hb dX5_storing_103 (by decide) ?_
          refine lv_istore_n hx hb dX5_storing_104 rfl hl (by decide) rfl (fun ls hl => ?_)
          have hl : lv_has ls 5 [(3, .int 0), (0, .ref (b 0)), (1, .int (nI e)), (2, .int (nI (sm t.1 0 (min (xZ e) 4))))] := hl
          refine lv_iload_n hx hb dX5_storing_105 rfl (lv_at hl 0 rfl) ?_
          refine lv_if_ne (tgt := 111) hx hb dX5_storing_106 (by decide) (fun hno => absurd (by decide) hno) (fun _ => ?_)
          refine lv_iconst (v := 0) hx hb dX5_storing_109 (by decide) ?_
          rw [hQ]
          exact W.iret (v := 0) hx hb hr (fun t9 ht hW => ⟨congrArg (fun z => Outcome.returned (some (Value.int z))) (by rw [stF_o _ _ _ (by omega)]; rfl), ht⟩) (fun q h => nomatch h) dX5_storing_110
      refine lv_iload_n hx hb dX5_storing_19 rfl (lv_at hl 3 rfl) ?_
      refine lv_iconst (v := 4) hx hb dX5_storing_20 (by decide) ?_
      refine lv_icmp_ge (tgt := 44) hx hb dX5_storing_21 (by decide) (fun _ => ?_) (fun hno => absurd (by have h9 : ¬ xZ e ≤ k := fun h => hc2 (nI_le h (by omega)); rw [show k = 4 by omega]; decide) hno)
      have e20 : (nI (sm t.1 0 (k)) : Int32) = nI (sm t.1 0 (min (xZ e) 4)) := by rw [hk0_lp]
      have hl : lv_has ls 5 [(0, .ref (b 0)), (1, .int (nI e)), (2, .int (nI (sm t.1 0 (min (xZ e) 4)))), (3, .int (nI (k)))] := Eq.mp (congrArg (fun zz9 : Int32 => lv_has ls 5 [(0, .ref (b 0)), (1, .int (nI e)), (2, .int zz9), (3, .int (nI (k)))]) e20) hl
      rcases (show e = 8 ∨ e = 3 ∨ (4 ≤ e ∧ e ≤ 7) ∨ e = 9 ∨ (10 ≤ e ∧ e ≤ 13) ∨ e < 3 ∨ 14 ≤ e by omega) with he9 | he9 | he9 | he9 | he9 | he9 | he9
      · subst he9
        have hV8 : sm t.1 0 (min (xZ 8) 4) < 256 := sm_lt hBh 0 1
        refine lv_iload_n hx hb dX5_storing_44 rfl (lv_at hl 1 rfl) ?_
        refine lv_bipush (v := 8) hx hb dX5_storing_45 (by decide) ?_
        refine lv_icmp_ne (tgt := 71) hx hb dX5_storing_47 (by decide) (fun hno => absurd (rfl) hno) (fun _ => ?_)
        refine lv_iload_n hx hb dX5_storing_50 rfl (lv_at hl 2 rfl) ?_
        refine lv_sipush (v := 240) hx hb dX5_storing_51 (by decide) ?_
        refine lv_icmp_le (tgt := 69) hx hb dX5_storing_54 (by decide) (fun hc21 => ?_) (fun hc21 => ?_)
        · refine lv_iconst (v := 0) hx hb dX5_storing_69 (by decide) ?_
          rw [hQ]
          exact W.iret (v := 0) hx hb hr (fun t9 ht hW => ⟨congrArg (fun z => Outcome.returned (some (Value.int z))) (by rw [stF_8, if_neg (fun h => by have := (nI_leI (b := 240) (by omega) (by decide)).mp hc21; omega)]; rfl), ht⟩) (fun q h => nomatch h) dX5_storing_70
        refine lv_iload_n hx hb dX5_storing_57 rfl (lv_at hl 2 rfl) ?_
        refine lv_sipush (v := 254) hx hb dX5_storing_58 (by decide) ?_
        refine lv_icmp_ge (tgt := 69) hx hb dX5_storing_61 (by decide) (fun hc22 => ?_) (fun hc22 => ?_)
        · refine lv_iconst (v := 0) hx hb dX5_storing_69 (by decide) ?_
          rw [hQ]
          exact W.iret (v := 0) hx hb hr (fun t9 ht hW => ⟨congrArg (fun z => Outcome.returned (some (Value.int z))) (by rw [stF_8, if_neg (fun h => by have := (nI_leI (a := 254) (by decide) (by omega)).mp hc22; omega)]; rfl), ht⟩) (fun q h => nomatch h) dX5_storing_70
        refine lv_ldc (v := 101253168) hx hb hown (htb _ kK_X5_140) dX5_storing_64 ?_
        refine lv_goto (tgt := 70) hx hb dX5_storing_66 (by decide) ?_
        rw [hQ]
        exact W.iret (v := 101253168) hx hb hr (fun t9 ht hW => ⟨congrArg (fun z => Outcome.returned (some (Value.int z))) (by rw [stF_8, if_pos ⟨by have h9 : ¬ sm t.1 0 (min (xZ 8) 4) ≤ 240 := fun h => hc21 ((nI_leI (b := 240) (by omega) (by decide)).mpr h); omega, by have h9 : ¬ 254 ≤ sm t.1 0 (min (xZ 8) 4) := fun h => hc22 ((nI_leI (a := 254) (by decide) (by omega)).mpr h); omega⟩]; rfl), ht⟩) (fun q h => nomatch h) dX5_storing_70
      · subst he9
        have hV8 : sm t.1 0 (min (xZ 3) 4) < 256 := sm_lt hBh 0 1
        refine lv_iload_n hx hb dX5_storing_44 rfl (lv_at hl 1 rfl) ?_
        refine lv_bipush (v := 8) hx hb dX5_storing_45 (by decide) ?_
        refine lv_icmp_ne (tgt := 71) hx hb dX5_storing_47 (by decide) (fun _ => ?_) (fun hno => absurd hno (fun h => by have := (nI_eq (a := 3) (b := 8) (by omega) (by decide)).mp h; omega))
        refine lv_iload_n hx hb dX5_storing_71 rfl (lv_at hl 1 rfl) ?_
        refine lv_iconst (v := 3) hx hb dX5_storing_72 (by decide) ?_
        refine lv_icmp_lt (tgt := 86) hx hb dX5_storing_73 (by decide) (fun hno => absurd hno (nI_nlt (a := 3) (b := 3) (by omega) (by omega))) (fun _ => ?_)
        refine lv_iload_n hx hb dX5_storing_76 rfl (lv_at hl 1 rfl) ?_
        refine lv_bipush (v := 8) hx hb dX5_storing_77 (by decide) ?_
        refine lv_icmp_ge (tgt := 86) hx hb dX5_storing_79 (by decide) (fun hno => absurd hno (nI_ge (a := 3) (b := 8) (by omega) (by decide))) (fun _ => ?_)
        refine lv_iconst (v := 3) hx hb dX5_storing_82 (by decide) ?_
        refine lv_goto (tgt := 104) hx hb dX5_storing_83 (by decide) ?_
        refine lv_istore_n hx hb dX5_storing_104 rfl hl (by decide) rfl (fun ls hl => ?_)
        have hl : lv_has ls 5 [(3, .int 3), (0, .ref (b 0)), (1, .int (nI 3)), (2, .int (nI (sm t.1 0 (min (xZ 3) 4))))] := hl
        refine lv_iload_n hx hb dX5_storing_105 rfl (lv_at hl 0 rfl) ?_
        refine lv_if_ne (tgt := 111) hx hb dX5_storing_106 (by decide) (fun _ => ?_) (fun hno => absurd hno (by decide))
        refine lv_aload_n hx hb dX5_storing_111 rfl (lv_at hl 1 rfl) ?_
        refine va_get (D := D) (ci := 5) (v := .int nd.1) (fs := [.int th, .int N, .ref (b 1), .ref (b 2), .ref (b 3), .ref (b 4), .ref (b 5), .ref (b 6), .int 22, .int 95, .int nd.1, .int nd.2.2.1, .int nd.2.1, .long nd.2.2.2, .int t.2.1, .int t.2.2.1, .int t.2.2.2.1, .int t.2.2.2.2.1, .int t.2.2.2.2.2, .ref (b 7), .long q, .int sg, .ref (b 8), .ref (b 9), .ref (b 10), .int o.2.2.2.1, .int o.2.2.2.2]) (C := RX5) (T := TX5) (N := 27) hx hb htb inX5 hown hK hP 0 rfl rfl 10 (by decide) (htb _ kF_X5_82) (fun _ h9 => h9) rfl dX5_storing_112 ?_
        refine lv_bipush (v := 127) hx hb dX5_storing_115 (by decide) ?_
        refine lv_icmp_eq (tgt := 123) hx hb dX5_storing_117 (by decide) (fun hc23 => ?_) (fun hc23 => ?_)
        · refine lv_iload_n hx hb dX5_storing_123 rfl (lv_at hl 2 rfl) ?_
          refine lv_iload_n hx hb dX5_storing_124 rfl (lv_at hl 0 rfl) ?_
          refine lv_icmp_le (tgt := 164) hx hb dX5_storing_125 (by decide) (fun _ => ?_) (fun hno => absurd (nI_le (a := 3) (b := 3) (by omega) (by omega)) hno)
          refine lv_iload_n hx hb dX5_storing_164 rfl (lv_at hl 3 rfl) ?_
          refine lv_iconst (v := 4) hx hb dX5_storing_165 (by decide) ?_
          refine lv_icmp_le (tgt := 172) hx hb dX5_storing_166 (by decide) (fun hc24 => ?_) (fun hc24 => ?_)
          · refine lv_aload_n hx hb dX5_storing_172 rfl (lv_at hl 1 rfl) ?_
            refine lv_iload_n hx hb dX5_storing_173 rfl (lv_at hl 0 rfl) ?_
            refine lv_iload_n hx hb dX5_storing_174 rfl (lv_at hl 3 rfl) ?_
            refine zb_ci (va_runV (As := [.int 3, .int (nI (sm t.1 0 (min (xZ 3) 4)))]) (rest := []) ⟨hx, hb, hml, hown, htb⟩ (r_lengthT l D b cA cJ N f o t nd q sg th (sm t.1 0 (min (xZ 3) 4)) hB ((nI_leI (b := 4) (by omega) (by decide)).mp hc24)) (cwV 2 htb (wb_V kM_X5_116 kI_X5_lengthOf kS_X5_lengthOf kN_X5 kD_X5_lengthOf) rfl rfl rfl (by decide +kernel) ⟨Nat.le_of_ble_eq_true rfl, Nat.le_of_ble_eq_true rfl⟩) (zp_V 0 rfl rfl hP hK hSt hS hnw) rfl rfl hl.1 rfl (lv_room (Nat.le_of_ble_eq_true rfl)) dX5_storing_175 ⟨Nat.le_of_ble_eq_true rfl, Nat.le_of_ble_eq_true rfl⟩) ?_
            by_cases hc25 : mOk f 3 6 (sm t.1 0 (min (xZ 3) 4)) = true
            · refine zb_ti (y := nI (mL f 3 6 (sm t.1 0 (min (xZ 3) 4)))) (if_pos hc25) ?_
              have hm31 := mL_31 f 3 6 (sm t.1 0 (min (xZ 3) 4)) ((nI_leI (b := 4) (by omega) (by decide)).mp hc24)
              refine lv_istore hx hb dX5_storing_178 hl (by decide) rfl (fun ls hl => ?_)
              have hl : lv_has ls 5 [(4, .int (nI (mL f 3 6 (sm t.1 0 (min (xZ 3) 4))))), (3, .int 3), (0, .ref (b 0)), (1, .int (nI 3)), (2, .int (nI (sm t.1 0 (min (xZ 3) 4))))] := hl
              refine lv_iload hx hb dX5_storing_180 (lv_at hl 0 rfl) ?_
              refine lv_if_ge (tgt := 190) hx hb dX5_storing_182 (by decide) (fun _ => ?_) (fun hno => absurd (nI_le (a := 0) (Nat.zero_le _) hm31) hno)
              refine lv_iload hx hb dX5_storing_190 (lv_at hl 0 rfl) ?_
              refine lv_bipush (v := 8) hx hb dX5_storing_192 (by decide) ?_
              refine lv_icmp_le (tgt := 202) hx hb dX5_storing_194 (by decide) (fun hc26 => ?_) (fun hc26 => ?_)
              · refine lv_iconst (v := 0) hx hb dX5_storing_202 (by decide) ?_
                rw [hQ]
                exact W.iret (v := 0) hx hb hr (fun t9 ht hW => ⟨congrArg (fun z => Outcome.returned (some (Value.int z))) (by rw [stF_3, if_pos hc23]; unfold cF; rw [if_neg (show ¬ 4 < sm t.1 0 (min (xZ 3) 4) by have := (nI_leI (b := 4) (by omega) (by decide)).mp hc24; omega), if_pos hc25, if_neg (show ¬ 8 < mL f 3 6 (sm t.1 0 (min (xZ 3) 4)) by have := (nI_leI (b := 8) hm31 (by decide)).mp hc26; omega)]; rfl), ht⟩) (fun q h => nomatch h) dX5_storing_203
              refine lv_ldc (v := 100925506) hx hb hown (htb _ kK_X5_144) dX5_storing_197 ?_
              refine lv_goto (tgt := 203) hx hb dX5_storing_199 (by decide) ?_
              rw [hQ]
              exact W.iret (v := 100925506) hx hb hr (fun t9 ht hW => ⟨congrArg (fun z => Outcome.returned (some (Value.int z))) (by rw [stF_3, if_pos hc23]; unfold cF; rw [if_neg (show ¬ 4 < sm t.1 0 (min (xZ 3) 4) by have := (nI_leI (b := 4) (by omega) (by decide)).mp hc24; omega), if_pos hc25, if_pos (show 8 < mL f 3 6 (sm t.1 0 (min (xZ 3) 4)) by have h9 : ¬ mL f 3 6 (sm t.1 0 (min (xZ 3) 4)) ≤ 8 := fun h => hc26 ((nI_leI (b := 8) hm31 (by decide)).mpr h); omega)]; rfl), ht⟩) (fun q h => nomatch h) dX5_storing_203
            · refine zb_ti (y := (-1)) (if_neg hc25) ?_
              refine lv_istore hx hb dX5_storing_178 hl (by decide) rfl (fun ls hl => ?_)
              have hl : lv_has ls 5 [(4, .int (-1)), (3, .int 3), (0, .ref (b 0)), (1, .int (nI 3)), (2, .int (nI (sm t.1 0 (min (xZ 3) 4))))] := hl
              refine lv_iload hx hb dX5_storing_180 (lv_at hl 0 rfl) ?_
              refine lv_if_ge (tgt := 190) hx hb dX5_storing_182 (by decide) (fun hno => absurd hno (by decide)) (fun _ => ?_)
              refine lv_ldc (v := 100925505) hx hb hown (htb _ kK_X5_143) dX5_storing_185 ?_
              refine lv_goto (tgt := 203) hx hb dX5_storing_187 (by decide) ?_
              rw [hQ]
              exact W.iret (v := 100925505) hx hb hr (fun t9 ht hW => ⟨congrArg (fun z => Outcome.returned (some (Value.int z))) (by rw [stF_3, if_pos hc23]; unfold cF; rw [if_neg (show ¬ 4 < sm t.1 0 (min (xZ 3) 4) by have := (nI_leI (b := 4) (by omega) (by decide)).mp hc24; omega), if_neg hc25]; rfl), ht⟩) (fun q h => nomatch h) dX5_storing_203
          refine lv_ldc (v := 101253168) hx hb hown (htb _ kK_X5_140) dX5_storing_169 ?_
          rw [hQ]
          exact W.iret (v := 101253168) hx hb hr (fun t9 ht hW => ⟨congrArg (fun z => Outcome.returned (some (Value.int z))) (by rw [stF_3, if_pos hc23]; unfold cF; rw [if_pos (show 4 < sm t.1 0 (min (xZ 3) 4) by have h9 : ¬ sm t.1 0 (min (xZ 3) 4) ≤ 4 := fun h => hc24 ((nI_leI (b := 4) (by omega) (by decide)).mpr h); omega)]; rfl), ht⟩) (fun q h => nomatch h) dX5_storing_171
        refine lv_ldc (v := 134217762) hx hb hown (htb _ kK_X5_141) dX5_storing_120 ?_
        rw [hQ]
        exact W.iret (v := 134217762) hx hb hr (fun t9 ht hW => ⟨congrArg (fun z => Outcome.returned (some (Value.int z))) (by rw [stF_3, if_neg hc23]; rfl), ht⟩) (fun q h => nomatch h) dX5_storing_122
      · refine lv_iload_n hx hb dX5_storing_44 rfl (lv_at hl 1 rfl) ?_
        refine lv_bipush (v := 8) hx hb dX5_storing_45 (by decide) ?_
        refine lv_icmp_ne (tgt := 71) hx hb dX5_storing_47 (by decide) (fun _ => ?_) (fun hno => absurd hno (fun h => by have := (nI_eq (a := e) (b := 8) (by omega) (by decide)).mp h; omega))
        refine lv_iload_n hx hb dX5_storing_71 rfl (lv_at hl 1 rfl) ?_
        refine lv_iconst (v := 3) hx hb dX5_storing_72 (by decide) ?_
        refine lv_icmp_lt (tgt := 86) hx hb dX5_storing_73 (by decide) (fun hno => absurd hno (nI_nlt (a := e) (b := 3) (by omega) (by omega))) (fun _ => ?_)
        refine lv_iload_n hx hb dX5_storing_76 rfl (lv_at hl 1 rfl) ?_
        refine lv_bipush (v := 8) hx hb dX5_storing_77 (by decide) ?_
        refine lv_icmp_ge (tgt := 86) hx hb dX5_storing_79 (by decide) (fun hno => absurd hno (nI_ge (a := e) (b := 8) (by omega) (by decide))) (fun _ => ?_)
        refine lv_iconst (v := 3) hx hb dX5_storing_82 (by decide) ?_
        refine lv_goto (tgt := 104) hx hb dX5_storing_83 (by decide) ?_
        refine lv_istore_n hx hb dX5_storing_104 rfl hl (by decide) rfl (fun ls hl => ?_)
        have hl : lv_has ls 5 [(3, .int 3), (0, .ref (b 0)), (1, .int (nI e)), (2, .int (nI (sm t.1 0 (min (xZ e) 4))))] := hl
        refine lv_iload_n hx hb dX5_storing_105 rfl (lv_at hl 0 rfl) ?_
        refine lv_if_ne (tgt := 111) hx hb dX5_storing_106 (by decide) (fun _ => ?_) (fun hno => absurd hno (by decide))
        refine lv_aload_n hx hb dX5_storing_111 rfl (lv_at hl 1 rfl) ?_
        refine va_get (D := D) (ci := 5) (v := .int nd.1) (fs := [.int th, .int N, .ref (b 1), .ref (b 2), .ref (b 3), .ref (b 4), .ref (b 5), .ref (b 6), .int 22, .int 95, .int nd.1, .int nd.2.2.1, .int nd.2.1, .long nd.2.2.2, .int t.2.1, .int t.2.2.1, .int t.2.2.2.1, .int t.2.2.2.2.1, .int t.2.2.2.2.2, .ref (b 7), .long q, .int sg, .ref (b 8), .ref (b 9), .ref (b 10), .int o.2.2.2.1, .int o.2.2.2.2]) (C := RX5) (T := TX5) (N := 27) hx hb htb inX5 hown hK hP 0 rfl rfl 10 (by decide) (htb _ kF_X5_82) (fun _ h9 => h9) rfl dX5_storing_112 ?_
        refine lv_bipush (v := 127) hx hb dX5_storing_115 (by decide) ?_
        refine lv_icmp_eq (tgt := 123) hx hb dX5_storing_117 (by decide) (fun hc27 => ?_) (fun hc27 => ?_)
        · refine lv_iload_n hx hb dX5_storing_123 rfl (lv_at hl 2 rfl) ?_
          refine lv_iload_n hx hb dX5_storing_124 rfl (lv_at hl 0 rfl) ?_
          refine lv_icmp_le (tgt := 164) hx hb dX5_storing_125 (by decide) (fun hno => absurd hno (nI_ge (a := 3) (b := e) (by omega) (by omega))) (fun _ => ?_)
          refine lv_aload_n hx hb dX5_storing_128 rfl (lv_at hl 1 rfl) ?_
          refine lv_iload_n hx hb dX5_storing_129 rfl (lv_at hl 0 rfl) ?_
          refine zb_ci (va_runV (As := [.int 3]) (rest := []) ⟨hx, hb, hml, hown, htb⟩ (r_number l D b cA cJ N f o t nd q sg th 3 hB (by omega)) (cwV 1 htb (wb_V kM_X5_97 kI_X5_number kS_X5_number kN_X5 kD_X5_number) rfl rfl rfl (by decide +kernel) ⟨Nat.le_of_ble_eq_true rfl, Nat.le_of_ble_eq_true rfl⟩) (zp_V 0 rfl rfl hP hK hSt hS hnw) rfl rfl hl.1 rfl (lv_room (Nat.le_of_ble_eq_true rfl)) dX5_storing_130 ⟨Nat.le_of_ble_eq_true rfl, Nat.le_of_ble_eq_true rfl⟩) ?_
          refine zb_ti (y := nI (cT f)) (cnt_r 3 rfl) ?_
          refine lv_if_eq (tgt := 141) hx hb dX5_storing_133 (by decide) (fun hc28 => ?_) (fun hc28 => ?_)
          · refine lv_iload_n hx hb dX5_storing_141 rfl (lv_at hl 3 rfl) ?_
            refine lv_if_eq (tgt := 162) hx hb dX5_storing_142 (by decide) (fun hc29 => ?_) (fun hc29 => ?_)
            · refine lv_iconst (v := 0) hx hb dX5_storing_162 (by decide) ?_
              rw [hQ]
              exact W.iret (v := 0) hx hb hr (fun t9 ht hW => ⟨congrArg (fun z => Outcome.returned (some (Value.int z))) (by rw [stF_T _ _ _ he9.1 he9.2, if_pos hc27]; unfold nF; rw [if_pos (show cT f = 0 from (nI_eq (show cT f < 2 ^ 31 from Nat.lt_trans (bv_of hB (xP 3)).1 (by decide)) (by decide)).mp hc28), if_pos hc29]; rfl), ht⟩) (fun q h => nomatch h) dX5_storing_163
            refine lv_aload_n hx hb dX5_storing_145 rfl (lv_at hl 1 rfl) ?_
            refine lv_iload_n hx hb dX5_storing_146 rfl (lv_at hl 3 rfl) ?_
            refine lv_iload_n hx hb dX5_storing_147 rfl (lv_at hl 0 rfl) ?_
            refine zb_ci (va_runS (As := [.int 3]) (rest := [.int (nI (sm t.1 0 (min (xZ e) 4))), .ref (b 0)]) ⟨hx, hb, hml, hown, htb⟩ (r_rightOf l D b cA cJ N f o t nd q sg th 3) (va_cwS 1 htb (wb_S kM_X5_101 kZ_X5_rightOf kN_X5 kD_X5_rightOf) rfl rfl rfl (by decide +kernel) ⟨Nat.le_of_ble_eq_true rfl, Nat.le_of_ble_eq_true rfl⟩) (zp_S hP hK hSt hS hnw) rfl rfl hl.1 rfl (lv_room (Nat.le_of_ble_eq_true rfl)) dX5_storing_148 ⟨Nat.le_of_ble_eq_true rfl, Nat.le_of_ble_eq_true rfl⟩) ?_
            refine zb_ti (y := nI 2) (if_pos rfl) ?_
            refine zb_ci (va_runV (As := [.int (nI (sm t.1 0 (min (xZ e) 4))), .int (nI 2)]) (rest := []) ⟨hx, hb, hml, hown, htb⟩ (r_named l D b cA cJ N f o t nd q sg th (nI (sm t.1 0 (min (xZ e) 4))) 2 (by decide) (by decide)) (cwV 2 htb (wb_V kM_X5_104 kI_X5_named kS_X5_named kN_X5 kD_X5_named) rfl rfl rfl (by decide +kernel) ⟨Nat.le_of_ble_eq_true rfl, Nat.le_of_ble_eq_true rfl⟩) (zp_V 0 rfl rfl hP hK hSt hS hnw) rfl rfl hl.1 rfl (lv_room (Nat.le_of_ble_eq_true rfl)) dX5_storing_151 ⟨Nat.le_of_ble_eq_true rfl, Nat.le_of_ble_eq_true rfl⟩) ?_
            refine zb_ti (y := oI (mp (nI (sm t.1 0 (min (xZ e) 4))) 6)) (rfl) ?_
            cases hme : mp (nI (sm t.1 0 (min (xZ e) 4))) 6 with
            | none =>
              refine zb_ti (y := (-1)) (rfl) ?_
              refine lv_if_ge (tgt := 162) hx hb dX5_storing_154 (by decide) (fun hno => absurd hno (by decide)) (fun _ => ?_)
              refine lv_ldc (v := 100925505) hx hb hown (htb _ kK_X5_143) dX5_storing_157 ?_
              refine lv_goto (tgt := 163) hx hb dX5_storing_159 (by decide) ?_
              rw [hQ]
              exact W.iret (v := 100925505) hx hb hr (fun t9 ht hW => ⟨congrArg (fun z => Outcome.returned (some (Value.int z))) (by rw [stF_T _ _ _ he9.1 he9.2, if_pos hc27]; unfold nF; rw [if_pos (show cT f = 0 from (nI_eq (show cT f < 2 ^ 31 from Nat.lt_trans (bv_of hB (xP 3)).1 (by decide)) (by decide)).mp hc28), if_neg hc29, if_pos hme]; rfl), ht⟩) (fun q h => nomatch h) dX5_storing_163
            | some e9 =>
              refine zb_ti (y := nI e9) (rfl) ?_
              have h22_e9 : e9 < 22 := (fun h => (mp_lt h).1) hme
              have hft_e9 := x_fit e9 h22_e9
              refine lv_if_ge (tgt := 162) hx hb dX5_storing_154 (by decide) (fun _ => ?_) (fun hno => absurd (ni_0le h22_e9) hno)
              refine lv_iconst (v := 0) hx hb dX5_storing_162 (by decide) ?_
              rw [hQ]
              exact W.iret (v := 0) hx hb hr (fun t9 ht hW => ⟨congrArg (fun z => Outcome.returned (some (Value.int z))) (by rw [stF_T _ _ _ he9.1 he9.2, if_pos hc27]; unfold nF; rw [if_pos (show cT f = 0 from (nI_eq (show cT f < 2 ^ 31 from Nat.lt_trans (bv_of hB (xP 3)).1 (by decide)) (by decide)).mp hc28), if_neg hc29, if_neg (by rw [hme]; exact fun h => nomatch h)]; rfl), ht⟩) (fun q h => nomatch h) dX5_storing_163
          refine lv_ldc (v := 100728832) hx hb hown (htb _ kK_X5_142) dX5_storing_136 ?_
          refine lv_goto (tgt := 163) hx hb dX5_storing_138 (by decide) ?_
          rw [hQ]
          exact W.iret (v := 100728832) hx hb hr (fun t9 ht hW => ⟨congrArg (fun z => Outcome.returned (some (Value.int z))) (by rw [stF_T _ _ _ he9.1 he9.2, if_pos hc27]; unfold nF; rw [if_neg (fun h => hc28 (by rw [h]; rfl))]; rfl), ht⟩) (fun q h => nomatch h) dX5_storing_163
        refine lv_ldc (v := 134217762) hx hb hown (htb _ kK_X5_141) dX5_storing_120 ?_
        rw [hQ]
        exact W.iret (v := 134217762) hx hb hr (fun t9 ht hW => ⟨congrArg (fun z => Outcome.returned (some (Value.int z))) (by rw [stF_T _ _ _ he9.1 he9.2, if_neg hc27]; rfl), ht⟩) (fun q h => nomatch h) dX5_storing_122
      · subst he9
        have hV8 : sm t.1 0 (min (xZ 9) 4) < 256 := sm_lt hBh 0 1
        refine lv_iload_n hx hb dX5_storing_44 rfl (lv_at hl 1 rfl) ?_
        refine lv_bipush (v := 8) hx hb dX5_storing_45 (by decide) ?_
        refine lv_icmp_ne (tgt := 71) hx hb dX5_storing_47 (by decide) (fun _ => ?_) (fun hno => absurd hno (fun h => by have := (nI_eq (a := 9) (b := 8) (by omega) (by decide)).mp h; omega))
        refine lv_iload_n hx hb dX5_storing_71 rfl (lv_at hl 1 rfl) ?_
        refine lv_iconst (v := 3) hx hb dX5_storing_72 (by decide) ?_
        refine lv_icmp_lt (tgt := 86) hx hb dX5_storing_73 (by decide) (fun hno => absurd hno (nI_nlt (a := 9) (b := 3) (by omega) (by omega))) (fun _ => ?_)
        refine lv_iload_n hx hb dX5_storing_76 rfl (lv_at hl 1 rfl) ?_
        refine lv_bipush (v := 8) hx hb dX5_storing_77 (by decide) ?_
        refine lv_icmp_ge (tgt := 86) hx hb dX5_storing_79 (by decide) (fun _ => ?_) (fun hno => absurd (nI_le (a := 8) (b := 9) (by omega) (by omega)) hno)
        refine lv_iload_n hx hb dX5_storing_86 rfl (lv_at hl 1 rfl) ?_
        refine lv_bipush (v := 9) hx hb dX5_storing_87 (by decide) ?_
        refine lv_icmp_lt (tgt := 103) hx hb dX5_storing_89 (by decide) (fun hno => absurd hno (nI_nlt (a := 9) (b := 9) (by omega) (by omega))) (fun _ => ?_)
        refine lv_iload_n hx hb dX5_storing_92 rfl (lv_at hl 1 rfl) ?_
        refine lv_bipush (v := 14) hx hb dX5_storing_93 (by decide) ?_
        refine lv_icmp_ge (tgt := 103) hx hb dX5_storing_95 (by decide) (fun hno => absurd hno (nI_ge (a := 9) (b := 14) (by omega) (by decide))) (fun _ => ?_)
        refine lv_bipush (v := 9) hx hb dX5_storing_98 (by decide) ?_
        refine lv_goto (tgt := 104) hx hb dX5_storing_100 (by decide) ?_
        refine lv_istore_n hx hb dX5_storing_104 rfl hl (by decide) rfl (fun ls hl => ?_)
        have hl : lv_has ls 5 [(3, .int 9), (0, .ref (b 0)), (1, .int (nI 9)), (2, .int (nI (sm t.1 0 (min (xZ 9) 4))))] := hl
        refine lv_iload_n hx hb dX5_storing_105 rfl (lv_at hl 0 rfl) ?_
        refine lv_if_ne (tgt := 111) hx hb dX5_storing_106 (by decide) (fun _ => ?_) (fun hno => absurd hno (by decide))
        refine lv_aload_n hx hb dX5_storing_111 rfl (lv_at hl 1 rfl) ?_
        refine va_get (D := D) (ci := 5) (v := .int nd.1) (fs := [.int th, .int N, .ref (b 1), .ref (b 2), .ref (b 3), .ref (b 4), .ref (b 5), .ref (b 6), .int 22, .int 95, .int nd.1, .int nd.2.2.1, .int nd.2.1, .long nd.2.2.2, .int t.2.1, .int t.2.2.1, .int t.2.2.2.1, .int t.2.2.2.2.1, .int t.2.2.2.2.2, .ref (b 7), .long q, .int sg, .ref (b 8), .ref (b 9), .ref (b 10), .int o.2.2.2.1, .int o.2.2.2.2]) (C := RX5) (T := TX5) (N := 27) hx hb htb inX5 hown hK hP 0 rfl rfl 10 (by decide) (htb _ kF_X5_82) (fun _ h9 => h9) rfl dX5_storing_112 ?_
        refine lv_bipush (v := 127) hx hb dX5_storing_115 (by decide) ?_
        refine lv_icmp_eq (tgt := 123) hx hb dX5_storing_117 (by decide) (fun hc30 => ?_) (fun hc30 => ?_)
        · refine lv_iload_n hx hb dX5_storing_123 rfl (lv_at hl 2 rfl) ?_
          refine lv_iload_n hx hb dX5_storing_124 rfl (lv_at hl 0 rfl) ?_
          refine lv_icmp_le (tgt := 164) hx hb dX5_storing_125 (by decide) (fun _ => ?_) (fun hno => absurd (nI_le (a := 9) (b := 9) (by omega) (by omega)) hno)
          refine lv_iload_n hx hb dX5_storing_164 rfl (lv_at hl 3 rfl) ?_
          refine lv_iconst (v := 4) hx hb dX5_storing_165 (by decide) ?_
          refine lv_icmp_le (tgt := 172) hx hb dX5_storing_166 (by decide) (fun hc31 => ?_) (fun hc31 => ?_)
          · refine lv_aload_n hx hb dX5_storing_172 rfl (lv_at hl 1 rfl) ?_
            refine lv_iload_n hx hb dX5_storing_173 rfl (lv_at hl 0 rfl) ?_
            refine lv_iload_n hx hb dX5_storing_174 rfl (lv_at hl 3 rfl) ?_
            refine zb_ci (va_runV (As := [.int 9, .int (nI (sm t.1 0 (min (xZ 9) 4)))]) (rest := []) ⟨hx, hb, hml, hown, htb⟩ (r_lengthG l D b cA cJ N f o t nd q sg th (sm t.1 0 (min (xZ 9) 4)) hB ((nI_leI (b := 4) (by omega) (by decide)).mp hc31)) (cwV 2 htb (wb_V kM_X5_116 kI_X5_lengthOf kS_X5_lengthOf kN_X5 kD_X5_lengthOf) rfl rfl rfl (by decide +kernel) ⟨Nat.le_of_ble_eq_true rfl, Nat.le_of_ble_eq_true rfl⟩) (zp_V 0 rfl rfl hP hK hSt hS hnw) rfl rfl hl.1 rfl (lv_room (Nat.le_of_ble_eq_true rfl)) dX5_storing_175 ⟨Nat.le_of_ble_eq_true rfl, Nat.le_of_ble_eq_true rfl⟩) ?_
            by_cases hc32 : mOk f 9 5 (sm t.1 0 (min (xZ 9) 4)) = true
            · refine zb_ti (y := nI (mL f 9 5 (sm t.1 0 (min (xZ 9) 4)))) (if_pos hc32) ?_
              have hm31 := mL_31 f 9 5 (sm t.1 0 (min (xZ 9) 4)) ((nI_leI (b := 4) (by omega) (by decide)).mp hc31)
              refine lv_istore hx hb dX5_storing_178 hl (by decide) rfl (fun ls hl => ?_)
              have hl : lv_has ls 5 [(4, .int (nI (mL f 9 5 (sm t.1 0 (min (xZ 9) 4))))), (3, .int 9), (0, .ref (b 0)), (1, .int (nI 9)), (2, .int (nI (sm t.1 0 (min (xZ 9) 4))))] := hl
              refine lv_iload hx hb dX5_storing_180 (lv_at hl 0 rfl) ?_
              refine lv_if_ge (tgt := 190) hx hb dX5_storing_182 (by decide) (fun _ => ?_) (fun hno => absurd (nI_le (a := 0) (Nat.zero_le _) hm31) hno)
              refine lv_iload hx hb dX5_storing_190 (lv_at hl 0 rfl) ?_
              refine lv_bipush (v := 8) hx hb dX5_storing_192 (by decide) ?_
              refine lv_icmp_le (tgt := 202) hx hb dX5_storing_194 (by decide) (fun hc33 => ?_) (fun hc33 => ?_)
              · refine lv_iconst (v := 0) hx hb dX5_storing_202 (by decide) ?_
                rw [hQ]
                exact W.iret (v := 0) hx hb hr (fun t9 ht hW => ⟨congrArg (fun z => Outcome.returned (some (Value.int z))) (by rw [stF_9, if_pos hc30]; unfold cF; rw [if_neg (show ¬ 4 < sm t.1 0 (min (xZ 9) 4) by have := (nI_leI (b := 4) (by omega) (by decide)).mp hc31; omega), if_pos hc32, if_neg (show ¬ 8 < mL f 9 5 (sm t.1 0 (min (xZ 9) 4)) by have := (nI_leI (b := 8) hm31 (by decide)).mp hc33; omega)]; rfl), ht⟩) (fun q h => nomatch h) dX5_storing_203
              refine lv_ldc (v := 100925506) hx hb hown (htb _ kK_X5_144) dX5_storing_197 ?_
              refine lv_goto (tgt := 203) hx hb dX5_storing_199 (by decide) ?_
              rw [hQ]
              exact W.iret (v := 100925506) hx hb hr (fun t9 ht hW => ⟨congrArg (fun z => Outcome.returned (some (Value.int z))) (by rw [stF_9, if_pos hc30]; unfold cF; rw [if_neg (show ¬ 4 < sm t.1 0 (min (xZ 9) 4) by have := (nI_leI (b := 4) (by omega) (by decide)).mp hc31; omega), if_pos hc32, if_pos (show 8 < mL f 9 5 (sm t.1 0 (min (xZ 9) 4)) by have h9 : ¬ mL f 9 5 (sm t.1 0 (min (xZ 9) 4)) ≤ 8 := fun h => hc33 ((nI_leI (b := 8) hm31 (by decide)).mpr h); omega)]; rfl), ht⟩) (fun q h => nomatch h) dX5_storing_203
            · refine zb_ti (y := (-1)) (if_neg hc32) ?_
              refine lv_istore hx hb dX5_storing_178 hl (by decide) rfl (fun ls hl => ?_)
              have hl : lv_has ls 5 [(4, .int (-1)), (3, .int 9), (0, .ref (b 0)), (1, .int (nI 9)), (2, .int (nI (sm t.1 0 (min (xZ 9) 4))))] := hl
              refine lv_iload hx hb dX5_storing_180 (lv_at hl 0 rfl) ?_
              refine lv_if_ge (tgt := 190) hx hb dX5_storing_182 (by decide) (fun hno => absurd hno (by decide)) (fun _ => ?_)
              refine lv_ldc (v := 100925505) hx hb hown (htb _ kK_X5_143) dX5_storing_185 ?_
              refine lv_goto (tgt := 203) hx hb dX5_storing_187 (by decide) ?_
              rw [hQ]
              exact W.iret (v := 100925505) hx hb hr (fun t9 ht hW => ⟨congrArg (fun z => Outcome.returned (some (Value.int z))) (by rw [stF_9, if_pos hc30]; unfold cF; rw [if_neg (show ¬ 4 < sm t.1 0 (min (xZ 9) 4) by have := (nI_leI (b := 4) (by omega) (by decide)).mp hc31; omega), if_neg hc32]; rfl), ht⟩) (fun q h => nomatch h) dX5_storing_203
          refine lv_ldc (v := 101253168) hx hb hown (htb _ kK_X5_140) dX5_storing_169 ?_
          rw [hQ]
          exact W.iret (v := 101253168) hx hb hr (fun t9 ht hW => ⟨congrArg (fun z => Outcome.returned (some (Value.int z))) (by rw [stF_9, if_pos hc30]; unfold cF; rw [if_pos (show 4 < sm t.1 0 (min (xZ 9) 4) by have h9 : ¬ sm t.1 0 (min (xZ 9) 4) ≤ 4 := fun h => hc31 ((nI_leI (b := 4) (by omega) (by decide)).mpr h); omega)]; rfl), ht⟩) (fun q h => nomatch h) dX5_storing_171
        refine lv_ldc (v := 134217762) hx hb hown (htb _ kK_X5_141) dX5_storing_120 ?_
        rw [hQ]
        exact W.iret (v := 134217762) hx hb hr (fun t9 ht hW => ⟨congrArg (fun z => Outcome.returned (some (Value.int z))) (by rw [stF_9, if_neg hc30]; rfl), ht⟩) (fun q h => nomatch h) dX5_storing_122
      · refine lv_iload_n hx hb dX5_storing_44 rfl (lv_at hl 1 rfl) ?_
        refine lv_bipush (v := 8) hx hb dX5_storing_45 (by decide) ?_
        refine lv_icmp_ne (tgt := 71) hx hb dX5_storing_47 (by decide) (fun _ => ?_) (fun hno => absurd hno (fun h => by have := (nI_eq (a := e) (b := 8) (by omega) (by decide)).mp h; omega))
        refine lv_iload_n hx hb dX5_storing_71 rfl (lv_at hl 1 rfl) ?_
        refine lv_iconst (v := 3) hx hb dX5_storing_72 (by decide) ?_
        refine lv_icmp_lt (tgt := 86) hx hb dX5_storing_73 (by decide) (fun hno => absurd hno (nI_nlt (a := e) (b := 3) (by omega) (by omega))) (fun _ => ?_)
        refine lv_iload_n hx hb dX5_storing_76 rfl (lv_at hl 1 rfl) ?_
        refine lv_bipush (v := 8) hx hb dX5_storing_77 (by decide) ?_
        refine lv_icmp_ge (tgt := 86) hx hb dX5_storing_79 (by decide) (fun _ => ?_) (fun hno => absurd (nI_le (a := 8) (b := e) (by omega) (by omega)) hno)
        refine lv_iload_n hx hb dX5_storing_86 rfl (lv_at hl 1 rfl) ?_
        refine lv_bipush (v := 9) hx hb dX5_storing_87 (by decide) ?_
        refine lv_icmp_lt (tgt := 103) hx hb dX5_storing_89 (by decide) (fun hno => absurd hno (nI_nlt (a := e) (b := 9) (by omega) (by omega))) (fun _ => ?_)
        refine lv_iload_n hx hb dX5_storing_92 rfl (lv_at hl 1 rfl) ?_
        refine lv_bipush (v := 14) hx hb dX5_storing_93 (by decide) ?_
        refine lv_icmp_ge (tgt := 103) hx hb dX5_storing_95 (by decide) (fun hno => absurd hno (nI_ge (a := e) (b := 14) (by omega) (by decide))) (fun _ => ?_)
        refine lv_bipush (v := 9) hx hb dX5_storing_98 (by decide) ?_
        refine lv_goto (tgt := 104) hx hb dX5_storing_100 (by decide) ?_
        refine lv_istore_n hx hb dX5_storing_104 rfl hl (by decide) rfl (fun ls hl => ?_)
        have hl : lv_has ls 5 [(3, .int 9), (0, .ref (b 0)), (1, .int (nI e)), (2, .int (nI (sm t.1 0 (min (xZ e) 4))))] := hl
        refine lv_iload_n hx hb dX5_storing_105 rfl (lv_at hl 0 rfl) ?_
        refine lv_if_ne (tgt := 111) hx hb dX5_storing_106 (by decide) (fun _ => ?_) (fun hno => absurd hno (by decide))
        refine lv_aload_n hx hb dX5_storing_111 rfl (lv_at hl 1 rfl) ?_
        refine va_get (D := D) (ci := 5) (v := .int nd.1) (fs := [.int th, .int N, .ref (b 1), .ref (b 2), .ref (b 3), .ref (b 4), .ref (b 5), .ref (b 6), .int 22, .int 95, .int nd.1, .int nd.2.2.1, .int nd.2.1, .long nd.2.2.2, .int t.2.1, .int t.2.2.1, .int t.2.2.2.1, .int t.2.2.2.2.1, .int t.2.2.2.2.2, .ref (b 7), .long q, .int sg, .ref (b 8), .ref (b 9), .ref (b 10), .int o.2.2.2.1, .int o.2.2.2.2]) (C := RX5) (T := TX5) (N := 27) hx hb htb inX5 hown hK hP 0 rfl rfl 10 (by decide) (htb _ kF_X5_82) (fun _ h9 => h9) rfl dX5_storing_112 ?_
        refine lv_bipush (v := 127) hx hb dX5_storing_115 (by decide) ?_
        refine lv_icmp_eq (tgt := 123) hx hb dX5_storing_117 (by decide) (fun hc34 => ?_) (fun hc34 => ?_)
        · refine lv_iload_n hx hb dX5_storing_123 rfl (lv_at hl 2 rfl) ?_
          refine lv_iload_n hx hb dX5_storing_124 rfl (lv_at hl 0 rfl) ?_
          refine lv_icmp_le (tgt := 164) hx hb dX5_storing_125 (by decide) (fun hno => absurd hno (nI_ge (a := 9) (b := e) (by omega) (by omega))) (fun _ => ?_)
          refine lv_aload_n hx hb dX5_storing_128 rfl (lv_at hl 1 rfl) ?_
          refine lv_iload_n hx hb dX5_storing_129 rfl (lv_at hl 0 rfl) ?_
          refine zb_ci (va_runV (As := [.int 9]) (rest := []) ⟨hx, hb, hml, hown, htb⟩ (r_number l D b cA cJ N f o t nd q sg th 9 hB (by omega)) (cwV 1 htb (wb_V kM_X5_97 kI_X5_number kS_X5_number kN_X5 kD_X5_number) rfl rfl rfl (by decide +kernel) ⟨Nat.le_of_ble_eq_true rfl, Nat.le_of_ble_eq_true rfl⟩) (zp_V 0 rfl rfl hP hK hSt hS hnw) rfl rfl hl.1 rfl (lv_room (Nat.le_of_ble_eq_true rfl)) dX5_storing_130 ⟨Nat.le_of_ble_eq_true rfl, Nat.le_of_ble_eq_true rfl⟩) ?_
          refine zb_ti (y := nI (cG f)) (cnt_r 9 rfl) ?_
          refine lv_if_eq (tgt := 141) hx hb dX5_storing_133 (by decide) (fun hc35 => ?_) (fun hc35 => ?_)
          · refine lv_iload_n hx hb dX5_storing_141 rfl (lv_at hl 3 rfl) ?_
            refine lv_if_eq (tgt := 162) hx hb dX5_storing_142 (by decide) (fun hc36 => ?_) (fun hc36 => ?_)
            · refine lv_iconst (v := 0) hx hb dX5_storing_162 (by decide) ?_
              rw [hQ]
              exact W.iret (v := 0) hx hb hr (fun t9 ht hW => ⟨congrArg (fun z => Outcome.returned (some (Value.int z))) (by rw [stF_G _ _ _ he9.1 he9.2, if_pos hc34]; unfold nF; rw [if_pos (show cG f = 0 from (nI_eq (show cG f < 2 ^ 31 from Nat.lt_trans (bv_of hB (xP 9)).1 (by decide)) (by decide)).mp hc35), if_pos hc36]; rfl), ht⟩) (fun q h => nomatch h) dX5_storing_163
            refine lv_aload_n hx hb dX5_storing_145 rfl (lv_at hl 1 rfl) ?_
            refine lv_iload_n hx hb dX5_storing_146 rfl (lv_at hl 3 rfl) ?_
            refine lv_iload_n hx hb dX5_storing_147 rfl (lv_at hl 0 rfl) ?_
            refine zb_ci (va_runS (As := [.int 9]) (rest := [.int (nI (sm t.1 0 (min (xZ e) 4))), .ref (b 0)]) ⟨hx, hb, hml, hown, htb⟩ (r_rightOf l D b cA cJ N f o t nd q sg th 9) (va_cwS 1 htb (wb_S kM_X5_101 kZ_X5_rightOf kN_X5 kD_X5_rightOf) rfl rfl rfl (by decide +kernel) ⟨Nat.le_of_ble_eq_true rfl, Nat.le_of_ble_eq_true rfl⟩) (zp_S hP hK hSt hS hnw) rfl rfl hl.1 rfl (lv_room (Nat.le_of_ble_eq_true rfl)) dX5_storing_148 ⟨Nat.le_of_ble_eq_true rfl, Nat.le_of_ble_eq_true rfl⟩) ?_
            refine zb_ti (y := nI 1) (if_neg (by decide)) ?_
            refine zb_ci (va_runV (As := [.int (nI (sm t.1 0 (min (xZ e) 4))), .int (nI 1)]) (rest := []) ⟨hx, hb, hml, hown, htb⟩ (r_named l D b cA cJ N f o t nd q sg th (nI (sm t.1 0 (min (xZ e) 4))) 1 (by decide) (by decide)) (cwV 2 htb (wb_V kM_X5_104 kI_X5_named kS_X5_named kN_X5 kD_X5_named) rfl rfl rfl (by decide +kernel) ⟨Nat.le_of_ble_eq_true rfl, Nat.le_of_ble_eq_true rfl⟩) (zp_V 0 rfl rfl hP hK hSt hS hnw) rfl rfl hl.1 rfl (lv_room (Nat.le_of_ble_eq_true rfl)) dX5_storing_151 ⟨Nat.le_of_ble_eq_true rfl, Nat.le_of_ble_eq_true rfl⟩) ?_
            refine zb_ti (y := oI (mp (nI (sm t.1 0 (min (xZ e) 4))) 5)) (rfl) ?_
            cases hme : mp (nI (sm t.1 0 (min (xZ e) 4))) 5 with
            | none =>
              refine zb_ti (y := (-1)) (rfl) ?_
              refine lv_if_ge (tgt := 162) hx hb dX5_storing_154 (by decide) (fun hno => absurd hno (by decide)) (fun _ => ?_)
              refine lv_ldc (v := 100925505) hx hb hown (htb _ kK_X5_143) dX5_storing_157 ?_
              refine lv_goto (tgt := 163) hx hb dX5_storing_159 (by decide) ?_
              rw [hQ]
              exact W.iret (v := 100925505) hx hb hr (fun t9 ht hW => ⟨congrArg (fun z => Outcome.returned (some (Value.int z))) (by rw [stF_G _ _ _ he9.1 he9.2, if_pos hc34]; unfold nF; rw [if_pos (show cG f = 0 from (nI_eq (show cG f < 2 ^ 31 from Nat.lt_trans (bv_of hB (xP 9)).1 (by decide)) (by decide)).mp hc35), if_neg hc36, if_pos hme]; rfl), ht⟩) (fun q h => nomatch h) dX5_storing_163
            | some e9 =>
              refine zb_ti (y := nI e9) (rfl) ?_
              have h22_e9 : e9 < 22 := (fun h => (mp_lt h).1) hme
              have hft_e9 := x_fit e9 h22_e9
              refine lv_if_ge (tgt := 162) hx hb dX5_storing_154 (by decide) (fun _ => ?_) (fun hno => absurd (ni_0le h22_e9) hno)
              refine lv_iconst (v := 0) hx hb dX5_storing_162 (by decide) ?_
              rw [hQ]
              exact W.iret (v := 0) hx hb hr (fun t9 ht hW => ⟨congrArg (fun z => Outcome.returned (some (Value.int z))) (by rw [stF_G _ _ _ he9.1 he9.2, if_pos hc34]; unfold nF; rw [if_pos (show cG f = 0 from (nI_eq (show cG f < 2 ^ 31 from Nat.lt_trans (bv_of hB (xP 9)).1 (by decide)) (by decide)).mp hc35), if_neg hc36, if_neg (by rw [hme]; exact fun h => nomatch h)]; rfl), ht⟩) (fun q h => nomatch h) dX5_storing_163
          refine lv_ldc (v := 100728832) hx hb hown (htb _ kK_X5_142) dX5_storing_136 ?_
          refine lv_goto (tgt := 163) hx hb dX5_storing_138 (by decide) ?_
          rw [hQ]
          exact W.iret (v := 100728832) hx hb hr (fun t9 ht hW => ⟨congrArg (fun z => Outcome.returned (some (Value.int z))) (by rw [stF_G _ _ _ he9.1 he9.2, if_pos hc34]; unfold nF; rw [if_neg (fun h => hc35 (by rw [h]; rfl))]; rfl), ht⟩) (fun q h => nomatch h) dX5_storing_163
        refine lv_ldc (v := 134217762) hx hb hown (htb _ kK_X5_141) dX5_storing_120 ?_
        rw [hQ]
        exact W.iret (v := 134217762) hx hb hr (fun t9 ht hW => ⟨congrArg (fun z => Outcome.returned (some (Value.int z))) (by rw [stF_G _ _ _ he9.1 he9.2, if_neg hc34]; rfl), ht⟩) (fun q h => nomatch h) dX5_storing_122
      · refine lv_iload_n hx hb dX5_storing_44 rfl (lv_at hl 1 rfl) ?_
        refine lv_bipush (v := 8) hx hb dX5_storing_45 (by decide) ?_
        refine lv_icmp_ne (tgt := 71) hx hb dX5_storing_47 (by decide) (fun _ => ?_) (fun hno => absurd hno (fun h => by have := (nI_eq (a := e) (b := 8) (by omega) (by decide)).mp h; omega))
        refine lv_iload_n hx hb dX5_storing_71 rfl (lv_at hl 1 rfl) ?_
        refine lv_iconst (v := 3) hx hb dX5_storing_72 (by decide) ?_
        refine lv_icmp_lt (tgt := 86) hx hb dX5_storing_73 (by decide) (fun _ => ?_) (fun hno => absurd (nI_lt (a := e) (b := 3) (by omega) (by decide)) hno)
        refine lv_iload_n hx hb dX5_storing_86 rfl (lv_at hl 1 rfl) ?_
        refine lv_bipush (v := 9) hx hb dX5_storing_87 (by decide) ?_
        refine lv_icmp_lt (tgt := 103) hx hb dX5_storing_89 (by decide) (fun _ => ?_) (fun hno => absurd (nI_lt (a := e) (b := 9) (by omega) (by decide)) hno)
        refine lv_iconst (v := 0) hx hb dX5_storing_103 (by decide) ?_
        refine lv_istore_n hx hb dX5_storing_104 rfl hl (by decide) rfl (fun ls hl => ?_)
        have hl : lv_has ls 5 [(3, .int 0), (0, .ref (b 0)), (1, .int (nI e)), (2, .int (nI (sm t.1 0 (min (xZ e) 4))))] := hl
        refine lv_iload_n hx hb dX5_storing_105 rfl (lv_at hl 0 rfl) ?_
        refine lv_if_ne (tgt := 111) hx hb dX5_storing_106 (by decide) (fun hno => absurd (by decide) hno) (fun _ => ?_)
        refine lv_iconst (v := 0) hx hb dX5_storing_109 (by decide) ?_
        rw [hQ]
        exact W.iret (v := 0) hx hb hr (fun t9 ht hW => ⟨congrArg (fun z => Outcome.returned (some (Value.int z))) (by rw [stF_o _ _ _ (by omega)]; rfl), ht⟩) (fun q h => nomatch h) dX5_storing_110
      · refine lv_iload_n hx hb dX5_storing_44 rfl (lv_at hl 1 rfl) ?_
        refine lv_bipush (v := 8) hx hb dX5_storing_45 (by decide) ?_
        refine lv_icmp_ne (tgt := 71) hx hb dX5_storing_47 (by decide) (fun _ => ?_) (fun hno => absurd hno (fun h => by have := (nI_eq (a := e) (b := 8) (by omega) (by decide)).mp h; omega))
        refine lv_iload_n hx hb dX5_storing_71 rfl (lv_at hl 1 rfl) ?_
        refine lv_iconst (v := 3) hx hb dX5_storing_72 (by decide) ?_
        refine lv_icmp_lt (tgt := 86) hx hb dX5_storing_73 (by decide) (fun hno => absurd hno (nI_nlt (a := e) (b := 3) (by omega) (by omega))) (fun _ => ?_)
        refine lv_iload_n hx hb dX5_storing_76 rfl (lv_at hl 1 rfl) ?_
        refine lv_bipush (v := 8) hx hb dX5_storing_77 (by decide) ?_
        refine lv_icmp_ge (tgt := 86) hx hb dX5_storing_79 (by decide) (fun _ => ?_) (fun hno => absurd (nI_le (a := 8) (b := e) (by omega) (by omega)) hno)
        refine lv_iload_n hx hb dX5_storing_86 rfl (lv_at hl 1 rfl) ?_
        refine lv_bipush (v := 9) hx hb dX5_storing_87 (by decide) ?_
        refine lv_icmp_lt (tgt := 103) hx hb dX5_storing_89 (by decide) (fun hno => absurd hno (nI_nlt (a := e) (b := 9) (by omega) (by omega))) (fun _ => ?_)
        refine lv_iload_n hx hb dX5_storing_92 rfl (lv_at hl 1 rfl) ?_
        refine lv_bipush (v := 14) hx hb dX5_storing_93 (by decide) ?_
        refine lv_icmp_ge (tgt := 103) hx hb dX5_storing_95 (by decide) (fun _ => ?_) (fun hno => absurd (nI_le (a := 14) (b := e) (by omega) (by omega)) hno)
        refine lv_iconst (v := 0) hx hb dX5_storing_103 (by decide) ?_
        refine lv_istore_n hx hb dX5_storing_104 rfl hl (by decide) rfl (fun ls hl => ?_)
        have hl : lv_has ls 5 [(3, .int 0), (0, .ref (b 0)), (1, .int (nI e)), (2, .int (nI (sm t.1 0 (min (xZ e) 4))))] := hl
        refine lv_iload_n hx hb dX5_storing_105 rfl (lv_at hl 0 rfl) ?_
        refine lv_if_ne (tgt := 111) hx hb dX5_storing_106 (by decide) (fun hno => absurd (by decide) hno) (fun _ => ?_)
        refine lv_iconst (v := 0) hx hb dX5_storing_109 (by decide) ?_
        rw [hQ]
        exact W.iret (v := 0) hx hb hr (fun t9 ht hW => ⟨congrArg (fun z => Outcome.returned (some (Value.int z))) (by rw [stF_o _ _ _ (by omega)]; rfl), ht⟩) (fun q h => nomatch h) dX5_storing_110
    | succ nn ih_lp =>
      intro k ls hk_lp  hl
      have hk1_lp : k < min (xZ e) 4 := by omega
      refine lv_iload_n hx hb dX5_storing_9 rfl (lv_at hl 3 rfl) ?_
      refine lv_aload_n hx hb dX5_storing_10 rfl (lv_at hl 0 rfl) ?_
      refine va_get (D := D) (ci := 5) (v := .ref (b 3)) (fs := [.int th, .int N, .ref (b 1), .ref (b 2), .ref (b 3), .ref (b 4), .ref (b 5), .ref (b 6), .int 22, .int 95, .int nd.1, .int nd.2.2.1, .int nd.2.1, .long nd.2.2.2, .int t.2.1, .int t.2.2.1, .int t.2.2.2.1, .int t.2.2.2.2.1, .int t.2.2.2.2.2, .ref (b 7), .long q, .int sg, .ref (b 8), .ref (b 9), .ref (b 10), .int o.2.2.2.1, .int o.2.2.2.2]) (C := RX5) (T := TX5) (N := 27) hx hb htb inX5 hown hK hP 0 rfl rfl 4 (by decide) (htb _ kF_X5_16) (fun _ h9 => h9) rfl dX5_storing_11 ?_
      refine lv_iload_n hx hb dX5_storing_14 rfl (lv_at hl 1 rfl) ?_
      refine va_iald (i := nI e) hx hb hK hP 3 0 rfl rfl (vp_in_nI (by omega) (by decide)) dX5_storing_15 ?_
      refine zb_ti (y := nI (xZ e)) (by rw [nI_clamp (by omega)]) ?_
      refine lv_icmp_ge (tgt := 44) hx hb dX5_storing_16 (by decide) (fun hno => absurd hno (nI_ge (a := k) (b := xZ e) (by omega) (by omega))) (fun _ => ?_)
      refine lv_iload_n hx hb dX5_storing_19 rfl (lv_at hl 3 rfl) ?_
      refine lv_iconst (v := 4) hx hb dX5_storing_20 (by decide) ?_
      refine lv_icmp_ge (tgt := 44) hx hb dX5_storing_21 (by decide) (fun hno => absurd hno (nI_ge (a := k) (b := 4) (by omega) (by decide))) (fun _ => ?_)
      refine lv_iload_n hx hb dX5_storing_24 rfl (lv_at hl 2 rfl) ?_
      refine lv_aload_n hx hb dX5_storing_25 rfl (lv_at hl 0 rfl) ?_
      refine va_get (D := D) (ci := 5) (v := .ref (b 7)) (fs := [.int th, .int N, .ref (b 1), .ref (b 2), .ref (b 3), .ref (b 4), .ref (b 5), .ref (b 6), .int 22, .int 95, .int nd.1, .int nd.2.2.1, .int nd.2.1, .long nd.2.2.2, .int t.2.1, .int t.2.2.1, .int t.2.2.2.1, .int t.2.2.2.2.1, .int t.2.2.2.2.2, .ref (b 7), .long q, .int sg, .ref (b 8), .ref (b 9), .ref (b 10), .int o.2.2.2.1, .int o.2.2.2.2]) (C := RX5) (T := TX5) (N := 27) hx hb htb inX5 hown hK hP 0 rfl rfl 19 (by decide) (htb _ kF_X5_28) (fun _ h9 => h9) rfl dX5_storing_26 ?_
      refine lv_iload_n hx hb dX5_storing_29 rfl (lv_at hl 3 rfl) ?_
      refine va_iald (i := nI (k)) hx hb hK hP 7 0 rfl rfl (vp_in_nI (by omega) (by decide)) dX5_storing_30 ?_
      refine zb_ti (y := t.1 (k)) (by rw [nI_clamp (by omega)]) ?_
      refine lv_bipush (v := 8) hx hb dX5_storing_31 (by decide) ?_
      refine lv_iload_n hx hb dX5_storing_33 rfl (lv_at hl 3 rfl) ?_
      refine lv_imul hx hb dX5_storing_34 ?_
      refine zb_ti (pk_mul 8 (k)) ?_
      refine lv_ishl hx hb dX5_storing_35 ?_
      refine lv_ior hx hb dX5_storing_36 ?_
      refine zb_ti (y := nI (sm t.1 0 (k + 1))) (by have h9 := sm_orI (s := 0) hBh (show k < 4 by omega); rw [Nat.zero_add] at h9; exact h9) ?_
      refine lv_istore_n hx hb dX5_storing_37 rfl hl (by decide) rfl (fun ls hl => ?_)
      have hl : lv_has ls 5 [(2, .int (nI (sm t.1 0 (k + 1)))), (0, .ref (b 0)), (1, .int (nI e)), (3, .int (nI (k)))] := hl
      refine lv_iinc (k := 3) (v := nI ((k) + 1)) hx hb dX5_storing_38 hl rfl (nI_1 (k)) (by decide) rfl (fun ls hl => ?_)
      have hl : lv_has ls 5 [(3, .int (nI ((k) + 1))), (2, .int (nI (sm t.1 0 (k + 1)))), (0, .ref (b 0)), (1, .int (nI e))] := hl
      refine lv_goto (tgt := 9) hx hb dX5_storing_41 (by decide) ?_
      exact ih_lp (k + 1) ls (by omega) (lv_sub hl [2, 3, 1, 0] rfl)
  exact lp (min (xZ e) 4 - 1) (1) ls (by omega) (lv_sub hl [2, 3, 1, 0] rfl)
