set_option maxHeartbeats 4000000 in
set_option maxRecDepth 100000 in
theorem lw_turn3 {p : Program} {l : Launch} {ev : Env} {s : State} {m : MethodId} {below : List Frame} {meth : Method} {c : Code} {A : Nat → Prop} {D : va_G} {a b : Nat → Nat} {cA cJ : ClassId} {N : Int32} {n sb L oo nn j : Nat} {xs : Nat → Int32} {Q : State → Prop}
    (hx : p.tables.exec = Jvm.exec) (hb : c.code = cL_law) (hml : c.maxLocals = 7) (hown : s.vm.findClass RL = some m.cls) (htb : ∀ w ∈ wb, w.before #[Value.ref sb] s = true) (hX : va_X sb L xs s s.heap) (hbl : sb < s.heap.size) (hbA : ¬ A sb) (hA : ∀ q, s.heap.size ≤ q → A q) (hL : L ≤ 2561) (hK : va_K D vwCl [(cA, .int), (cJ, .long)] s) (hSt : gSt A s s.heap) (hnw : nw s) (htw : tw s) (hfl : l.flags = pinnedFlags ++ [noTraceFlag]) (hNn : N = nI n) (hn1 : 1 ≤ n) (hn15 : n ≤ 15)
    (ih : ∀ (j : Nat) (ls : Array Slot) (H : Heap) (locs : List Loc) (f : Nat → Int32) (ob : OB) (tr : TR) (nd : ND) (t : RT) (z : Int32) (q : Int64) (sg th : Int32) (fo : Nat → Int64), L ≤ 5 * (j + nn) + 5 → j ≤ 512 → I0 (f, ob, tr, nd) → rel2 tr t → va_P D vwCl (cw a cA N f ob tr nd ++ (rw0 b cA cJ N f (ro z ob) t nd q sg th ++ [(oo, .inl (cJ, 1, .inr (.inl fo)))])) H → va_D A (cw a cA N f ob tr nd ++ (rw0 b cA cJ N f (ro z ob) t nd q sg th ++ [(oo, .inl (cJ, 1, .inr (.inl fo)))])) → va_S A s.heap H locs → lv_has ls 7 [(0, .ref sb), (1, .ref (a 0)), (2, .ref (b 0)), (3, .ref oo), (4, .int (nI (1 + 5 * j)))] → W p l ev room_1 s m #[.ref sb] below meth c H locs (21 + j) (620 + 6 * j) Q (F0 m 33 ls []))
    {ls : Array Slot} {H : Heap} {locs : List Loc} {f : Nat → Int32} {ob : OB} {tr : TR} {nd : ND} {t : RT} {z : Int32} {q : Int64} {sg th : Int32} {fo : Nat → Int64} (hLn : L ≤ 5 * (j + (nn + 1)) + 5) (hj5 : (1 + 5 * j) + 5 ≤ L) (hI : I0 (f, ob, tr, nd)) (hR : rel2 tr t) (hP : va_P D vwCl (cw a cA N f ob tr nd ++ (rw0 b cA cJ N f (ro z ob) t nd q sg th ++ [(oo, .inl (cJ, 1, .inr (.inl fo)))])) H) (hD : va_D A (cw a cA N f ob tr nd ++ (rw0 b cA cJ N f (ro z ob) t nd q sg th ++ [(oo, .inl (cJ, 1, .inr (.inl fo)))]))) (hS : va_S A s.heap H locs) (hl : lv_has ls 7 [(0, .ref sb), (1, .ref (a 0)), (2, .ref (b 0)), (3, .ref oo), (4, .int (nI (1 + 5 * j)))]) : W p l ev room_1 s m #[.ref sb] below meth c H locs (21 + j) (620 + 6 * j) Q (F0 m 301 ls []) := by
  obtain ⟨hF, ho, hT9, hS9⟩ := id hI
  have hB : isB f := hF.1
  have hT : mapK f 3 6 := hF.2.1
  have hG : mapK f 9 5 := hF.2.2
  have ho : obK ob := ho
  have hBh0 : isB tr.1 := hT9.1
  obtain ⟨e0, d0, ad0, hN, hrel⟩ := id hR
  have hBh : isB t.1 := by rw [hrel.1]; exact hBh0
  obtain ⟨he0, hd0, hen, hdn, hada, had0⟩ := id hN
  have hjj : j ≤ 511 := by omega
  obtain ⟨ix, e_ix⟩ : ∃ v, xs ((1 + 5 * j) + 1) = v := ⟨_, rfl⟩
  obtain ⟨sx9, e_sx9⟩ : ∃ v, xs ((1 + 5 * j) + 2) = v := ⟨_, rfl⟩
  obtain ⟨k, h_k, e_k⟩ := wb_of32 (xs ((1 + 5 * j) + 3))
  rcases hfd : fd ix sx9 with _ | e
  · have hbad : fd ix sx9 = none ∨ ∃ e, fd ix sx9 = some e ∧ (nI k < 0 ∨ nI (xZ e) ≤ nI k) := Or.inl hfd
    refine lv_aload_n hx hb dL_law_301 rfl (lv_at hl 1 rfl) ?_
    refine lv_aload_n hx hb dL_law_302 rfl (lv_at hl 0 rfl) ?_
    refine lv_iload hx hb dL_law_303 (lv_at hl 4 rfl) ?_
    refine lv_iconst (v := 1) hx hb dL_law_305 (by decide) ?_
    refine lv_iadd hx hb dL_law_306 ?_
    refine zb_ti (nI_add (1 + 5 * j) 1) ?_
    refine va_sld (i := nI ((1 + 5 * j) + 1)) hx hb hX hbl hbA hS (vp_in_nI (by omega) (by omega)) dL_law_307 ?_
    refine zb_ti (y := ix) (by rw [nI_clamp (by omega)]; exact e_ix) ?_
    refine lv_aload_n hx hb dL_law_308 rfl (lv_at hl 0 rfl) ?_
    refine lv_iload hx hb dL_law_309 (lv_at hl 4 rfl) ?_
    refine lv_iconst (v := 2) hx hb dL_law_311 (by decide) ?_
    refine lv_iadd hx hb dL_law_312 ?_
    refine zb_ti (nI_add (1 + 5 * j) 2) ?_
    refine va_sld (i := nI ((1 + 5 * j) + 2)) hx hb hX hbl hbA hS (vp_in_nI (by omega) (by omega)) dL_law_313 ?_
    refine zb_ti (y := sx9) (by rw [nI_clamp (by omega)]; exact e_sx9) ?_
    refine lv_aload_n hx hb dL_law_314 rfl (lv_at hl 0 rfl) ?_
    refine lv_iload hx hb dL_law_315 (lv_at hl 4 rfl) ?_
    refine lv_iconst (v := 3) hx hb dL_law_317 (by decide) ?_
    refine lv_iadd hx hb dL_law_318 ?_
    refine zb_ti (nI_add (1 + 5 * j) 3) ?_
    refine va_sld (i := nI ((1 + 5 * j) + 3)) hx hb hX hbl hbA hS (vp_in_nI (by omega) (by omega)) dL_law_319 ?_
    refine zb_ti (y := nI k) (by rw [nI_clamp (by omega)]; exact e_k) ?_
    refine lv_aload_n hx hb dL_law_320 rfl (lv_at hl 3 rfl) ?_
    have hP := wP_132 hP
    have hD := wD_132 hD
    refine zb_cviA (w0 := cw a cA N f ob tr nd ++ [(oo, .inl (cJ, 1, .inr (.inl fo)))]) (wr := rw0 b cA cJ N f (ro z ob) t nd q sg th) (zb_runSW (n := 5) (mc := 1) (ms := 6) (As := [.ref (a 0), .int ix, .int sx9, .int (nI k), .ref oo]) (rest := []) ⟨hx, hb, hml, hown, htb⟩ (l_valueNo l D a cA cJ N f ob tr nd oo fo _ ix sx9 k hfl hbad) (wb_gd kD_L_value) rfl rfl rfl (htb _ kN_L) (htb _ kM_L_57) (htb _ kZ_L_value) (by decide +kernel) ⟨Nat.le_of_ble_eq_true rfl, Nat.le_of_ble_eq_true rfl⟩ (zp_SH (wP_l hP) (wD_l hD) hK hSt hS hA hnw htw) rfl rfl hl.1 rfl (lv_room (Nat.le_of_ble_eq_true rfl)) dL_law_321 ⟨by have h9 : room_1.cells = 1049 := rfl; omega, by have h9 : room_1.slots = 8836 := rfl; omega⟩) hP hD hS hA (fun H locs hP hD hS => ?_)
    have hP := wP_123 hP
    have hD := wD_123 hD
    have hP : va_P D vwCl (cw a cA N f ob tr nd ++ (rw0 b cA cJ N f (ro z ob) t nd q sg th ++ [(oo, .inl (cJ, 1, .inr (.inl fo)))])) H := hP
    have hD : va_D A (cw a cA N f ob tr nd ++ (rw0 b cA cJ N f (ro z ob) t nd q sg th ++ [(oo, .inl (cJ, 1, .inr (.inl fo)))])) := hD
    refine lv_istore hx hb dL_law_324 hl (by decide) rfl (fun ls hl => ?_)
    have hl : lv_has ls 7 [(5, .int 1), (0, .ref sb), (1, .ref (a 0)), (2, .ref (b 0)), (3, .ref oo), (4, .int (nI (1 + 5 * j)))] := hl
    refine lv_aload_n hx hb dL_law_326 rfl (lv_at hl 3 rfl) ?_
    refine lv_aload_n hx hb dL_law_327 rfl (lv_at hl 1 rfl) ?_
    refine lv_iload hx hb dL_law_328 (lv_at hl 5 rfl) ?_
    refine lv_iconst (v := 1) hx hb dL_law_330 (by decide) ?_
    refine lv_iadd hx hb dL_law_331 ?_
    refine zb_ti (nI_add (1 + 5 * j) 1) ?_
    refine va_sld (i := nI ((1 + 5 * j) + 1)) hx hb hX hbl hbA hS (vp_in_nI (by omega) (by omega)) dL_law_332 ?_
    refine zb_ti (y := ix) (by rw [nI_clamp (by omega)]; exact e_ix) ?_
    refine lv_aload_n hx hb dL_law_333 rfl (lv_at hl 1 rfl) ?_
    refine lv_iload hx hb dL_law_334 (lv_at hl 5 rfl) ?_
    refine lv_iconst (v := 2) hx hb dL_law_336 (by decide) ?_
    refine lv_iadd hx hb dL_law_337 ?_
    refine zb_ti (nI_add (1 + 5 * j) 2) ?_
    refine va_sld (i := nI ((1 + 5 * j) + 2)) hx hb hX hbl hbA hS (vp_in_nI (by omega) (by omega)) dL_law_338 ?_
    refine zb_ti (y := sx9) (by rw [nI_clamp (by omega)]; exact e_sx9) ?_
    refine lv_aload_n hx hb dL_law_339 rfl (lv_at hl 1 rfl) ?_
    refine lv_iload hx hb dL_law_340 (lv_at hl 5 rfl) ?_
    refine lv_iconst (v := 3) hx hb dL_law_342 (by decide) ?_
    refine lv_iadd hx hb dL_law_343 ?_
    refine zb_ti (nI_add (1 + 5 * j) 3) ?_
    refine va_sld (i := nI ((1 + 5 * j) + 3)) hx hb hX hbl hbA hS (vp_in_nI (by omega) (by omega)) dL_law_344 ?_
    refine zb_ti (y := nI k) (by rw [nI_clamp (by omega)]; exact e_k) ?_
    have hP := wP_213 hP
    have hD := wD_213 hD
    refine zb_cviA (w0 := rw0 b cA cJ N f (ro z ob) t nd q sg th) (wr := cw a cA N f ob tr nd ++ [(oo, .inl (cJ, 1, .inr (.inl fo)))]) (va_runV (As := [.int ix, .int sx9, .int (nI k)]) (rest := []) ⟨hx, hb, hml, hown, htb⟩ (r_valueNo l D b cA cJ N f z ob t nd q sg th _ ix sx9 (nI k) hbad) (cwV 3 htb (wb_V kM_L_60 kI_X5_value kS_X5_value kN_X5 kD_X5_value) rfl rfl rfl (by decide +kernel) ⟨Nat.le_of_ble_eq_true rfl, Nat.le_of_ble_eq_true rfl⟩) (zp_VW 0 rfl rfl (wP_l hP) (wD_l hD) hK hSt hS hA hnw) rfl rfl hl.1 rfl (lv_room (Nat.le_of_ble_eq_true rfl)) dL_law_345 ⟨by have h9 : room_1.cells = 1049 := rfl; omega, by have h9 : room_1.slots = 8836 := rfl; omega⟩) hP hD hS hA (fun H locs hP hD hS => ?_)
    have hP := wP_213 hP
    have hD := wD_213 hD
    have hP : va_P D vwCl (cw a cA N f ob tr nd ++ (rw0 b cA cJ N f (ro z ob) t nd q sg 1 ++ [(oo, .inl (cJ, 1, .inr (.inl fo)))])) H := hP
    have hD : va_D A (cw a cA N f ob tr nd ++ (rw0 b cA cJ N f (ro z ob) t nd q sg 1 ++ [(oo, .inl (cJ, 1, .inr (.inl fo)))])) := hD
    refine lv_istore hx hb dL_law_348 hl (by decide) rfl (fun ls hl => ?_)
    have hl : lv_has ls 7 [(6, .int 0), (5, .int 1), (0, .ref sb), (1, .ref (a 0)), (2, .ref (b 0)), (3, .ref oo), (4, .int (nI (1 + 5 * j)))] := hl
    refine lv_aload_n hx hb dL_law_350 rfl (lv_at hl 4 rfl) ?_
    refine zb_ci (va_runV (As := []) (rest := []) ⟨hx, hb, hml, hown, htb⟩ (r_thrown l D b cA cJ N f (ro z ob) t nd q sg 1) (cwV 0 htb (wb_V kM_L_46 kI_X5_thrown kS_X5_thrown kN_X5 kD_X5_thrown) rfl rfl rfl (by decide +kernel) ⟨Nat.le_of_ble_eq_true rfl, Nat.le_of_ble_eq_true rfl⟩) (zp_V 0 rfl rfl (wP_l (wP_r hP)) hK hSt hS hnw) rfl rfl hl.1 rfl (lv_room (Nat.le_of_ble_eq_true rfl)) dL_law_351 ⟨by have h9 : room_1.cells = 1049 := rfl; omega, by have h9 : room_1.slots = 8836 := rfl; omega⟩) ?_
    refine lv_iload hx hb dL_law_354 (lv_at hl 1 rfl) ?_
    refine lv_icmp_eq (tgt := 361) hx hb dL_law_356 (by decide) (fun _ => ?_) (fun hno => absurd (by decide) hno)
    refine lv_iload hx hb dL_law_361 (lv_at hl 1 rfl) ?_
    refine lv_if_ne (tgt := 378) hx hb dL_law_363 (by decide) (fun _ => ?_) (fun hno => absurd hno (by decide))
    refine lv_goto (tgt := 538) hx hb dL_law_378 (by decide) ?_
    refine lv_iinc (k := 6) (v := nI (1 + 5 * (j + 1))) hx hb dL_law_538 hl rfl (by rw [show Int32.ofInt 5 = nI 5 from rfl, nI_add]; exact congrArg nI (by omega)) (by decide) rfl (fun ls hl => ?_)
    have hl : lv_has ls 7 [(4, .int (nI (1 + 5 * (j + 1)))), (6, .int 0), (5, .int 1), (0, .ref sb), (1, .ref (a 0)), (2, .ref (b 0)), (3, .ref oo)] := hl
    refine lv_goto (tgt := 33) hx hb dL_law_541 (by decide) ?_
    refine W.widen (k := 21 + (j + 1)) (n := 620 + 6 * (j + 1)) (by omega) (by omega) ?_
    exact ih (j + 1) ls H locs f ob tr nd t z q sg 1 fo (by omega) (by omega) hI hR hP hD hS (lv_sub hl [3, 4, 5, 6, 0] rfl)
  · have hft9 := x_fit e (fd_lt hfd).1
    by_cases hk : k < xZ e
    · refine lv_aload_n hx hb dL_law_301 rfl (lv_at hl 1 rfl) ?_
      refine lv_aload_n hx hb dL_law_302 rfl (lv_at hl 0 rfl) ?_
      refine lv_iload hx hb dL_law_303 (lv_at hl 4 rfl) ?_
      refine lv_iconst (v := 1) hx hb dL_law_305 (by decide) ?_
      refine lv_iadd hx hb dL_law_306 ?_
      refine zb_ti (nI_add (1 + 5 * j) 1) ?_
      refine va_sld (i := nI ((1 + 5 * j) + 1)) hx hb hX hbl hbA hS (vp_in_nI (by omega) (by omega)) dL_law_307 ?_
      refine zb_ti (y := ix) (by rw [nI_clamp (by omega)]; exact e_ix) ?_
      refine lv_aload_n hx hb dL_law_308 rfl (lv_at hl 0 rfl) ?_
      refine lv_iload hx hb dL_law_309 (lv_at hl 4 rfl) ?_
      refine lv_iconst (v := 2) hx hb dL_law_311 (by decide) ?_
      refine lv_iadd hx hb dL_law_312 ?_
      refine zb_ti (nI_add (1 + 5 * j) 2) ?_
      refine va_sld (i := nI ((1 + 5 * j) + 2)) hx hb hX hbl hbA hS (vp_in_nI (by omega) (by omega)) dL_law_313 ?_
      refine zb_ti (y := sx9) (by rw [nI_clamp (by omega)]; exact e_sx9) ?_
      refine lv_aload_n hx hb dL_law_314 rfl (lv_at hl 0 rfl) ?_
      refine lv_iload hx hb dL_law_315 (lv_at hl 4 rfl) ?_
      refine lv_iconst (v := 3) hx hb dL_law_317 (by decide) ?_
      refine lv_iadd hx hb dL_law_318 ?_
      refine zb_ti (nI_add (1 + 5 * j) 3) ?_
      refine va_sld (i := nI ((1 + 5 * j) + 3)) hx hb hX hbl hbA hS (vp_in_nI (by omega) (by omega)) dL_law_319 ?_
      refine zb_ti (y := nI k) (by rw [nI_clamp (by omega)]; exact e_k) ?_
      refine lv_aload_n hx hb dL_law_320 rfl (lv_at hl 3 rfl) ?_
      have hP := wP_132 hP
      have hD := wD_132 hD
      refine zb_cviA (w0 := cw a cA N f ob tr nd ++ [(oo, .inl (cJ, 1, .inr (.inl fo)))]) (wr := rw0 b cA cJ N f (ro z ob) t nd q sg th) (zb_runSW (n := 5) (mc := 0) (ms := 0) (As := [.ref (a 0), .int ix, .int sx9, .int (nI k), .ref oo]) (rest := []) ⟨hx, hb, hml, hown, htb⟩ (l_value l D a cA cJ N f ob tr nd oo fo _ ix sx9 k e hfd hk) (wb_gd kD_L_value) rfl rfl rfl (htb _ kN_L) (htb _ kM_L_57) (htb _ kZ_L_value) (by decide +kernel) ⟨Nat.le_of_ble_eq_true rfl, Nat.le_of_ble_eq_true rfl⟩ (zp_SW (wP_l hP) (wD_l hD) hK hSt hS hA hnw) rfl rfl hl.1 rfl (lv_room (Nat.le_of_ble_eq_true rfl)) dL_law_321 ⟨by have h9 : room_1.cells = 1049 := rfl; omega, by have h9 : room_1.slots = 8836 := rfl; omega⟩) hP hD hS hA (fun H locs hP hD hS => ?_)
      have hP := wP_123 hP
      have hD := wD_123 hD
      have hP : va_P D vwCl (cw a cA N f ob tr nd ++ (rw0 b cA cJ N f (ro z ob) t nd q sg th ++ [(oo, .inl (cJ, 1, .inr (.inl (vp_updL fo 0 (f (xP e + k)).toInt64))))])) H := hP
      have hD : va_D A (cw a cA N f ob tr nd ++ (rw0 b cA cJ N f (ro z ob) t nd q sg th ++ [(oo, .inl (cJ, 1, .inr (.inl (vp_updL fo 0 (f (xP e + k)).toInt64))))])) := hD
      refine lv_istore hx hb dL_law_324 hl (by decide) rfl (fun ls hl => ?_)
      have hl : lv_has ls 7 [(5, .int 0), (0, .ref sb), (1, .ref (a 0)), (2, .ref (b 0)), (3, .ref oo), (4, .int (nI (1 + 5 * j)))] := hl
      refine lv_aload_n hx hb dL_law_326 rfl (lv_at hl 3 rfl) ?_
      refine lv_aload_n hx hb dL_law_327 rfl (lv_at hl 1 rfl) ?_
      refine lv_iload hx hb dL_law_328 (lv_at hl 5 rfl) ?_
      refine lv_iconst (v := 1) hx hb dL_law_330 (by decide) ?_
      refine lv_iadd hx hb dL_law_331 ?_
      refine zb_ti (nI_add (1 + 5 * j) 1) ?_
      refine va_sld (i := nI ((1 + 5 * j) + 1)) hx hb hX hbl hbA hS (vp_in_nI (by omega) (by omega)) dL_law_332 ?_
      refine zb_ti (y := ix) (by rw [nI_clamp (by omega)]; exact e_ix) ?_
      refine lv_aload_n hx hb dL_law_333 rfl (lv_at hl 1 rfl) ?_
      refine lv_iload hx hb dL_law_334 (lv_at hl 5 rfl) ?_
      refine lv_iconst (v := 2) hx hb dL_law_336 (by decide) ?_
      refine lv_iadd hx hb dL_law_337 ?_
      refine zb_ti (nI_add (1 + 5 * j) 2) ?_
      refine va_sld (i := nI ((1 + 5 * j) + 2)) hx hb hX hbl hbA hS (vp_in_nI (by omega) (by omega)) dL_law_338 ?_
      refine zb_ti (y := sx9) (by rw [nI_clamp (by omega)]; exact e_sx9) ?_
      refine lv_aload_n hx hb dL_law_339 rfl (lv_at hl 1 rfl) ?_
      refine lv_iload hx hb dL_law_340 (lv_at hl 5 rfl) ?_
      refine lv_iconst (v := 3) hx hb dL_law_342 (by decide) ?_
      refine lv_iadd hx hb dL_law_343 ?_
      refine zb_ti (nI_add (1 + 5 * j) 3) ?_
      refine va_sld (i := nI ((1 + 5 * j) + 3)) hx hb hX hbl hbA hS (vp_in_nI (by omega) (by omega)) dL_law_344 ?_
      refine zb_ti (y := nI k) (by rw [nI_clamp (by omega)]; exact e_k) ?_
      have hP := wP_213 hP
      have hD := wD_213 hD
      refine zb_cviA (w0 := rw0 b cA cJ N f (ro z ob) t nd q sg th) (wr := cw a cA N f ob tr nd ++ [(oo, .inl (cJ, 1, .inr (.inl (vp_updL fo 0 (f (xP e + k)).toInt64))))]) (va_runV (As := [.int ix, .int sx9, .int (nI k)]) (rest := []) ⟨hx, hb, hml, hown, htb⟩ (r_value l D b cA cJ N f z ob t nd q sg th _ ix sx9 k e hfd hk) (cwV 3 htb (wb_V kM_L_60 kI_X5_value kS_X5_value kN_X5 kD_X5_value) rfl rfl rfl (by decide +kernel) ⟨Nat.le_of_ble_eq_true rfl, Nat.le_of_ble_eq_true rfl⟩) (zp_VW 0 rfl rfl (wP_l hP) (wD_l hD) hK hSt hS hA hnw) rfl rfl hl.1 rfl (lv_room (Nat.le_of_ble_eq_true rfl)) dL_law_345 ⟨by have h9 : room_1.cells = 1049 := rfl; omega, by have h9 : room_1.slots = 8836 := rfl; omega⟩) hP hD hS hA (fun H locs hP hD hS => ?_)
      have hP := wP_213 hP
      have hD := wD_213 hD
      have hP : va_P D vwCl (cw a cA N f ob tr nd ++ (rw0 b cA cJ N f (ro z ob) t nd q sg 0 ++ [(oo, .inl (cJ, 1, .inr (.inl (vp_updL fo 0 (f (xP e + k)).toInt64))))])) H := hP
      have hD : va_D A (cw a cA N f ob tr nd ++ (rw0 b cA cJ N f (ro z ob) t nd q sg 0 ++ [(oo, .inl (cJ, 1, .inr (.inl (vp_updL fo 0 (f (xP e + k)).toInt64))))])) := hD
      refine lv_istore hx hb dL_law_348 hl (by decide) rfl (fun ls hl => ?_)
      have hl : lv_has ls 7 [(6, .int (f (xP e + k))), (5, .int 0), (0, .ref sb), (1, .ref (a 0)), (2, .ref (b 0)), (3, .ref oo), (4, .int (nI (1 + 5 * j)))] := hl
      refine lv_aload_n hx hb dL_law_350 rfl (lv_at hl 4 rfl) ?_
      refine zb_ci (va_runV (As := []) (rest := []) ⟨hx, hb, hml, hown, htb⟩ (r_thrown l D b cA cJ N f (ro z ob) t nd q sg 0) (cwV 0 htb (wb_V kM_L_46 kI_X5_thrown kS_X5_thrown kN_X5 kD_X5_thrown) rfl rfl rfl (by decide +kernel) ⟨Nat.le_of_ble_eq_true rfl, Nat.le_of_ble_eq_true rfl⟩) (zp_V 0 rfl rfl (wP_l (wP_r hP)) hK hSt hS hnw) rfl rfl hl.1 rfl (lv_room (Nat.le_of_ble_eq_true rfl)) dL_law_351 ⟨by have h9 : room_1.cells = 1049 := rfl; omega, by have h9 : room_1.slots = 8836 := rfl; omega⟩) ?_
      refine lv_iload hx hb dL_law_354 (lv_at hl 1 rfl) ?_
      refine lv_icmp_eq (tgt := 361) hx hb dL_law_356 (by decide) (fun _ => ?_) (fun hno => absurd (by decide) hno)
      refine lv_iload hx hb dL_law_361 (lv_at hl 1 rfl) ?_
      refine lv_if_ne (tgt := 378) hx hb dL_law_363 (by decide) (fun hno => absurd (by decide) hno) (fun _ => ?_)
      refine lv_aload_n hx hb dL_law_366 rfl (lv_at hl 5 rfl) ?_
      refine lv_iconst (v := 0) hx hb dL_law_367 (by decide) ?_
      refine va_lald (i := nI 0) hx hb hK hP 20 1 rfl rfl (vp_in_nI (by decide) (by decide)) dL_law_368 ?_
      refine zb_tl (y := (f (xP e + k)).toInt64) rfl ?_
      refine lv_iload hx hb dL_law_369 (lv_at hl 0 rfl) ?_
      refine lv_i2l hx hb dL_law_371 rfl ?_
      refine W.lcmp hx hb dL_law_372 ?_
      refine zb_ti (y := 0) ((lg_cmp_eq _ _).mpr rfl) ?_
      refine lv_if_eq (tgt := 378) hx hb dL_law_373 (by decide) (fun _ => ?_) (fun hno => absurd (by decide) hno)
      refine lv_goto (tgt := 538) hx hb dL_law_378 (by decide) ?_
      refine lv_iinc (k := 6) (v := nI (1 + 5 * (j + 1))) hx hb dL_law_538 hl rfl (by rw [show Int32.ofInt 5 = nI 5 from rfl, nI_add]; exact congrArg nI (by omega)) (by decide) rfl (fun ls hl => ?_)
      have hl : lv_has ls 7 [(4, .int (nI (1 + 5 * (j + 1)))), (6, .int (f (xP e + k))), (5, .int 0), (0, .ref sb), (1, .ref (a 0)), (2, .ref (b 0)), (3, .ref oo)] := hl
      refine lv_goto (tgt := 33) hx hb dL_law_541 (by decide) ?_
      refine W.widen (k := 21 + (j + 1)) (n := 620 + 6 * (j + 1)) (by omega) (by omega) ?_
      exact ih (j + 1) ls H locs f ob tr nd t z q sg 0 (vp_updL fo 0 (f (xP e + k)).toInt64) (by omega) (by omega) hI hR hP hD hS (lv_sub hl [3, 4, 5, 6, 0] rfl)
    · have hbad : fd ix sx9 = none ∨ ∃ e, fd ix sx9 = some e ∧ (nI k < 0 ∨ nI (xZ e) ≤ nI k) := Or.inr ⟨e, hfd, ge32 (by omega) h_k hk⟩
      refine lv_aload_n hx hb dL_law_301 rfl (lv_at hl 1 rfl) ?_
      refine lv_aload_n hx hb dL_law_302 rfl (lv_at hl 0 rfl) ?_
      refine lv_iload hx hb dL_law_303 (lv_at hl 4 rfl) ?_
      refine lv_iconst (v := 1) hx hb dL_law_305 (by decide) ?_
      refine lv_iadd hx hb dL_law_306 ?_
      refine zb_ti (nI_add (1 + 5 * j) 1) ?_
      refine va_sld (i := nI ((1 + 5 * j) + 1)) hx hb hX hbl hbA hS (vp_in_nI (by omega) (by omega)) dL_law_307 ?_
      refine zb_ti (y := ix) (by rw [nI_clamp (by omega)]; exact e_ix) ?_
      refine lv_aload_n hx hb dL_law_308 rfl (lv_at hl 0 rfl) ?_
      refine lv_iload hx hb dL_law_309 (lv_at hl 4 rfl) ?_
      refine lv_iconst (v := 2) hx hb dL_law_311 (by decide) ?_
      refine lv_iadd hx hb dL_law_312 ?_
      refine zb_ti (nI_add (1 + 5 * j) 2) ?_
      refine va_sld (i := nI ((1 + 5 * j) + 2)) hx hb hX hbl hbA hS (vp_in_nI (by omega) (by omega)) dL_law_313 ?_
      refine zb_ti (y := sx9) (by rw [nI_clamp (by omega)]; exact e_sx9) ?_
      refine lv_aload_n hx hb dL_law_314 rfl (lv_at hl 0 rfl) ?_
      refine lv_iload hx hb dL_law_315 (lv_at hl 4 rfl) ?_
      refine lv_iconst (v := 3) hx hb dL_law_317 (by decide) ?_
      refine lv_iadd hx hb dL_law_318 ?_
      refine zb_ti (nI_add (1 + 5 * j) 3) ?_
      refine va_sld (i := nI ((1 + 5 * j) + 3)) hx hb hX hbl hbA hS (vp_in_nI (by omega) (by omega)) dL_law_319 ?_
      refine zb_ti (y := nI k) (by rw [nI_clamp (by omega)]; exact e_k) ?_
      refine lv_aload_n hx hb dL_law_320 rfl (lv_at hl 3 rfl) ?_
      have hP := wP_132 hP
      have hD := wD_132 hD
      refine zb_cviA (w0 := cw a cA N f ob tr nd ++ [(oo, .inl (cJ, 1, .inr (.inl fo)))]) (wr := rw0 b cA cJ N f (ro z ob) t nd q sg th) (zb_runSW (n := 5) (mc := 1) (ms := 6) (As := [.ref (a 0), .int ix, .int sx9, .int (nI k), .ref oo]) (rest := []) ⟨hx, hb, hml, hown, htb⟩ (l_valueNo l D a cA cJ N f ob tr nd oo fo _ ix sx9 k hfl hbad) (wb_gd kD_L_value) rfl rfl rfl (htb _ kN_L) (htb _ kM_L_57) (htb _ kZ_L_value) (by decide +kernel) ⟨Nat.le_of_ble_eq_true rfl, Nat.le_of_ble_eq_true rfl⟩ (zp_SH (wP_l hP) (wD_l hD) hK hSt hS hA hnw htw) rfl rfl hl.1 rfl (lv_room (Nat.le_of_ble_eq_true rfl)) dL_law_321 ⟨by have h9 : room_1.cells = 1049 := rfl; omega, by have h9 : room_1.slots = 8836 := rfl; omega⟩) hP hD hS hA (fun H locs hP hD hS => ?_)
      have hP := wP_123 hP
      have hD := wD_123 hD
      have hP : va_P D vwCl (cw a cA N f ob tr nd ++ (rw0 b cA cJ N f (ro z ob) t nd q sg th ++ [(oo, .inl (cJ, 1, .inr (.inl fo)))])) H := hP
      have hD : va_D A (cw a cA N f ob tr nd ++ (rw0 b cA cJ N f (ro z ob) t nd q sg th ++ [(oo, .inl (cJ, 1, .inr (.inl fo)))])) := hD
      refine lv_istore hx hb dL_law_324 hl (by decide) rfl (fun ls hl => ?_)
      have hl : lv_has ls 7 [(5, .int 1), (0, .ref sb), (1, .ref (a 0)), (2, .ref (b 0)), (3, .ref oo), (4, .int (nI (1 + 5 * j)))] := hl
      refine lv_aload_n hx hb dL_law_326 rfl (lv_at hl 3 rfl) ?_
      refine lv_aload_n hx hb dL_law_327 rfl (lv_at hl 1 rfl) ?_
      refine lv_iload hx hb dL_law_328 (lv_at hl 5 rfl) ?_
      refine lv_iconst (v := 1) hx hb dL_law_330 (by decide) ?_
      refine lv_iadd hx hb dL_law_331 ?_
      refine zb_ti (nI_add (1 + 5 * j) 1) ?_
      refine va_sld (i := nI ((1 + 5 * j) + 1)) hx hb hX hbl hbA hS (vp_in_nI (by omega) (by omega)) dL_law_332 ?_
      refine zb_ti (y := ix) (by rw [nI_clamp (by omega)]; exact e_ix) ?_
      refine lv_aload_n hx hb dL_law_333 rfl (lv_at hl 1 rfl) ?_
      refine lv_iload hx hb dL_law_334 (lv_at hl 5 rfl) ?_
      refine lv_iconst (v := 2) hx hb dL_law_336 (by decide) ?_
      refine lv_iadd hx hb dL_law_337 ?_
      refine zb_ti (nI_add (1 + 5 * j) 2) ?_
      refine va_sld (i := nI ((1 + 5 * j) + 2)) hx hb hX hbl hbA hS (vp_in_nI (by omega) (by omega)) dL_law_338 ?_
      refine zb_ti (y := sx9) (by rw [nI_clamp (by omega)]; exact e_sx9) ?_
      refine lv_aload_n hx hb dL_law_339 rfl (lv_at hl 1 rfl) ?_
      refine lv_iload hx hb dL_law_340 (lv_at hl 5 rfl) ?_
      refine lv_iconst (v := 3) hx hb dL_law_342 (by decide) ?_
      refine lv_iadd hx hb dL_law_343 ?_
      refine zb_ti (nI_add (1 + 5 * j) 3) ?_
      refine va_sld (i := nI ((1 + 5 * j) + 3)) hx hb hX hbl hbA hS (vp_in_nI (by omega) (by omega)) dL_law_344 ?_
      refine zb_ti (y := nI k) (by rw [nI_clamp (by omega)]; exact e_k) ?_
      have hP := wP_213 hP
      have hD := wD_213 hD
      refine zb_cviA (w0 := rw0 b cA cJ N f (ro z ob) t nd q sg th) (wr := cw a cA N f ob tr nd ++ [(oo, .inl (cJ, 1, .inr (.inl fo)))]) (va_runV (As := [.int ix, .int sx9, .int (nI k)]) (rest := []) ⟨hx, hb, hml, hown, htb⟩ (r_valueNo l D b cA cJ N f z ob t nd q sg th _ ix sx9 (nI k) hbad) (cwV 3 htb (wb_V kM_L_60 kI_X5_value kS_X5_value kN_X5 kD_X5_value) rfl rfl rfl (by decide +kernel) ⟨Nat.le_of_ble_eq_true rfl, Nat.le_of_ble_eq_true rfl⟩) (zp_VW 0 rfl rfl (wP_l hP) (wD_l hD) hK hSt hS hA hnw) rfl rfl hl.1 rfl (lv_room (Nat.le_of_ble_eq_true rfl)) dL_law_345 ⟨by have h9 : room_1.cells = 1049 := rfl; omega, by have h9 : room_1.slots = 8836 := rfl; omega⟩) hP hD hS hA (fun H locs hP hD hS => ?_)
      have hP := wP_213 hP
      have hD := wD_213 hD
      have hP : va_P D vwCl (cw a cA N f ob tr nd ++ (rw0 b cA cJ N f (ro z ob) t nd q sg 1 ++ [(oo, .inl (cJ, 1, .inr (.inl fo)))])) H := hP
      have hD : va_D A (cw a cA N f ob tr nd ++ (rw0 b cA cJ N f (ro z ob) t nd q sg 1 ++ [(oo, .inl (cJ, 1, .inr (.inl fo)))])) := hD
      refine lv_istore hx hb dL_law_348 hl (by decide) rfl (fun ls hl => ?_)
      have hl : lv_has ls 7 [(6, .int 0), (5, .int 1), (0, .ref sb), (1, .ref (a 0)), (2, .ref (b 0)), (3, .ref oo), (4, .int (nI (1 + 5 * j)))] := hl
      refine lv_aload_n hx hb dL_law_350 rfl (lv_at hl 4 rfl) ?_
      refine zb_ci (va_runV (As := []) (rest := []) ⟨hx, hb, hml, hown, htb⟩ (r_thrown l D b cA cJ N f (ro z ob) t nd q sg 1) (cwV 0 htb (wb_V kM_L_46 kI_X5_thrown kS_X5_thrown kN_X5 kD_X5_thrown) rfl rfl rfl (by decide +kernel) ⟨Nat.le_of_ble_eq_true rfl, Nat.le_of_ble_eq_true rfl⟩) (zp_V 0 rfl rfl (wP_l (wP_r hP)) hK hSt hS hnw) rfl rfl hl.1 rfl (lv_room (Nat.le_of_ble_eq_true rfl)) dL_law_351 ⟨by have h9 : room_1.cells = 1049 := rfl; omega, by have h9 : room_1.slots = 8836 := rfl; omega⟩) ?_
      refine lv_iload hx hb dL_law_354 (lv_at hl 1 rfl) ?_
      refine lv_icmp_eq (tgt := 361) hx hb dL_law_356 (by decide) (fun _ => ?_) (fun hno => absurd (by decide) hno)
      refine lv_iload hx hb dL_law_361 (lv_at hl 1 rfl) ?_
      refine lv_if_ne (tgt := 378) hx hb dL_law_363 (by decide) (fun _ => ?_) (fun hno => absurd hno (by decide))
      refine lv_goto (tgt := 538) hx hb dL_law_378 (by decide) ?_
      refine lv_iinc (k := 6) (v := nI (1 + 5 * (j + 1))) hx hb dL_law_538 hl rfl (by rw [show Int32.ofInt 5 = nI 5 from rfl, nI_add]; exact congrArg nI (by omega)) (by decide) rfl (fun ls hl => ?_)
      have hl : lv_has ls 7 [(4, .int (nI (1 + 5 * (j + 1)))), (6, .int 0), (5, .int 1), (0, .ref sb), (1, .ref (a 0)), (2, .ref (b 0)), (3, .ref oo)] := hl
      refine lv_goto (tgt := 33) hx hb dL_law_541 (by decide) ?_
      refine W.widen (k := 21 + (j + 1)) (n := 620 + 6 * (j + 1)) (by omega) (by omega) ?_
      exact ih (j + 1) ls H locs f ob tr nd t z q sg 1 fo (by omega) (by omega) hI hR hP hD hS (lv_sub hl [3, 4, 5, 6, 0] rfl)
