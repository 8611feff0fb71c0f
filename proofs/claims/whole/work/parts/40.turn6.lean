set_option maxHeartbeats 4000000 in
set_option maxRecDepth 100000 in
theorem lw_turn6 {p : Program} {l : Launch} {ev : Env} {s : State} {m : MethodId} {below : List Frame} {meth : Method} {c : Code} {A : Nat → Prop} {D : va_G} {a b : Nat → Nat} {cA cJ : ClassId} {N : Int32} {n sb L oo nn j : Nat} {xs : Nat → Int32} {Q : State → Prop}
    (hx : p.tables.exec = Jvm.exec) (hb : c.code = cL_law) (hml : c.maxLocals = 7) (hown : s.vm.findClass RL = some m.cls) (htb : ∀ w ∈ wb, w.before #[Value.ref sb] s = true) (hX : va_X sb L xs s s.heap) (hbl : sb < s.heap.size) (hbA : ¬ A sb) (hA : ∀ q, s.heap.size ≤ q → A q) (hL : L ≤ 2561) (hK : va_K D vwCl [(cA, .int), (cJ, .long)] s) (hSt : gSt A s s.heap) (hnw : nw s) (htw : tw s) (hfl : l.flags = pinnedFlags ++ [noTraceFlag]) (hNn : N = nI n) (hn1 : 1 ≤ n) (hn15 : n ≤ 15)
    (ih : ∀ (j : Nat) (ls : Array Slot) (H : Heap) (locs : List Loc) (f : Nat → Int32) (ob : OB) (tr : TR) (nd : ND) (t : RT) (z : Int32) (q : Int64) (sg th : Int32) (fo : Nat → Int64), L ≤ 5 * (j + nn) + 5 → j ≤ 512 → I0 (f, ob, tr, nd) → rel2 tr t → va_P D vwCl (cw a cA N f ob tr nd ++ (rw0 b cA cJ N f (ro z ob) t nd q sg th ++ [(oo, .inl (cJ, 1, .inr (.inl fo)))])) H → va_D A (cw a cA N f ob tr nd ++ (rw0 b cA cJ N f (ro z ob) t nd q sg th ++ [(oo, .inl (cJ, 1, .inr (.inl fo)))])) → va_S A s.heap H locs → lv_has ls 7 [(0, .ref sb), (1, .ref (a 0)), (2, .ref (b 0)), (3, .ref oo), (4, .int (nI (1 + 5 * j)))] → W p l ev room_1 s m #[.ref sb] below meth c H locs (21 + j) (620 + 6 * j) Q (F0 m 33 ls []))
    {ls : Array Slot} {H : Heap} {locs : List Loc} {f : Nat → Int32} {ob : OB} {tr : TR} {nd : ND} {t : RT} {z : Int32} {q : Int64} {sg th : Int32} {fo : Nat → Int64} (hLn : L ≤ 5 * (j + (nn + 1)) + 5) (hj5 : (1 + 5 * j) + 5 ≤ L) (hI : I0 (f, ob, tr, nd)) (hR : rel2 tr t) (hP : va_P D vwCl (cw a cA N f ob tr nd ++ (rw0 b cA cJ N f (ro z ob) t nd q sg th ++ [(oo, .inl (cJ, 1, .inr (.inl fo)))])) H) (hD : va_D A (cw a cA N f ob tr nd ++ (rw0 b cA cJ N f (ro z ob) t nd q sg th ++ [(oo, .inl (cJ, 1, .inr (.inl fo)))]))) (hS : va_S A s.heap H locs) (hl : lv_has ls 7 [(0, .ref sb), (1, .ref (a 0)), (2, .ref (b 0)), (3, .ref oo), (4, .int (nI (1 + 5 * j)))]) : W p l ev room_1 s m #[.ref sb] below meth c H locs (21 + j) (620 + 6 * j) Q (F0 m 431 ls []) := by
  obtain ⟨hF, ho, hT9, hS9⟩ := id hI
  have hB : isB f := hF.1
  have hT : mapK f 3 6 := hF.2.1
  have hG : mapK f 9 5 := hF.2.2
  have ho : obK ob := ho
  have hBh0 : isB tr.1 := hT9.1
  obtain ⟨e0, d0, ad0, hN, hrel⟩ := id hR
  have hBh : isB t.1 := by rw [hrel.1]; exact hBh0
  obtain ⟨he0, hd0, hen, hdn, hada, had0⟩ := id hN
  have hjj : j ≤ 511 := by omega
  refine lv_aload_n hx hb dL_law_431 rfl (lv_at hl 1 rfl) ?_
  refine zb_ci (va_runV (As := []) (rest := []) ⟨hx, hb, hml, hown, htb⟩ (c_busy l D a cA N f ob tr nd (hrel.2.elim (fun h => Or.inl h.1) (fun h => Or.inr h.1))) (cwV 0 htb (wb_V kM_L_69 kI_X4_busy kS_X4_busy kN_X4 kD_X4_busy) rfl rfl rfl (by decide +kernel) ⟨Nat.le_of_ble_eq_true rfl, Nat.le_of_ble_eq_true rfl⟩) (zp_V 0 rfl rfl (wP_l hP) (hK.sub (tys' := [(cA, .int)]) [0] rfl) hSt hS hnw) rfl rfl hl.1 rfl (lv_room (Nat.le_of_ble_eq_true rfl)) dL_law_432 ⟨by have h9 : room_1.cells = 1049 := rfl; omega, by have h9 : room_1.slots = 8836 := rfl; omega⟩) ?_
  refine lv_aload_n hx hb dL_law_435 rfl (lv_at hl 2 rfl) ?_
  have hP := wP_213 hP
  have hD := wD_213 hD
  refine zb_cviA (w0 := rw0 b cA cJ N f (ro z ob) t nd q sg th) (wr := cw a cA N f ob tr nd ++ [(oo, .inl (cJ, 1, .inr (.inl fo)))]) (va_runV (As := []) (rest := [.int tr.2.1]) ⟨hx, hb, hml, hown, htb⟩ (r_busy l D b cA cJ N f z ob t nd q sg th _ tr e0 d0 ad0 hrel) (cwV 0 htb (wb_V kM_L_73 kI_X5_busy kS_X5_busy kN_X5 kD_X5_busy) rfl rfl rfl (by decide +kernel) ⟨Nat.le_of_ble_eq_true rfl, Nat.le_of_ble_eq_true rfl⟩) (zp_VW 0 rfl rfl (wP_l hP) (wD_l hD) hK hSt hS hA hnw) rfl rfl hl.1 rfl (lv_room (Nat.le_of_ble_eq_true rfl)) dL_law_436 ⟨by have h9 : room_1.cells = 1049 := rfl; omega, by have h9 : room_1.slots = 8836 := rfl; omega⟩) hP hD hS hA (fun H locs hP hD hS => ?_)
  have hP := wP_213 hP
  have hD := wD_213 hD
  have hP : va_P D vwCl (cw a cA N f ob tr nd ++ (rw0 b cA cJ N f (ro z ob) t nd q sg 0 ++ [(oo, .inl (cJ, 1, .inr (.inl fo)))])) H := hP
  have hD : va_D A (cw a cA N f ob tr nd ++ (rw0 b cA cJ N f (ro z ob) t nd q sg 0 ++ [(oo, .inl (cJ, 1, .inr (.inl fo)))])) := hD
  refine lv_icmp_eq (tgt := 538) hx hb dL_law_439 (by decide) (fun _ => ?_) (fun hno => absurd rfl hno)
  refine lv_iinc (k := 4) (v := nI (1 + 5 * (j + 1))) hx hb dL_law_538 hl rfl (by rw [show Int32.ofInt 5 = nI 5 from rfl, nI_add]; exact congrArg nI (by omega)) (by decide) rfl (fun ls hl => ?_)
  have hl : lv_has ls 7 [(4, .int (nI (1 + 5 * (j + 1)))), (0, .ref sb), (1, .ref (a 0)), (2, .ref (b 0)), (3, .ref oo)] := hl
  refine lv_goto (tgt := 33) hx hb dL_law_541 (by decide) ?_
  refine W.widen (k := 21 + (j + 1)) (n := 620 + 6 * (j + 1)) (by omega) (by omega) ?_
  exact ih (j + 1) ls H locs f ob tr nd t z q sg 0 fo (by omega) (by omega) hI hR hP hD hS (lv_sub hl [1, 2, 3, 4, 0] rfl)
