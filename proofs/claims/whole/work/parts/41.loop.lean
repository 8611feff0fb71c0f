set_option maxHeartbeats 4000000 in
set_option maxRecDepth 100000 in
theorem lw_loop {p : Program} {l : Launch} {ev : Env} {s : State} {m : MethodId} {below : List Frame} {meth : Method} {c : Code} {A : Nat → Prop} {D : va_G} {a b : Nat → Nat} {cA cJ : ClassId} {N : Int32} {n sb L oo : Nat} {xs : Nat → Int32} {Q : State → Prop}
    (hx : p.tables.exec = Jvm.exec) (hb : c.code = cL_law) (hml : c.maxLocals = 7) (hown : s.vm.findClass RL = some m.cls) (htb : ∀ w ∈ wb, w.before #[Value.ref sb] s = true) (hX : va_X sb L xs s s.heap) (hbl : sb < s.heap.size) (hbA : ¬ A sb) (hA : ∀ q, s.heap.size ≤ q → A q) (hL : L ≤ 2561) (hK : va_K D vwCl [(cA, .int), (cJ, .long)] s) (hSt : gSt A s s.heap) (hnw : nw s) (htw : tw s) (hfl : l.flags = pinnedFlags ++ [noTraceFlag]) (hNn : N = nI n) (hn1 : 1 ≤ n) (hn15 : n ≤ 15)
    (hend : ∀ (ls : Array Slot) (H : Heap) (locs : List Loc) (cells slots : Nat), cells ≤ 1049 → slots ≤ 8836 → va_S A s.heap H locs → W p l ev room_1 s m #[.ref sb] below meth c H locs cells slots Q (F0 m 544 ls [])) :
    ∀ (nn j : Nat) (ls : Array Slot) (H : Heap) (locs : List Loc) (f : Nat → Int32) (ob : OB) (tr : TR) (nd : ND) (t : RT) (z : Int32) (q : Int64) (sg th : Int32) (fo : Nat → Int64), L ≤ 5 * (j + nn) + 5 → j ≤ 512 → I0 (f, ob, tr, nd) → rel2 tr t → va_P D vwCl (cw a cA N f ob tr nd ++ (rw0 b cA cJ N f (ro z ob) t nd q sg th ++ [(oo, .inl (cJ, 1, .inr (.inl fo)))])) H → va_D A (cw a cA N f ob tr nd ++ (rw0 b cA cJ N f (ro z ob) t nd q sg th ++ [(oo, .inl (cJ, 1, .inr (.inl fo)))])) → va_S A s.heap H locs → lv_has ls 7 [(0, .ref sb), (1, .ref (a 0)), (2, .ref (b 0)), (3, .ref oo), (4, .int (nI (1 + 5 * j)))] → W p l ev room_1 s m #[.ref sb] below meth c H locs (21 + j) (620 + 6 * j) Q (F0 m 33 ls []) := by
  intro nn
  induction nn with
  | zero =>
    intro j ls H locs f ob tr nd t z q sg th fo hLn hj hI hR hP hD hS hl
    refine lv_iload hx hb dL_law_33 (lv_at hl 4 rfl) ?_
    refine lv_aload_n hx hb dL_law_35 rfl (lv_at hl 0 rfl) ?_
    refine va_slen hx hb hX hbl hbA hS dL_law_36 ?_
    refine lv_iconst (v := 5) hx hb dL_law_37 (by decide) ?_
    refine lv_isub hx hb dL_law_38 ?_
    refine lv_icmp_gt (tgt := 544) hx hb dL_law_39 (by decide) (fun hc => hend _ _ _ _ _ (by omega) (by omega) hS) (fun hc => ?_)
    exact absurd ((sub5 hL (i := 1 + 5 * j) (by omega)).mpr (by omega)) hc
  | succ nn ih =>
    intro j ls H locs f ob tr nd t z q sg th fo hLn hj hI hR hP hD hS hl
    refine lv_iload hx hb dL_law_33 (lv_at hl 4 rfl) ?_
    refine lv_aload_n hx hb dL_law_35 rfl (lv_at hl 0 rfl) ?_
    refine va_slen hx hb hX hbl hbA hS dL_law_36 ?_
    refine lv_iconst (v := 5) hx hb dL_law_37 (by decide) ?_
    refine lv_isub hx hb dL_law_38 ?_
    refine lv_icmp_gt (tgt := 544) hx hb dL_law_39 (by decide) (fun hc => hend _ _ _ _ _ (by omega) (by omega) hS) (fun hc => ?_)
    have hj5 : (1 + 5 * j) + 5 ≤ L := by
      have h9 : ¬ L < (1 + 5 * j) + 5 := fun h => hc ((sub5 hL (i := 1 + 5 * j) (by omega)).mpr h)
      omega
    refine lv_aload_n hx hb dL_law_42 rfl (lv_at hl 0 rfl) ?_
    refine lv_iload hx hb dL_law_43 (lv_at hl 4 rfl) ?_
    refine va_sld (i := nI (1 + 5 * j)) hx hb hX hbl hbA hS (vp_in_nI (by omega) (by omega)) dL_law_45 ?_
    refine lv_bipush (v := 15) hx hb dL_law_46 (by decide) ?_
    refine lv_iand hx hb dL_law_48 ?_
    obtain ⟨v, hv, ev15⟩ := and15 (xs (nI (1 + 5 * j)).toNatClampNeg)
    refine zb_ti (y := nI v) ev15 ?_
    by_cases hk0 : v = 0
    · refine lv_tableIn (off := 55) (tgt := 104) hx hb dL_law_49 (by rw [hk0]; decide) (by rw [hk0]; decide) (by rw [hk0]; rfl) (by decide) ?_
      exact lw_turn0 hx hb hml hown htb hX hbl hbA hA hL hK hSt hnw htw hfl hNn hn1 hn15 ih hLn hj5 hI hR hP hD hS hl
    by_cases hk1 : v = 1
    · refine lv_tableIn (off := 147) (tgt := 196) hx hb dL_law_49 (by rw [hk1]; decide) (by rw [hk1]; decide) (by rw [hk1]; rfl) (by decide) ?_
      exact lw_turn1 hx hb hml hown htb hX hbl hbA hA hL hK hSt hnw htw hfl hNn hn1 hn15 ih hLn hj5 hI hR hP hD hS hl
    by_cases hk2 : v = 2
    · refine lv_tableIn (off := 160) (tgt := 209) hx hb dL_law_49 (by rw [hk2]; decide) (by rw [hk2]; decide) (by rw [hk2]; rfl) (by decide) ?_
      exact lw_turn2 hx hb hml hown htb hX hbl hbA hA hL hK hSt hnw htw hfl hNn hn1 hn15 ih hLn hj5 hI hR hP hD hS hl
    by_cases hk3 : v = 3
    · refine lv_tableIn (off := 252) (tgt := 301) hx hb dL_law_49 (by rw [hk3]; decide) (by rw [hk3]; decide) (by rw [hk3]; rfl) (by decide) ?_
      exact lw_turn3 hx hb hml hown htb hX hbl hbA hA hL hK hSt hnw htw hfl hNn hn1 hn15 ih hLn hj5 hI hR hP hD hS hl
    by_cases hk4 : v = 4
    · refine lv_tableIn (off := 332) (tgt := 381) hx hb dL_law_49 (by rw [hk4]; decide) (by rw [hk4]; decide) (by rw [hk4]; rfl) (by decide) ?_
      exact lw_turn4 hx hb hml hown htb hX hbl hbA hA hL hK hSt hnw htw hfl hNn hn1 hn15 ih hLn hj5 hI hR hP hD hS hl
    by_cases hk5 : v = 5
    · refine lv_tableIn (off := 369) (tgt := 418) hx hb dL_law_49 (by rw [hk5]; decide) (by rw [hk5]; decide) (by rw [hk5]; rfl) (by decide) ?_
      exact lw_turn5 hx hb hml hown htb hX hbl hbA hA hL hK hSt hnw htw hfl hNn hn1 hn15 ih hLn hj5 hI hR hP hD hS hl
    by_cases hk6 : v = 6
    · refine lv_tableIn (off := 382) (tgt := 431) hx hb dL_law_49 (by rw [hk6]; decide) (by rw [hk6]; decide) (by rw [hk6]; rfl) (by decide) ?_
      exact lw_turn6 hx hb hml hown htb hX hbl hbA hA hL hK hSt hnw htw hfl hNn hn1 hn15 ih hLn hj5 hI hR hP hD hS hl
    by_cases hk7 : v = 7
    · refine lv_tableIn (off := 395) (tgt := 444) hx hb dL_law_49 (by rw [hk7]; decide) (by rw [hk7]; decide) (by rw [hk7]; rfl) (by decide) ?_
      exact lw_turn7 hx hb hml hown htb hX hbl hbA hA hL hK hSt hnw htw hfl hNn hn1 hn15 ih hLn hj5 hI hR hP hD hS hl
    by_cases hk8 : v = 8
    · refine lv_tableIn (off := 408) (tgt := 457) hx hb dL_law_49 (by rw [hk8]; decide) (by rw [hk8]; decide) (by rw [hk8]; rfl) (by decide) ?_
      exact lw_turn8 hx hb hml hown htb hX hbl hbA hA hL hK hSt hnw htw hfl hNn hn1 hn15 ih hLn hj5 hI hR hP hD hS hl
    by_cases hk9 : v = 9
    · refine lv_tableIn (off := 476) (tgt := 525) hx hb dL_law_49 (by rw [hk9]; decide) (by rw [hk9]; decide) (by rw [hk9]; rfl) (by decide) ?_
      exact lw_turn9 hx hb hml hown htb hX hbl hbA hA hL hK hSt hnw htw hfl hNn hn1 hn15 ih hLn hj5 hI hR hP hD hS hl
    refine lv_tableOut (tgt := 538) hx hb dL_law_49 (by rw [nI_toInt (by omega)]; omega) (by decide) ?_
    refine lv_iinc (k := 4) (v := nI (1 + 5 * (j + 1))) hx hb dL_law_538 hl rfl (by rw [show Int32.ofInt 5 = nI 5 from rfl, nI_add]; exact congrArg nI (by omega)) (by decide) rfl (fun ls hl => ?_)
    refine lv_goto (tgt := 33) hx hb dL_law_541 (by decide) ?_
    refine W.widen (k := 21 + (j + 1)) (n := 620 + 6 * (j + 1)) (by omega) (by omega) ?_
    exact ih (j + 1) ls H locs f ob tr nd t z q sg th fo (by omega) (by omega) hI hR hP hD hS (lv_sub hl [1, 2, 3, 4, 0] rfl)
