theorem ni_nlt0 {e : Nat} (h : e < 22) : ¬ nI e < 0 := nI_nlt (a := e) (b := 0) (Nat.zero_le _) (by omega)
theorem ni_0le {e : Nat} (h : e < 22) : (0 : Int32) ≤ nI e := nI_le (a := 0) (Nat.zero_le _) (by omega)
theorem sm_1 (f : Nat → Int32) (s : Nat) : sm f s 1 = bv f s := by
  show 0 + bv f (s + 0) * 2 ^ (8 * 0) = bv f s
  rw [Nat.zero_add, Nat.mul_zero, Nat.pow_zero, Nat.mul_one, Nat.add_zero]
theorem mC_j {f : Nat → Int32} (hB : isB f) {C L s j : Nat} (hC : C < 2 ^ (8 * L)) (hj : L + j < 8) :
    lN (C + sm f s j * 2 ^ (8 * L)) ||| (f (s + j)).toInt64 <<< ((nI (8 * (L + j))).toInt64 &&& 63) = lN (C + sm f s (j + 1) * 2 ^ (8 * L)) := by
  obtain ⟨h1, h2⟩ := bv_of hB (s + j)
  have h3 := sm_lt hB s j
  have h4 : C + sm f s j * 2 ^ (8 * L) < 2 ^ (8 * (L + j)) := by
    have h5 : 2 ^ (8 * (L + j)) = 2 ^ (8 * j) * 2 ^ (8 * L) := by rw [← Nat.pow_add]; congr 1; omega
    have h6 : (sm f s j + 1) * 2 ^ (8 * L) ≤ 2 ^ (8 * j) * 2 ^ (8 * L) := Nat.mul_le_mul_right _ h3
    rw [h5]
    rw [Nat.add_mul, Nat.one_mul] at h6
    omega
  have h7 : bv f (s + j) * 2 ^ (8 * (L + j)) + 2 ^ (8 * (L + j)) ≤ 2 ^ 64 := by
    have h8 : (bv f (s + j) + 1) * 2 ^ (8 * (L + j)) ≤ 256 * 2 ^ (8 * (L + j)) := Nat.mul_le_mul_right _ h1
    have h9 : 256 * 2 ^ (8 * (L + j)) ≤ 2 ^ 64 := by
      have : 256 * 2 ^ (8 * (L + j)) = 2 ^ (8 + 8 * (L + j)) := by rw [Nat.pow_add]
      rw [this]
      exact Nat.pow_le_pow_right (by decide) (by omega)
    rw [Nat.add_mul, Nat.one_mul] at h8
    omega
  rw [h2, nI_l (by omega), wb_shl _ (by omega), g_or' rfl h4 (by omega)]
  congr 1
  show _ = C + (sm f s j + bv f (s + j) * 2 ^ (8 * j)) * 2 ^ (8 * L)
  have h10 : 2 ^ (8 * (L + j)) = 2 ^ (8 * j) * 2 ^ (8 * L) := by rw [← Nat.pow_add]; congr 1; omega
  rw [h10, Nat.add_mul, Nat.mul_assoc]
  omega
def rL (f : Nat → Int32) (m r n : Nat) : Int32 := if mOk f m r n = true then nI (mL f m r n) else -1
set_option maxHeartbeats 4000000 in
set_option maxRecDepth 100000 in
theorem r_both (l : Launch) (D : va_G) (b : Nat → Nat) (cA cJ : ClassId) (N : Int32) (f : Nat → Int32) (o : RO) (t : RT) (nd : ND) (q : Int64) (sg th : Int32) (lo hg : Nat) (hlo : lo < 2 ^ 32) (hhg : hg < 2 ^ 32) : Met l yX5_both (wX5_both :: wb) ({ frames := 0, cells := 0, slots := 0, locals := 0 } : Room) (va_Pc [.int (nI lo), .int (nI hg)] (zPu D [(cA, .int), (cJ, .long)] (rw0 b cA cJ N f o t nd q sg th))) (zb_L (lN (lo + 4294967296 * hg))) 0 0 (fun _ => False) := by
  refine Met.ofW (cc := cX5_both) (maxL := 2) (ret := (some .long)) (by decide) rfl ?_
  intro p ev s m args below meth c s₁ B hml hv
  obtain ⟨rfl, hP, hK, hSt, hnw⟩ := hv
  have hx := B.exec
  have hb := B.bytes
  have hr := B.returns
  have hts := atoms_spec (ws := wX5_both :: wb) B.pre
  have htb : ∀ w ∈ wb, w.before ([.int (nI lo), .int (nI hg)]).toArray s = true := fun w h => hts w (List.mem_cons_of_mem _ h)
  have hown : s.vm.findClass RX5 = some m.cls := findClass_of_methodNamed B.named
  have hlocks := B.notSynchronized
  have hS : va_S (fun _ => False) s.heap s.heap [] := va_S.rf
  obtain ⟨⟨tt, ff, hZT, hTT, hZF, hTF⟩, hXS⟩ := id hSt
  have hl := lv_entry ([.int (nI lo), .int (nI hg)]) (n := 2) (Nat.le_of_ble_eq_true rfl)
  rw [lg_entry_eq]
  generalize (lg_sl ([.int (nI lo), .int (nI hg)]) ++ List.replicate (2 - (lg_sl ([.int (nI lo), .int (nI hg)])).length) Slot.unset).toArray = ls at hl ⊢
  have hl : lv_has ls 2 [(0, .int (nI lo)), (1, .int (nI hg))] := hl
  refine zb_abs (fun Q hQ => ?_)
  refine lv_iload_n hx hb dX5_both_0 rfl (lv_at hl 0 rfl) ?_
  refine lv_i2l hx hb dX5_both_1 rfl ?_
  refine lv_ldc2 (v := 4294967295) hx hb hown (htb _ kQ_X5_190) dX5_both_2 ?_
  refine lv_land hx hb dX5_both_5 ?_
  refine lv_iload_n hx hb dX5_both_6 rfl (lv_at hl 1 rfl) ?_
  refine lv_i2l hx hb dX5_both_7 rfl ?_
  refine lv_bipush (v := 32) hx hb dX5_both_8 (by decide) ?_
  refine lv_lshl hx hb dX5_both_10 rfl ?_
  refine lv_lor hx hb dX5_both_11 ?_
  rw [hQ]
  exact W.lret (v := (((nI lo).toInt64) &&& 4294967295) ||| (((nI hg).toInt64) <<< ((32 : Int32).toInt64 &&& 63))) hx hb hr (fun t ht hW => ⟨congrArg (fun z => Outcome.returned (some (Value.long z))) (by rw [Int64.or_comm]; exact jn_eq hlo hhg), ht⟩) (fun q h => nomatch h) dX5_both_12
set_option maxHeartbeats 4000000 in
set_option maxRecDepth 100000 in
theorem r_byteOf (l : Launch) (D : va_G) (b : Nat → Nat) (cA cJ : ClassId) (N : Int32) (f : Nat → Int32) (o : RO) (t : RT) (nd : ND) (q : Int64) (sg th : Int32) (x i : Nat) (hi : i < 8) : Met l yX5_byteOf (wX5_byteOf :: wb) ({ frames := 0, cells := 0, slots := 0, locals := 0 } : Room) (va_Pc [.long (lN x), .int (nI i)] (zPu D [(cA, .int), (cJ, .long)] (rw0 b cA cJ N f o t nd q sg th))) (zb_I (nI (bN x i))) 0 0 (fun _ => False) := by
  refine Met.ofW (cc := cX5_byteOf) (maxL := 3) (ret := (some .int)) (by decide) rfl ?_
  intro p ev s m args below meth c s₁ B hml hv
  obtain ⟨rfl, hP, hK, hSt, hnw⟩ := hv
  have hx := B.exec
  have hb := B.bytes
  have hr := B.returns
  have hts := atoms_spec (ws := wX5_byteOf :: wb) B.pre
  have htb : ∀ w ∈ wb, w.before ([.long (lN x), .int (nI i)]).toArray s = true := fun w h => hts w (List.mem_cons_of_mem _ h)
  have hown : s.vm.findClass RX5 = some m.cls := findClass_of_methodNamed B.named
  have hlocks := B.notSynchronized
  have hS : va_S (fun _ => False) s.heap s.heap [] := va_S.rf
  obtain ⟨⟨tt, ff, hZT, hTT, hZF, hTF⟩, hXS⟩ := id hSt
  have hl := lv_entry ([.long (lN x), .int (nI i)]) (n := 3) (Nat.le_of_ble_eq_true rfl)
  rw [lg_entry_eq]
  generalize (lg_sl ([.long (lN x), .int (nI i)]) ++ List.replicate (3 - (lg_sl ([.long (lN x), .int (nI i)])).length) Slot.unset).toArray = ls at hl ⊢
  have hl : lv_has ls 3 [(0, .long (lN x)), (2, .int (nI i))] := hl
  refine zb_abs (fun Q hQ => ?_)
  refine lv_lload_n hx hb dX5_byteOf_0 rfl (lv_at hl 0 rfl) ?_
  refine lv_bipush (v := 8) hx hb dX5_byteOf_1 (by decide) ?_
  refine lv_iload_n hx hb dX5_byteOf_3 rfl (lv_at hl 1 rfl) ?_
  refine lv_imul hx hb dX5_byteOf_4 ?_
  refine zb_ti (pk_mul 8 i) ?_
  refine lv_lshr hx hb dX5_byteOf_5 rfl ?_
  refine lv_ldc2 (v := 255) hx hb hown (htb _ kQ_X5_70) dX5_byteOf_6 ?_
  refine lv_land hx hb dX5_byteOf_9 ?_
  refine lv_l2i hx hb dX5_byteOf_10 rfl ?_
  rw [hQ]
  exact W.iret (v := (((lN x) >>> ((nI (8 * i)).toInt64 &&& 63)) &&& 255).toInt32) hx hb hr (fun t ht hW => ⟨congrArg (fun z => Outcome.returned (some (Value.int z))) (sar_b hi), ht⟩) (fun q h => nomatch h) dX5_byteOf_11
set_option maxHeartbeats 4000000 in
set_option maxRecDepth 100000 in
theorem r_rightOf (l : Launch) (D : va_G) (b : Nat → Nat) (cA cJ : ClassId) (N : Int32) (f : Nat → Int32) (o : RO) (t : RT) (nd : ND) (q : Int64) (sg th : Int32) (mm : Int32)  : Met l yX5_rightOf (wX5_rightOf :: wb) ({ frames := 0, cells := 0, slots := 0, locals := 0 } : Room) (va_Pc [.int mm] (zPu D [(cA, .int), (cJ, .long)] (rw0 b cA cJ N f o t nd q sg th))) (zb_I (if mm = 3 then 2 else 1)) 0 0 (fun _ => False) := by
  refine Met.ofW (cc := cX5_rightOf) (maxL := 1) (ret := (some .int)) (by decide) rfl ?_
  intro p ev s m args below meth c s₁ B hml hv
  obtain ⟨rfl, hP, hK, hSt, hnw⟩ := hv
  have hx := B.exec
  have hb := B.bytes
  have hr := B.returns
  have hts := atoms_spec (ws := wX5_rightOf :: wb) B.pre
  have htb : ∀ w ∈ wb, w.before ([.int mm]).toArray s = true := fun w h => hts w (List.mem_cons_of_mem _ h)
  have hown : s.vm.findClass RX5 = some m.cls := findClass_of_methodNamed B.named
  have hlocks := B.notSynchronized
  have hS : va_S (fun _ => False) s.heap s.heap [] := va_S.rf
  obtain ⟨⟨tt, ff, hZT, hTT, hZF, hTF⟩, hXS⟩ := id hSt
  have hl := lv_entry ([.int mm]) (n := 1) (Nat.le_of_ble_eq_true rfl)
  rw [lg_entry_eq]
  generalize (lg_sl ([.int mm]) ++ List.replicate (1 - (lg_sl ([.int mm])).length) Slot.unset).toArray = ls at hl ⊢
  have hl : lv_has ls 1 [(0, .int mm)] := hl
  refine zb_abs (fun Q hQ => ?_)
  refine lv_iload_n hx hb dX5_rightOf_0 rfl (lv_at hl 0 rfl) ?_
  refine lv_iconst (v := 3) hx hb dX5_rightOf_1 (by decide) ?_
  refine lv_icmp_ne (tgt := 9) hx hb dX5_rightOf_2 (by decide) (fun hc1 => ?_) (fun hc1 => ?_)
  · refine lv_iconst (v := 1) hx hb dX5_rightOf_9 (by decide) ?_
    rw [hQ]
    exact W.iret (v := 1) hx hb hr (fun t ht hW => ⟨congrArg (fun z => Outcome.returned (some (Value.int z))) (by rw [if_neg hc1]), ht⟩) (fun q h => nomatch h) dX5_rightOf_10
  refine lv_iconst (v := 2) hx hb dX5_rightOf_5 (by decide) ?_
  refine lv_goto (tgt := 10) hx hb dX5_rightOf_6 (by decide) ?_
  rw [hQ]
  exact W.iret (v := 2) hx hb hr (fun t ht hW => ⟨congrArg (fun z => Outcome.returned (some (Value.int z))) (by rw [if_pos hc1]), ht⟩) (fun q h => nomatch h) dX5_rightOf_10
set_option maxHeartbeats 4000000 in
set_option maxRecDepth 100000 in
theorem r_number (l : Launch) (D : va_G) (b : Nat → Nat) (cA cJ : ClassId) (N : Int32) (f : Nat → Int32) (o : RO) (t : RT) (nd : ND) (q : Int64) (sg th : Int32) (e : Nat) (hB : isB f) (he : e < 22) : Met l yX5_number (wX5_number :: wb) ({ frames := 0, cells := 0, slots := 0, locals := 0 } : Room) (va_Pc [.ref (b 0), .int (nI e)] (zPu D [(cA, .int), (cJ, .long)] (rw0 b cA cJ N f o t nd q sg th))) (zb_I (nI (sm f (xP e) (min (xZ e) 4)))) 0 0 (fun _ => False) := by
  refine Met.ofW (cc := cX5_number) (maxL := 4) (ret := (some .int)) (by decide) rfl ?_
  intro p ev s m args below meth c s₁ B hml hv
  obtain ⟨rfl, hP, hK, hSt, hnw⟩ := hv
  have hx := B.exec
  have hb := B.bytes
  have hr := B.returns
  have hts := atoms_spec (ws := wX5_number :: wb) B.pre
  have htb : ∀ w ∈ wb, w.before ([.ref (b 0), .int (nI e)]).toArray s = true := fun w h => hts w (List.mem_cons_of_mem _ h)
  have hown : s.vm.findClass RX5 = some m.cls := findClass_of_methodNamed B.named
  have hlocks := B.notSynchronized
  have hS : va_S (fun _ => False) s.heap s.heap [] := va_S.rf
  obtain ⟨⟨tt, ff, hZT, hTT, hZF, hTF⟩, hXS⟩ := id hSt
  have hl := lv_entry ([.ref (b 0), .int (nI e)]) (n := 4) (Nat.le_of_ble_eq_true rfl)
  rw [lg_entry_eq]
  generalize (lg_sl ([.ref (b 0), .int (nI e)]) ++ List.replicate (4 - (lg_sl ([.ref (b 0), .int (nI e)])).length) Slot.unset).toArray = ls at hl ⊢
  have hl : lv_has ls 4 [(0, .ref (b 0)), (1, .int (nI e))] := hl
  refine zb_abs (fun Q hQ => ?_)
  have hft := x_fit e he
  refine lv_iconst (v := 0) hx hb dX5_number_0 (by decide) ?_
  refine lv_istore_n hx hb dX5_number_1 rfl hl (by decide) rfl (fun ls hl => ?_)
  have hl : lv_has ls 4 [(2, .int 0), (0, .ref (b 0)), (1, .int (nI e))] := hl
  refine lv_iconst (v := 0) hx hb dX5_number_2 (by decide) ?_
  refine lv_istore_n hx hb dX5_number_3 rfl hl (by decide) rfl (fun ls hl => ?_)
  have hl : lv_has ls 4 [(3, .int 0), (2, .int 0), (0, .ref (b 0)), (1, .int (nI e))] := hl
  have lp : ∀ (nn k : Nat) (ls : Array Slot), k + nn = min (xZ e) 4 → lv_has ls 4 [(0, .ref (b 0)), (1, .int (nI e)), (2, .int (nI (sm f (xP e) (k)))), (3, .int (nI (k)))] → W p l ev ({ frames := 0, cells := 0, slots := 0, locals := 0 } : Room) s m ([.ref (b 0), .int (nI e)]).toArray below meth c s.heap [] 0 0 Q (F0 m 4 ls []) := by
    intro nn
    induction nn with
    | zero =>
      intro k ls hk_lp  hl
      have hk0_lp : k = min (xZ e) 4 := by omega
      refine lv_iload_n hx hb dX5_number_4 rfl (lv_at hl 3 rfl) ?_
      refine lv_aload_n hx hb dX5_number_5 rfl (lv_at hl 0 rfl) ?_
      refine va_get (D := D) (ci := 5) (v := .ref (b 3)) (fs := [.int th, .int N, .ref (b 1), .ref (b 2), .ref (b 3), .ref (b 4), .ref (b 5), .ref (b 6), .int 22, .int 95, .int nd.1, .int nd.2.2.1, .int nd.2.1, .long nd.2.2.2, .int t.2.1, .int t.2.2.1, .int t.2.2.2.1, .int t.2.2.2.2.1, .int t.2.2.2.2.2, .ref (b 7), .long q, .int sg, .ref (b 8), .ref (b 9), .ref (b 10), .int o.2.2.2.1, .int o.2.2.2.2]) (C := RX5) (T := TX5) (N := 27) hx hb htb inX5 hown hK hP 0 rfl rfl 4 (by decide) (htb _ kF_X5_16) (fun _ h9 => h9) rfl dX5_number_6 ?_
      refine lv_iload_n hx hb dX5_number_9 rfl (lv_at hl 1 rfl) ?_
      refine va_iald (i := nI e) hx hb hK hP 3 0 rfl rfl (vp_in_nI (by omega) (by decide)) dX5_number_10 ?_
      refine zb_ti (y := nI (xZ e)) (by rw [nI_clamp (by omega)]) ?_
      refine lv_icmp_ge (tgt := 46) hx hb dX5_number_11 (by decide) (fun hc1 => ?_) (fun hc1 => ?_)
      · refine lv_iload_n hx hb dX5_number_46 rfl (lv_at hl 2 rfl) ?_
        rw [hQ]
        exact W.iret (v := nI (sm f (xP e) (k))) hx hb hr (fun t ht hW => ⟨congrArg (fun z => Outcome.returned (some (Value.int z))) (by rw [hk0_lp]), ht⟩) (fun q h => nomatch h) dX5_number_47
      refine lv_iload_n hx hb dX5_number_14 rfl (lv_at hl 3 rfl) ?_
      refine lv_iconst (v := 4) hx hb dX5_number_15 (by decide) ?_
      refine lv_icmp_ge (tgt := 46) hx hb dX5_number_16 (by decide) (fun _ => ?_) (fun hno => absurd (by have h9 : ¬ xZ e ≤ k := fun h => hc1 (nI_le h (by omega)); rw [show k = 4 by omega]; decide) hno)
      refine lv_iload_n hx hb dX5_number_46 rfl (lv_at hl 2 rfl) ?_
      rw [hQ]
      exact W.iret (v := nI (sm f (xP e) (k))) hx hb hr (fun t ht hW => ⟨congrArg (fun z => Outcome.returned (some (Value.int z))) (by rw [hk0_lp]), ht⟩) (fun q h => nomatch h) dX5_number_47
    | succ nn ih_lp =>
      intro k ls hk_lp  hl
      have hk1_lp : k < min (xZ e) 4 := by omega
      refine lv_iload_n hx hb dX5_number_4 rfl (lv_at hl 3 rfl) ?_
      refine lv_aload_n hx hb dX5_number_5 rfl (lv_at hl 0 rfl) ?_
      refine va_get (D := D) (ci := 5) (v := .ref (b 3)) (fs := [.int th, .int N, .ref (b 1), .ref (b 2), .ref (b 3), .ref (b 4), .ref (b 5), .ref (b 6), .int 22, .int 95, .int nd.1, .int nd.2.2.1, .int nd.2.1, .long nd.2.2.2, .int t.2.1, .int t.2.2.1, .int t.2.2.2.1, .int t.2.2.2.2.1, .int t.2.2.2.2.2, .ref (b 7), .long q, .int sg, .ref (b 8), .ref (b 9), .ref (b 10), .int o.2.2.2.1, .int o.2.2.2.2]) (C := RX5) (T := TX5) (N := 27) hx hb htb inX5 hown hK hP 0 rfl rfl 4 (by decide) (htb _ kF_X5_16) (fun _ h9 => h9) rfl dX5_number_6 ?_
      refine lv_iload_n hx hb dX5_number_9 rfl (lv_at hl 1 rfl) ?_
      refine va_iald (i := nI e) hx hb hK hP 3 0 rfl rfl (vp_in_nI (by omega) (by decide)) dX5_number_10 ?_
      refine zb_ti (y := nI (xZ e)) (by rw [nI_clamp (by omega)]) ?_
      refine lv_icmp_ge (tgt := 46) hx hb dX5_number_11 (by decide) (fun hno => absurd hno (nI_ge (a := k) (b := xZ e) (by omega) (by omega))) (fun _ => ?_)
      refine lv_iload_n hx hb dX5_number_14 rfl (lv_at hl 3 rfl) ?_
      refine lv_iconst (v := 4) hx hb dX5_number_15 (by decide) ?_
      refine lv_icmp_ge (tgt := 46) hx hb dX5_number_16 (by decide) (fun hno => absurd hno (nI_ge (a := k) (b := 4) (by omega) (by decide))) (fun _ => ?_)
      refine lv_iload_n hx hb dX5_number_19 rfl (lv_at hl 2 rfl) ?_
      refine lv_aload_n hx hb dX5_number_20 rfl (lv_at hl 0 rfl) ?_
      refine va_get (D := D) (ci := 5) (v := .ref (b 6)) (fs := [.int th, .int N, .ref (b 1), .ref (b 2), .ref (b 3), .ref (b 4), .ref (b 5), .ref (b 6), .int 22, .int 95, .int nd.1, .int nd.2.2.1, .int nd.2.1, .long nd.2.2.2, .int t.2.1, .int t.2.2.1, .int t.2.2.2.1, .int t.2.2.2.2.1, .int t.2.2.2.2.2, .ref (b 7), .long q, .int sg, .ref (b 8), .ref (b 9), .ref (b 10), .int o.2.2.2.1, .int o.2.2.2.2]) (C := RX5) (T := TX5) (N := 27) hx hb htb inX5 hown hK hP 0 rfl rfl 7 (by decide) (htb _ kF_X5_25) (fun _ h9 => h9) rfl dX5_number_21 ?_
      refine lv_aload_n hx hb dX5_number_24 rfl (lv_at hl 0 rfl) ?_
      refine va_get (D := D) (ci := 5) (v := .ref (b 5)) (fs := [.int th, .int N, .ref (b 1), .ref (b 2), .ref (b 3), .ref (b 4), .ref (b 5), .ref (b 6), .int 22, .int 95, .int nd.1, .int nd.2.2.1, .int nd.2.1, .long nd.2.2.2, .int t.2.1, .int t.2.2.1, .int t.2.2.2.1, .int t.2.2.2.2.1, .int t.2.2.2.2.2, .ref (b 7), .long q, .int sg, .ref (b 8), .ref (b 9), .ref (b 10), .int o.2.2.2.1, .int o.2.2.2.2]) (C := RX5) (T := TX5) (N := 27) hx hb htb inX5 hown hK hP 0 rfl rfl 6 (by decide) (htb _ kF_X5_22) (fun _ h9 => h9) rfl dX5_number_25 ?_
      refine lv_iload_n hx hb dX5_number_28 rfl (lv_at hl 1 rfl) ?_
      refine va_iald (i := nI e) hx hb hK hP 5 0 rfl rfl (vp_in_nI (by omega) (by decide)) dX5_number_29 ?_
      refine zb_ti (y := nI (xP e)) (by rw [nI_clamp (by omega)]) ?_
      refine lv_iload_n hx hb dX5_number_30 rfl (lv_at hl 3 rfl) ?_
      refine lv_iadd hx hb dX5_number_31 ?_
      refine zb_ti (nI_add (xP e) (k)) ?_
      refine va_iald (i := nI ((xP e) + (k))) hx hb hK hP 6 0 rfl rfl (vp_in_nI (by omega) (by decide)) dX5_number_32 ?_
      refine zb_ti (y := f ((xP e) + (k))) (by rw [nI_clamp (by omega)]) ?_
      refine lv_bipush (v := 8) hx hb dX5_number_33 (by decide) ?_
      refine lv_iload_n hx hb dX5_number_35 rfl (lv_at hl 3 rfl) ?_
      refine lv_imul hx hb dX5_number_36 ?_
      refine zb_ti (pk_mul 8 (k)) ?_
      refine lv_ishl hx hb dX5_number_37 ?_
      refine lv_ior hx hb dX5_number_38 ?_
      refine zb_ti (y := nI (sm f (xP e) (k + 1))) (sm_orI hB (by omega)) ?_
      refine lv_istore_n hx hb dX5_number_39 rfl hl (by decide) rfl (fun ls hl => ?_)
      have hl : lv_has ls 4 [(2, .int (nI (sm f (xP e) (k + 1)))), (0, .ref (b 0)), (1, .int (nI e)), (3, .int (nI (k)))] := hl
      refine lv_iinc (k := 3) (v := nI ((k) + 1)) hx hb dX5_number_40 hl rfl (nI_1 (k)) (by decide) rfl (fun ls hl => ?_)
      have hl : lv_has ls 4 [(3, .int (nI ((k) + 1))), (2, .int (nI (sm f (xP e) (k + 1)))), (0, .ref (b 0)), (1, .int (nI e))] := hl
      refine lv_goto (tgt := 4) hx hb dX5_number_43 (by decide) ?_
      exact ih_lp (k + 1) ls (by omega) (lv_sub hl [2, 3, 1, 0] rfl)
  exact lp (min (xZ e) 4 - 0) (0) ls (by omega) (lv_sub hl [2, 3, 1, 0] rfl)
set_option maxHeartbeats 4000000 in
set_option maxRecDepth 100000 in
theorem r_named (l : Launch) (D : va_G) (b : Nat → Nat) (cA cJ : ClassId) (N : Int32) (f : Nat → Int32) (o : RO) (t : RT) (nd : ND) (q : Int64) (sg th : Int32) (nm : Int32) (r : Nat) (hr1 : 1 ≤ r) (hr2 : r ≤ 2) : Met l yX5_named (wX5_named :: wb) ({ frames := 0, cells := 0, slots := 0, locals := 0 } : Room) (va_Pc [.ref (b 0), .int nm, .int (nI r)] (zPu D [(cA, .int), (cJ, .long)] (rw0 b cA cJ N f o t nd q sg th))) (zb_I (oI (mp nm (r + 4)))) 0 0 (fun _ => False) := by
  refine Met.ofW (cc := cX5_named) (maxL := 5) (ret := (some .int)) (by decide) rfl ?_
  intro p ev s m args below meth c s₁ B hml hv
  obtain ⟨rfl, hP, hK, hSt, hnw⟩ := hv
  have hx := B.exec
  have hb := B.bytes
  have hr := B.returns
  have hts := atoms_spec (ws := wX5_named :: wb) B.pre
  have htb : ∀ w ∈ wb, w.before ([.ref (b 0), .int nm, .int (nI r)]).toArray s = true := fun w h => hts w (List.mem_cons_of_mem _ h)
  have hown : s.vm.findClass RX5 = some m.cls := findClass_of_methodNamed B.named
  have hlocks := B.notSynchronized
  have hS : va_S (fun _ => False) s.heap s.heap [] := va_S.rf
  obtain ⟨⟨tt, ff, hZT, hTT, hZF, hTF⟩, hXS⟩ := id hSt
  have hl := lv_entry ([.ref (b 0), .int nm, .int (nI r)]) (n := 5) (Nat.le_of_ble_eq_true rfl)
  rw [lg_entry_eq]
  generalize (lg_sl ([.ref (b 0), .int nm, .int (nI r)]) ++ List.replicate (5 - (lg_sl ([.ref (b 0), .int nm, .int (nI r)])).length) Slot.unset).toArray = ls at hl ⊢
  have hl : lv_has ls 5 [(0, .ref (b 0)), (1, .int nm), (2, .int (nI r))] := hl
  refine zb_abs (fun Q hQ => ?_)
  refine lv_iconst (v := 0) hx hb dX5_named_0 (by decide) ?_
  refine lv_istore_n hx hb dX5_named_1 rfl hl (by decide) rfl (fun ls hl => ?_)
  have hl : lv_has ls 5 [(3, .int 0), (0, .ref (b 0)), (1, .int nm), (2, .int (nI r))] := hl
  have lp : ∀ (nn k : Nat) (ls : Array Slot), k + nn = 22 → (mp nm (r + 4) = mpR nm r nn k) → lv_has ls 5 [(0, .ref (b 0)), (1, .int nm), (2, .int (nI r)), (3, .int (nI (k)))] → W p l ev ({ frames := 0, cells := 0, slots := 0, locals := 0 } : Room) s m ([.ref (b 0), .int nm, .int (nI r)]).toArray below meth c s.heap [] 0 0 Q (F0 m 2 ls []) := by
    intro nn
    induction nn with
    | zero =>
      intro k ls hk_lp hfd hl
      have hk0_lp : k = 22 := by omega
      refine lv_iload_n hx hb dX5_named_2 rfl (lv_at hl 3 rfl) ?_
      refine lv_bipush (v := 22) hx hb dX5_named_3 (by decide) ?_
      refine lv_icmp_ge (tgt := 84) hx hb dX5_named_5 (by decide) (fun _ => ?_) (fun hno => absurd (by rw [hk0_lp]; decide) hno)
      refine lv_iconst (v := (-1)) hx hb dX5_named_84 (by decide) ?_
      rw [hQ]
      exact W.iret (v := (-1)) hx hb hr (fun t ht hW => ⟨congrArg (fun z => Outcome.returned (some (Value.int z))) (by rw [hfd]; simp only [mpR]; rfl), ht⟩) (fun q h => nomatch h) dX5_named_85
    | succ nn ih_lp =>
      intro k ls hk_lp hfd hl
      have hk1_lp : k < 22 := by omega
      refine lv_iload_n hx hb dX5_named_2 rfl (lv_at hl 3 rfl) ?_
      refine lv_bipush (v := 22) hx hb dX5_named_3 (by decide) ?_
      refine lv_icmp_ge (tgt := 84) hx hb dX5_named_5 (by decide) (fun hno => absurd hno (nI_ge (a := k) (b := 22) hk1_lp (by decide))) (fun _ => ?_)
      refine lv_aload_n hx hb dX5_named_8 rfl (lv_at hl 0 rfl) ?_
      refine va_get (D := D) (ci := 5) (v := .ref (b 4)) (fs := [.int th, .int N, .ref (b 1), .ref (b 2), .ref (b 3), .ref (b 4), .ref (b 5), .ref (b 6), .int 22, .int 95, .int nd.1, .int nd.2.2.1, .int nd.2.1, .long nd.2.2.2, .int t.2.1, .int t.2.2.1, .int t.2.2.2.1, .int t.2.2.2.2.1, .int t.2.2.2.2.2, .ref (b 7), .long q, .int sg, .ref (b 8), .ref (b 9), .ref (b 10), .int o.2.2.2.1, .int o.2.2.2.2]) (C := RX5) (T := TX5) (N := 27) hx hb htb inX5 hown hK hP 0 rfl rfl 5 (by decide) (htb _ kF_X5_19) (fun _ h9 => h9) rfl dX5_named_9 ?_
      refine lv_iload_n hx hb dX5_named_12 rfl (lv_at hl 3 rfl) ?_
      refine va_iald (i := nI (k)) hx hb hK hP 4 0 rfl rfl (vp_in_nI (by omega) (by decide)) dX5_named_13 ?_
      refine zb_ti (y := nI (xR (k))) (by rw [nI_clamp (by omega)]) ?_
      refine lv_iconst (v := 4) hx hb dX5_named_14 (by decide) ?_
      refine lv_iand hx hb dX5_named_15 ?_
      refine zb_ti (y := nI (xR k &&& 4)) (nx_and (xR k) 4) ?_
      refine lv_if_eq (tgt := 34) hx hb dX5_named_16 (by decide) (fun hc1 => ?_) (fun hc1 => ?_)
      · refine lv_iconst (v := 0) hx hb dX5_named_34 (by decide) ?_
        refine lv_istore hx hb dX5_named_35 hl (by decide) rfl (fun ls hl => ?_)
        have hl : lv_has ls 5 [(4, .int 0), (0, .ref (b 0)), (1, .int nm), (2, .int (nI r)), (3, .int (nI (k)))] := hl
        refine lv_iload hx hb dX5_named_37 (lv_at hl 0 rfl) ?_
        refine lv_if_eq (tgt := 78) hx hb dX5_named_39 (by decide) (fun _ => ?_) (fun hno => absurd (by decide) hno)
        refine lv_iinc (k := 4) (v := nI ((k) + 1)) hx hb dX5_named_78 hl rfl (nI_1 (k)) (by decide) rfl (fun ls hl => ?_)
        have hl : lv_has ls 5 [(3, .int (nI ((k) + 1))), (4, .int 0), (0, .ref (b 0)), (1, .int nm), (2, .int (nI r))] := hl
        refine lv_goto (tgt := 2) hx hb dX5_named_81 (by decide) ?_
        exact ih_lp (k + 1) ls (by omega) (by rw [hfd]; simp only [mpR, if_pos hc1]) (lv_sub hl [2, 3, 4, 0] rfl)
      refine lv_aload_n hx hb dX5_named_19 rfl (lv_at hl 0 rfl) ?_
      refine va_get (D := D) (ci := 5) (v := .ref (b 4)) (fs := [.int th, .int N, .ref (b 1), .ref (b 2), .ref (b 3), .ref (b 4), .ref (b 5), .ref (b 6), .int 22, .int 95, .int nd.1, .int nd.2.2.1, .int nd.2.1, .long nd.2.2.2, .int t.2.1, .int t.2.2.1, .int t.2.2.2.1, .int t.2.2.2.2.1, .int t.2.2.2.2.2, .ref (b 7), .long q, .int sg, .ref (b 8), .ref (b 9), .ref (b 10), .int o.2.2.2.1, .int o.2.2.2.2]) (C := RX5) (T := TX5) (N := 27) hx hb htb inX5 hown hK hP 0 rfl rfl 5 (by decide) (htb _ kF_X5_19) (fun _ h9 => h9) rfl dX5_named_20 ?_
      refine lv_iload_n hx hb dX5_named_23 rfl (lv_at hl 3 rfl) ?_
      refine va_iald (i := nI (k)) hx hb hK hP 4 0 rfl rfl (vp_in_nI (by omega) (by decide)) dX5_named_24 ?_
      refine zb_ti (y := nI (xR (k))) (by rw [nI_clamp (by omega)]) ?_
      refine lv_iload_n hx hb dX5_named_25 rfl (lv_at hl 2 rfl) ?_
      refine lv_iand hx hb dX5_named_26 ?_
      refine zb_ti (y := nI (xR k &&& r)) (nx_and _ _) ?_
      refine lv_if_eq (tgt := 34) hx hb dX5_named_27 (by decide) (fun hc2 => ?_) (fun hc2 => ?_)
      · refine lv_iconst (v := 0) hx hb dX5_named_34 (by decide) ?_
        refine lv_istore hx hb dX5_named_35 hl (by decide) rfl (fun ls hl => ?_)
        have hl : lv_has ls 5 [(4, .int 0), (0, .ref (b 0)), (1, .int nm), (2, .int (nI r)), (3, .int (nI (k)))] := hl
        refine lv_iload hx hb dX5_named_37 (lv_at hl 0 rfl) ?_
        refine lv_if_eq (tgt := 78) hx hb dX5_named_39 (by decide) (fun _ => ?_) (fun hno => absurd (by decide) hno)
        refine lv_iinc (k := 4) (v := nI ((k) + 1)) hx hb dX5_named_78 hl rfl (nI_1 (k)) (by decide) rfl (fun ls hl => ?_)
        have hl : lv_has ls 5 [(3, .int (nI ((k) + 1))), (4, .int 0), (0, .ref (b 0)), (1, .int nm), (2, .int (nI r))] := hl
        refine lv_goto (tgt := 2) hx hb dX5_named_81 (by decide) ?_
        exact ih_lp (k + 1) ls (by omega) (by rw [hfd]; simp only [mpR, if_neg hc1, if_pos hc2]) (lv_sub hl [2, 3, 4, 0] rfl)
      refine lv_iconst (v := 1) hx hb dX5_named_30 (by decide) ?_
      refine lv_goto (tgt := 35) hx hb dX5_named_31 (by decide) ?_
      refine lv_istore hx hb dX5_named_35 hl (by decide) rfl (fun ls hl => ?_)
      have hl : lv_has ls 5 [(4, .int 1), (0, .ref (b 0)), (1, .int nm), (2, .int (nI r)), (3, .int (nI (k)))] := hl
      refine lv_iload hx hb dX5_named_37 (lv_at hl 0 rfl) ?_
      refine lv_if_eq (tgt := 78) hx hb dX5_named_39 (by decide) (fun hno => absurd hno (by decide)) (fun _ => ?_)
      refine lv_iload_n hx hb dX5_named_42 rfl (lv_at hl 2 rfl) ?_
      refine lv_aload_n hx hb dX5_named_43 rfl (lv_at hl 1 rfl) ?_
      refine va_get (D := D) (ci := 5) (v := .ref (b 1)) (fs := [.int th, .int N, .ref (b 1), .ref (b 2), .ref (b 3), .ref (b 4), .ref (b 5), .ref (b 6), .int 22, .int 95, .int nd.1, .int nd.2.2.1, .int nd.2.1, .long nd.2.2.2, .int t.2.1, .int t.2.2.1, .int t.2.2.2.1, .int t.2.2.2.2.1, .int t.2.2.2.2.2, .ref (b 7), .long q, .int sg, .ref (b 8), .ref (b 9), .ref (b 10), .int o.2.2.2.1, .int o.2.2.2.2]) (C := RX5) (T := TX5) (N := 27) hx hb htb inX5 hown hK hP 0 rfl rfl 2 (by decide) (htb _ kF_X5_7) (fun _ h9 => h9) rfl dX5_named_44 ?_
      refine lv_iload_n hx hb dX5_named_47 rfl (lv_at hl 4 rfl) ?_
      refine va_iald (i := nI (k)) hx hb hK hP 1 0 rfl rfl (vp_in_nI (by omega) (by decide)) dX5_named_48 ?_
      refine zb_ti (y := nI (xI (k))) (by rw [nI_clamp (by omega)]) ?_
      refine lv_ldc (v := 65536) hx hb hown (htb _ kK_X5_53) dX5_named_49 ?_
      refine lv_imul hx hb dX5_named_51 ?_
      refine zb_ti (pk_mul (xI (k)) 65536) ?_
      refine lv_aload_n hx hb dX5_named_52 rfl (lv_at hl 1 rfl) ?_
      refine va_get (D := D) (ci := 5) (v := .ref (b 2)) (fs := [.int th, .int N, .ref (b 1), .ref (b 2), .ref (b 3), .ref (b 4), .ref (b 5), .ref (b 6), .int 22, .int 95, .int nd.1, .int nd.2.2.1, .int nd.2.1, .long nd.2.2.2, .int t.2.1, .int t.2.2.1, .int t.2.2.2.1, .int t.2.2.2.2.1, .int t.2.2.2.2.2, .ref (b 7), .long q, .int sg, .ref (b 8), .ref (b 9), .ref (b 10), .int o.2.2.2.1, .int o.2.2.2.2]) (C := RX5) (T := TX5) (N := 27) hx hb htb inX5 hown hK hP 0 rfl rfl 3 (by decide) (htb _ kF_X5_13) (fun _ h9 => h9) rfl dX5_named_53 ?_
      refine lv_iload_n hx hb dX5_named_56 rfl (lv_at hl 4 rfl) ?_
      refine va_iald (i := nI (k)) hx hb hK hP 2 0 rfl rfl (vp_in_nI (by omega) (by decide)) dX5_named_57 ?_
      refine zb_ti (y := nI (xS (k))) (by rw [nI_clamp (by omega)]) ?_
      refine lv_sipush (v := 256) hx hb dX5_named_58 (by decide) ?_
      refine lv_imul hx hb dX5_named_61 ?_
      refine zb_ti (pk_mul (xS (k)) 256) ?_
      refine lv_iadd hx hb dX5_named_62 ?_
      refine zb_ti (nI_add ((xI (k)) * 65536) ((xS (k)) * 256)) ?_
      refine lv_bipush (v := 8) hx hb dX5_named_63 (by decide) ?_
      refine lv_aload_n hx hb dX5_named_65 rfl (lv_at hl 1 rfl) ?_
      refine va_get (D := D) (ci := 5) (v := .ref (b 3)) (fs := [.int th, .int N, .ref (b 1), .ref (b 2), .ref (b 3), .ref (b 4), .ref (b 5), .ref (b 6), .int 22, .int 95, .int nd.1, .int nd.2.2.1, .int nd.2.1, .long nd.2.2.2, .int t.2.1, .int t.2.2.1, .int t.2.2.2.1, .int t.2.2.2.2.1, .int t.2.2.2.2.2, .ref (b 7), .long q, .int sg, .ref (b 8), .ref (b 9), .ref (b 10), .int o.2.2.2.1, .int o.2.2.2.2]) (C := RX5) (T := TX5) (N := 27) hx hb htb inX5 hown hK hP 0 rfl rfl 4 (by decide) (htb _ kF_X5_16) (fun _ h9 => h9) rfl dX5_named_66 ?_
      refine lv_iload_n hx hb dX5_named_69 rfl (lv_at hl 4 rfl) ?_
      refine va_iald (i := nI (k)) hx hb hK hP 3 0 rfl rfl (vp_in_nI (by omega) (by decide)) dX5_named_70 ?_
      refine zb_ti (y := nI (xZ (k))) (by rw [nI_clamp (by omega)]) ?_
      refine lv_imul hx hb dX5_named_71 ?_
      refine zb_ti (pk_mul 8 (xZ (k))) ?_
      refine lv_iadd hx hb dX5_named_72 ?_
      refine zb_ti (nI_add (((xI (k)) * 65536) + ((xS (k)) * 256)) (8 * (xZ (k)))) ?_
      refine zb_ti (y := nI (xKey k)) (rfl) ?_
      refine lv_icmp_ne (tgt := 78) hx hb dX5_named_73 (by decide) (fun hc3 => ?_) (fun hc3 => ?_)
      · refine lv_iinc (k := 4) (v := nI ((k) + 1)) hx hb dX5_named_78 hl rfl (nI_1 (k)) (by decide) rfl (fun ls hl => ?_)
        have hl : lv_has ls 5 [(3, .int (nI ((k) + 1))), (4, .int 1), (0, .ref (b 0)), (1, .int nm), (2, .int (nI r))] := hl
        refine lv_goto (tgt := 2) hx hb dX5_named_81 (by decide) ?_
        exact ih_lp (k + 1) ls (by omega) (by rw [hfd]; simp only [mpR, if_neg hc1, if_neg hc2, if_neg hc3]) (lv_sub hl [2, 3, 4, 0] rfl)
      refine lv_iload_n hx hb dX5_named_76 rfl (lv_at hl 4 rfl) ?_
      rw [hQ]
      exact W.iret (v := nI (k)) hx hb hr (fun t ht hW => ⟨congrArg (fun z => Outcome.returned (some (Value.int z))) (by rw [hfd]; simp only [mpR, if_neg hc1, if_neg hc2, if_pos hc3]; rfl), ht⟩) (fun q h => nomatch h) dX5_named_77
  exact lp (22 - 0) (0) ls (by omega) ((mpR_eq hr1 hr2 22 0 (Nat.le_refl _)).symm) (lv_sub hl [1, 2, 3, 0] rfl)
set_option maxHeartbeats 4000000 in
set_option maxRecDepth 100000 in
theorem r_find (l : Launch) (D : va_G) (b : Nat → Nat) (cA cJ : ClassId) (N : Int32) (f : Nat → Int32) (o : RO) (t : RT) (nd : ND) (q : Int64) (sg th : Int32) (i sb : Int32)  : Met l yX5_find (wX5_find :: wb) ({ frames := 0, cells := 0, slots := 0, locals := 0 } : Room) (va_Pc [.ref (b 0), .int i, .int sb] (zPu D [(cA, .int), (cJ, .long)] (rw0 b cA cJ N f o t nd q sg th))) (zb_I (rF i sb)) 0 0 (fun _ => False) := by
  refine Met.ofW (cc := cX5_find) (maxL := 5) (ret := (some .int)) (by decide) rfl ?_
  intro p ev s m args below meth c s₁ B hml hv
  obtain ⟨rfl, hP, hK, hSt, hnw⟩ := hv
  have hx := B.exec
  have hb := B.bytes
  have hr := B.returns
  have hts := atoms_spec (ws := wX5_find :: wb) B.pre
  have htb : ∀ w ∈ wb, w.before ([.ref (b 0), .int i, .int sb]).toArray s = true := fun w h => hts w (List.mem_cons_of_mem _ h)
  have hown : s.vm.findClass RX5 = some m.cls := findClass_of_methodNamed B.named
  have hlocks := B.notSynchronized
  have hS : va_S (fun _ => False) s.heap s.heap [] := va_S.rf
  obtain ⟨⟨tt, ff, hZT, hTT, hZF, hTF⟩, hXS⟩ := id hSt
  have hl := lv_entry ([.ref (b 0), .int i, .int sb]) (n := 5) (Nat.le_of_ble_eq_true rfl)
  rw [lg_entry_eq]
  generalize (lg_sl ([.ref (b 0), .int i, .int sb]) ++ List.replicate (5 - (lg_sl ([.ref (b 0), .int i, .int sb])).length) Slot.unset).toArray = ls at hl ⊢
  have hl : lv_has ls 5 [(0, .ref (b 0)), (1, .int i), (2, .int sb)] := hl
  refine zb_abs (fun Q hQ => ?_)
  refine lv_bipush (v := (-2)) hx hb dX5_find_0 (by decide) ?_
  refine lv_istore_n hx hb dX5_find_2 rfl hl (by decide) rfl (fun ls hl => ?_)
  have hl : lv_has ls 5 [(3, .int (-2)), (0, .ref (b 0)), (1, .int i), (2, .int sb)] := hl
  refine lv_iconst (v := 0) hx hb dX5_find_3 (by decide) ?_
  refine lv_istore hx hb dX5_find_4 hl (by decide) rfl (fun ls hl => ?_)
  have hl : lv_has ls 5 [(4, .int 0), (3, .int (-2)), (0, .ref (b 0)), (1, .int i), (2, .int sb)] := hl
  have lp : ∀ (nn k : Nat) (ls : Array Slot), k + nn = 22 → lv_has ls 5 [(0, .ref (b 0)), (1, .int i), (2, .int sb), (3, .int (rfF i sb (k))), (4, .int (nI (k)))] → W p l ev ({ frames := 0, cells := 0, slots := 0, locals := 0 } : Room) s m ([.ref (b 0), .int i, .int sb]).toArray below meth c s.heap [] 0 0 Q (F0 m 6 ls []) := by
    intro nn
    induction nn with
    | zero =>
      intro k ls hk_lp  hl
      have hk0_lp : k = 22 := by omega
      refine lv_iload hx hb dX5_find_6 (lv_at hl 4 rfl) ?_
      refine lv_bipush (v := 22) hx hb dX5_find_8 (by decide) ?_
      refine lv_icmp_ge (tgt := 58) hx hb dX5_find_10 (by decide) (fun _ => ?_) (fun hno => absurd (by rw [hk0_lp]; decide) hno)
      refine lv_iload_n hx hb dX5_find_58 rfl (lv_at hl 3 rfl) ?_
      rw [hQ]
      exact W.iret (v := rfF i sb (k)) hx hb hr (fun t ht hW => ⟨congrArg (fun z => Outcome.returned (some (Value.int z))) (by rw [hk0_lp]; exact rF_eq i sb), ht⟩) (fun q h => nomatch h) dX5_find_59
    | succ nn ih_lp =>
      intro k ls hk_lp  hl
      have hk1_lp : k < 22 := by omega
      refine lv_iload hx hb dX5_find_6 (lv_at hl 4 rfl) ?_
      refine lv_bipush (v := 22) hx hb dX5_find_8 (by decide) ?_
      refine lv_icmp_ge (tgt := 58) hx hb dX5_find_10 (by decide) (fun hno => absurd hno (nI_ge (a := k) (b := 22) hk1_lp (by decide))) (fun _ => ?_)
      refine lv_aload_n hx hb dX5_find_13 rfl (lv_at hl 0 rfl) ?_
      refine va_get (D := D) (ci := 5) (v := .ref (b 1)) (fs := [.int th, .int N, .ref (b 1), .ref (b 2), .ref (b 3), .ref (b 4), .ref (b 5), .ref (b 6), .int 22, .int 95, .int nd.1, .int nd.2.2.1, .int nd.2.1, .long nd.2.2.2, .int t.2.1, .int t.2.2.1, .int t.2.2.2.1, .int t.2.2.2.2.1, .int t.2.2.2.2.2, .ref (b 7), .long q, .int sg, .ref (b 8), .ref (b 9), .ref (b 10), .int o.2.2.2.1, .int o.2.2.2.2]) (C := RX5) (T := TX5) (N := 27) hx hb htb inX5 hown hK hP 0 rfl rfl 2 (by decide) (htb _ kF_X5_7) (fun _ h9 => h9) rfl dX5_find_14 ?_
      refine lv_iload hx hb dX5_find_17 (lv_at hl 4 rfl) ?_
      refine va_iald (i := nI (k)) hx hb hK hP 1 0 rfl rfl (vp_in_nI (by omega) (by decide)) dX5_find_19 ?_
      refine zb_ti (y := nI (xI (k))) (by rw [nI_clamp (by omega)]) ?_
      refine lv_iload_n hx hb dX5_find_20 rfl (lv_at hl 1 rfl) ?_
      refine lv_icmp_ne (tgt := 52) hx hb dX5_find_21 (by decide) (fun hc1 => ?_) (fun hc1 => ?_)
      · have e2 : (rfF i sb (k) : Int32) = rfF i sb (k + 1) := by simp only [rfF, if_neg hc1]
        have hl : lv_has ls 5 [(0, .ref (b 0)), (1, .int i), (2, .int sb), (3, .int (rfF i sb (k + 1))), (4, .int (nI (k)))] := Eq.mp (congrArg (fun zz9 : Int32 => lv_has ls 5 [(0, .ref (b 0)), (1, .int i), (2, .int sb), (3, .int zz9), (4, .int (nI (k)))]) e2) hl
        refine lv_iinc (k := 4) (v := nI ((k) + 1)) hx hb dX5_find_52 hl rfl (nI_1 (k)) (by decide) rfl (fun ls hl => ?_)
        have hl : lv_has ls 5 [(4, .int (nI ((k) + 1))), (0, .ref (b 0)), (1, .int i), (2, .int sb), (3, .int (rfF i sb (k + 1)))] := hl
        refine lv_goto (tgt := 6) hx hb dX5_find_55 (by decide) ?_
        exact ih_lp (k + 1) ls (by omega) (lv_sub hl [1, 2, 3, 4, 0] rfl)
      refine lv_aload_n hx hb dX5_find_24 rfl (lv_at hl 0 rfl) ?_
      refine va_get (D := D) (ci := 5) (v := .ref (b 2)) (fs := [.int th, .int N, .ref (b 1), .ref (b 2), .ref (b 3), .ref (b 4), .ref (b 5), .ref (b 6), .int 22, .int 95, .int nd.1, .int nd.2.2.1, .int nd.2.1, .long nd.2.2.2, .int t.2.1, .int t.2.2.1, .int t.2.2.2.1, .int t.2.2.2.2.1, .int t.2.2.2.2.2, .ref (b 7), .long q, .int sg, .ref (b 8), .ref (b 9), .ref (b 10), .int o.2.2.2.1, .int o.2.2.2.2]) (C := RX5) (T := TX5) (N := 27) hx hb htb inX5 hown hK hP 0 rfl rfl 3 (by decide) (htb _ kF_X5_13) (fun _ h9 => h9) rfl dX5_find_25 ?_
      refine lv_iload hx hb dX5_find_28 (lv_at hl 4 rfl) ?_
      refine va_iald (i := nI (k)) hx hb hK hP 2 0 rfl rfl (vp_in_nI (by omega) (by decide)) dX5_find_30 ?_
      refine zb_ti (y := nI (xS (k))) (by rw [nI_clamp (by omega)]) ?_
      refine lv_iload_n hx hb dX5_find_31 rfl (lv_at hl 2 rfl) ?_
      refine lv_icmp_ne (tgt := 40) hx hb dX5_find_32 (by decide) (fun hc3 => ?_) (fun hc3 => ?_)
      · refine lv_iload_n hx hb dX5_find_40 rfl (lv_at hl 3 rfl) ?_
        refine lv_bipush (v := (-2)) hx hb dX5_find_41 (by decide) ?_
        refine lv_icmp_ne (tgt := 50) hx hb dX5_find_43 (by decide) (fun hc4 => ?_) (fun hc4 => ?_)
        · refine lv_iload_n hx hb dX5_find_50 rfl (lv_at hl 3 rfl) ?_
          refine lv_istore_n hx hb dX5_find_51 rfl hl (by decide) rfl (fun ls hl => ?_)
          have hl : lv_has ls 5 [(3, .int (rfF i sb (k))), (0, .ref (b 0)), (1, .int i), (2, .int sb), (4, .int (nI (k)))] := hl
          have e5 : (rfF i sb (k) : Int32) = rfF i sb (k + 1) := by simp only [rfF, if_pos hc1, if_neg hc3, if_neg hc4]
          have hl : lv_has ls 5 [(3, .int (rfF i sb (k + 1))), (0, .ref (b 0)), (1, .int i), (2, .int sb), (4, .int (nI (k)))] := Eq.mp (congrArg (fun zz9 : Int32 => lv_has ls 5 [(3, .int zz9), (0, .ref (b 0)), (1, .int i), (2, .int sb), (4, .int (nI (k)))]) e5) hl
          refine lv_iinc (k := 4) (v := nI ((k) + 1)) hx hb dX5_find_52 hl rfl (nI_1 (k)) (by decide) rfl (fun ls hl => ?_)
          have hl : lv_has ls 5 [(4, .int (nI ((k) + 1))), (3, .int (rfF i sb (k + 1))), (0, .ref (b 0)), (1, .int i), (2, .int sb)] := hl
          refine lv_goto (tgt := 6) hx hb dX5_find_55 (by decide) ?_
          exact ih_lp (k + 1) ls (by omega) (lv_sub hl [2, 3, 4, 1, 0] rfl)
        refine lv_iconst (v := (-1)) hx hb dX5_find_46 (by decide) ?_
        refine lv_goto (tgt := 51) hx hb dX5_find_47 (by decide) ?_
        refine lv_istore_n hx hb dX5_find_51 rfl hl (by decide) rfl (fun ls hl => ?_)
        have hl : lv_has ls 5 [(3, .int (-1)), (0, .ref (b 0)), (1, .int i), (2, .int sb), (4, .int (nI (k)))] := hl
        have e6 : ((-1) : Int32) = rfF i sb (k + 1) := by simp only [rfF, if_pos hc1, if_neg hc3, if_pos hc4]
        have hl : lv_has ls 5 [(3, .int (rfF i sb (k + 1))), (0, .ref (b 0)), (1, .int i), (2, .int sb), (4, .int (nI (k)))] := Eq.mp (congrArg (fun zz9 : Int32 => lv_has ls 5 [(3, .int zz9), (0, .ref (b 0)), (1, .int i), (2, .int sb), (4, .int (nI (k)))]) e6) hl
        refine lv_iinc (k := 4) (v := nI ((k) + 1)) hx hb dX5_find_52 hl rfl (nI_1 (k)) (by decide) rfl (fun ls hl => ?_)
        have hl : lv_has ls 5 [(4, .int (nI ((k) + 1))), (3, .int (rfF i sb (k + 1))), (0, .ref (b 0)), (1, .int i), (2, .int sb)] := hl
        refine lv_goto (tgt := 6) hx hb dX5_find_55 (by decide) ?_
        exact ih_lp (k + 1) ls (by omega) (lv_sub hl [2, 3, 4, 1, 0] rfl)
      refine lv_iload hx hb dX5_find_35 (lv_at hl 4 rfl) ?_
      refine lv_goto (tgt := 51) hx hb dX5_find_37 (by decide) ?_
      refine lv_istore_n hx hb dX5_find_51 rfl hl (by decide) rfl (fun ls hl => ?_)
      have hl : lv_has ls 5 [(3, .int (nI (k))), (0, .ref (b 0)), (1, .int i), (2, .int sb), (4, .int (nI (k)))] := hl
      have e7 : (nI (k) : Int32) = rfF i sb (k + 1) := by simp only [rfF, if_pos hc1, if_pos hc3]
      have hl : lv_has ls 5 [(3, .int (rfF i sb (k + 1))), (0, .ref (b 0)), (1, .int i), (2, .int sb), (4, .int (nI (k)))] := Eq.mp (congrArg (fun zz9 : Int32 => lv_has ls 5 [(3, .int zz9), (0, .ref (b 0)), (1, .int i), (2, .int sb), (4, .int (nI (k)))]) e7) hl
      refine lv_iinc (k := 4) (v := nI ((k) + 1)) hx hb dX5_find_52 hl rfl (nI_1 (k)) (by decide) rfl (fun ls hl => ?_)
      have hl : lv_has ls 5 [(4, .int (nI ((k) + 1))), (3, .int (rfF i sb (k + 1))), (0, .ref (b 0)), (1, .int i), (2, .int sb)] := hl
      refine lv_goto (tgt := 6) hx hb dX5_find_55 (by decide) ?_
      exact ih_lp (k + 1) ls (by omega) (lv_sub hl [2, 3, 4, 1, 0] rfl)
  exact lp (22 - 0) (0) ls (by omega) (lv_sub hl [2, 3, 4, 1, 0] rfl)
set_option maxHeartbeats 4000000 in
set_option maxRecDepth 100000 in
theorem r_lengthT (l : Launch) (D : va_G) (b : Nat → Nat) (cA cJ : ClassId) (N : Int32) (f : Nat → Int32) (o : RO) (t : RT) (nd : ND) (q : Int64) (sg th : Int32) (n : Nat) (hB : isB f) (hn4 : n ≤ 4) : Met l yX5_lengthOf (wX5_lengthOf :: wb) ({ frames := 1, cells := 0, slots := 0, locals := 24 } : Room) (va_Pc [.ref (b 0), .int 3, .int (nI n)] (zPu D [(cA, .int), (cJ, .long)] (rw0 b cA cJ N f o t nd q sg th))) (zb_I (rL f 3 6 n)) 0 0 (fun _ => False) := by
  refine Met.ofW (cc := cX5_lengthOf) (maxL := 7) (ret := (some .int)) (by decide) rfl ?_
  intro p ev s m args below meth c s₁ B hml hv
  obtain ⟨rfl, hP, hK, hSt, hnw⟩ := hv
  have hx := B.exec
  have hb := B.bytes
  have hr := B.returns
  have hts := atoms_spec (ws := wX5_lengthOf :: wb) B.pre
  have htb : ∀ w ∈ wb, w.before ([.ref (b 0), .int 3, .int (nI n)]).toArray s = true := fun w h => hts w (List.mem_cons_of_mem _ h)
  have hown : s.vm.findClass RX5 = some m.cls := findClass_of_methodNamed B.named
  have hlocks := B.notSynchronized
  have hS : va_S (fun _ => False) s.heap s.heap [] := va_S.rf
  obtain ⟨⟨tt, ff, hZT, hTT, hZF, hTF⟩, hXS⟩ := id hSt
  have hl := lv_entry ([.ref (b 0), .int 3, .int (nI n)]) (n := 7) (Nat.le_of_ble_eq_true rfl)
  rw [lg_entry_eq]
  generalize (lg_sl ([.ref (b 0), .int 3, .int (nI n)]) ++ List.replicate (7 - (lg_sl ([.ref (b 0), .int 3, .int (nI n)])).length) Slot.unset).toArray = ls at hl ⊢
  have hl : lv_has ls 7 [(0, .ref (b 0)), (1, .int 3), (2, .int (nI n))] := hl
  refine zb_abs (fun Q hQ => ?_)
  have e4 : (1 : Int32) = (if mOk f 3 6 0 = true then 1 else 0) := rfl
  refine lv_iconst (v := 0) hx hb dX5_lengthOf_0 (by decide) ?_
  refine lv_istore_n hx hb dX5_lengthOf_1 rfl hl (by decide) rfl (fun ls hl => ?_)
  have hl : lv_has ls 7 [(3, .int 0), (0, .ref (b 0)), (1, .int 3), (2, .int (nI n))] := hl
  refine lv_iconst (v := 1) hx hb dX5_lengthOf_2 (by decide) ?_
  refine lv_istore hx hb dX5_lengthOf_3 hl (by decide) rfl (fun ls hl => ?_)
  have hl : lv_has ls 7 [(4, .int 1), (3, .int 0), (0, .ref (b 0)), (1, .int 3), (2, .int (nI n))] := hl
  refine lv_iconst (v := 1) hx hb dX5_lengthOf_5 (by decide) ?_
  refine lv_istore hx hb dX5_lengthOf_6 hl (by decide) rfl (fun ls hl => ?_)
  have hl : lv_has ls 7 [(5, .int 1), (4, .int 1), (3, .int 0), (0, .ref (b 0)), (1, .int 3), (2, .int (nI n))] := hl
  have lp : ∀ (nn k : Nat) (ls : Array Slot), k + nn = n → lv_has ls 7 [(0, .ref (b 0)), (1, .int 3), (2, .int (nI n)), (3, .int (nI (mL f 3 6 (k)))), (4, .int (if mOk f 3 6 (k) = true then 1 else 0)), (5, .int (nI (k + 1)))] → W p l ev ({ frames := 1, cells := 0, slots := 0, locals := 24 } : Room) s m ([.ref (b 0), .int 3, .int (nI n)]).toArray below meth c s.heap [] 0 0 Q (F0 m 8 ls []) := by
    intro nn
    induction nn with
    | zero =>
      intro k ls hk_lp  hl
      have hk0_lp : k = n := by omega
      refine lv_iload hx hb dX5_lengthOf_8 (lv_at hl 5 rfl) ?_
      refine lv_iload_n hx hb dX5_lengthOf_10 rfl (lv_at hl 2 rfl) ?_
      refine lv_icmp_gt (tgt := 74) hx hb dX5_lengthOf_11 (by decide) (fun _ => ?_) (fun hno => absurd (by rw [hk0_lp]; exact nI_lt (Nat.lt_succ_self _) (by omega)) hno)
      by_cases hc1 : mOk f 3 6 k = true
      · have e2 : ((if mOk f 3 6 (k) = true then 1 else 0) : Int32) = 1 := if_pos hc1
        have hl : lv_has ls 7 [(0, .ref (b 0)), (1, .int 3), (2, .int (nI n)), (3, .int (nI (mL f 3 6 (k)))), (4, .int 1), (5, .int (nI (k + 1)))] := Eq.mp (congrArg (fun zz9 : Int32 => lv_has ls 7 [(0, .ref (b 0)), (1, .int 3), (2, .int (nI n)), (3, .int (nI (mL f 3 6 (k)))), (4, .int zz9), (5, .int (nI (k + 1)))]) e2) hl
        refine lv_iload hx hb dX5_lengthOf_74 (lv_at hl 4 rfl) ?_
        refine lv_if_eq (tgt := 83) hx hb dX5_lengthOf_76 (by decide) (fun hno => absurd hno (by decide)) (fun _ => ?_)
        refine lv_iload_n hx hb dX5_lengthOf_79 rfl (lv_at hl 3 rfl) ?_
        refine lv_goto (tgt := 84) hx hb dX5_lengthOf_80 (by decide) ?_
        rw [hQ]
        exact W.iret (v := nI (mL f 3 6 (k))) hx hb hr (fun t ht hW => ⟨congrArg (fun z => Outcome.returned (some (Value.int z))) (by rw [← hk0_lp]; unfold rL; rw [if_pos hc1]), ht⟩) (fun q h => nomatch h) dX5_lengthOf_84
      · have e3 : ((if mOk f 3 6 (k) = true then 1 else 0) : Int32) = 0 := if_neg hc1
        have hl : lv_has ls 7 [(0, .ref (b 0)), (1, .int 3), (2, .int (nI n)), (3, .int (nI (mL f 3 6 (k)))), (4, .int 0), (5, .int (nI (k + 1)))] := Eq.mp (congrArg (fun zz9 : Int32 => lv_has ls 7 [(0, .ref (b 0)), (1, .int 3), (2, .int (nI n)), (3, .int (nI (mL f 3 6 (k)))), (4, .int zz9), (5, .int (nI (k + 1)))]) e3) hl
        refine lv_iload hx hb dX5_lengthOf_74 (lv_at hl 4 rfl) ?_
        refine lv_if_eq (tgt := 83) hx hb dX5_lengthOf_76 (by decide) (fun _ => ?_) (fun hno => absurd (by decide) hno)
        refine lv_iconst (v := (-1)) hx hb dX5_lengthOf_83 (by decide) ?_
        rw [hQ]
        exact W.iret (v := (-1)) hx hb hr (fun t ht hW => ⟨congrArg (fun z => Outcome.returned (some (Value.int z))) (by rw [← hk0_lp]; unfold rL; rw [if_neg hc1]), ht⟩) (fun q h => nomatch h) dX5_lengthOf_84
    | succ nn ih_lp =>
      intro k ls hk_lp  hl
      have hk1_lp : k < n := by omega
      refine lv_iload hx hb dX5_lengthOf_8 (lv_at hl 5 rfl) ?_
      refine lv_iload_n hx hb dX5_lengthOf_10 rfl (lv_at hl 2 rfl) ?_
      refine lv_icmp_gt (tgt := 74) hx hb dX5_lengthOf_11 (by decide) (fun hno => absurd hno (nI_nlt hk1_lp (by omega))) (fun _ => ?_)
      have hz4 := (by decide : ∀ k, k < 4 → xZ (3 + (k + 1)) = 4 ∧ 3 + (k + 1) < 22) k (by omega)
      by_cases hc4 : mOk f 3 6 k = true
      · have e5 : ((if mOk f 3 6 (k) = true then 1 else 0) : Int32) = 1 := if_pos hc4
        have hl : lv_has ls 7 [(0, .ref (b 0)), (1, .int 3), (2, .int (nI n)), (3, .int (nI (mL f 3 6 (k)))), (4, .int 1), (5, .int (nI (k + 1)))] := Eq.mp (congrArg (fun zz9 : Int32 => lv_has ls 7 [(0, .ref (b 0)), (1, .int 3), (2, .int (nI n)), (3, .int (nI (mL f 3 6 (k)))), (4, .int zz9), (5, .int (nI (k + 1)))]) e5) hl
        have hz4 := (by decide : ∀ k, k < 4 → xZ (3 + (k + 1)) = 4 ∧ 3 + (k + 1) < 22) k (by omega)
        refine lv_aload_n hx hb dX5_lengthOf_14 rfl (lv_at hl 0 rfl) ?_
        refine lv_aload_n hx hb dX5_lengthOf_15 rfl (lv_at hl 0 rfl) ?_
        refine lv_iload_n hx hb dX5_lengthOf_16 rfl (lv_at hl 1 rfl) ?_
        refine lv_iload hx hb dX5_lengthOf_17 (lv_at hl 5 rfl) ?_
        refine lv_iadd hx hb dX5_lengthOf_19 ?_
        refine zb_ti (nI_add 3 (k + 1)) ?_
        refine zb_ci (va_runV (As := [.int (nI (3 + (k + 1)))]) (rest := [.ref (b 0)]) ⟨hx, hb, hml, hown, htb⟩ (r_number l D b cA cJ N f o t nd q sg th (3 + (k + 1)) hB (by omega)) (cwV 1 htb (wb_V kM_X5_97 kI_X5_number kS_X5_number kN_X5 kD_X5_number) rfl rfl rfl (by decide +kernel) ⟨Nat.le_of_ble_eq_true rfl, Nat.le_of_ble_eq_true rfl⟩) (zp_V 0 rfl rfl hP hK hSt hS hnw) rfl rfl hl.1 rfl (lv_room (Nat.le_of_ble_eq_true rfl)) dX5_lengthOf_20 ⟨Nat.le_of_ble_eq_true rfl, Nat.le_of_ble_eq_true rfl⟩) ?_
        refine zb_ti (y := nI (sm f (xP (3 + (k + 1))) 4)) (by rw [hz4.1]; rfl) ?_
        refine lv_iload_n hx hb dX5_lengthOf_23 rfl (lv_at hl 1 rfl) ?_
        refine zb_ci (va_runS (As := [.int 3]) (rest := [.int (nI (sm f (xP (3 + (k + 1))) 4)), .ref (b 0)]) ⟨hx, hb, hml, hown, htb⟩ (r_rightOf l D b cA cJ N f o t nd q sg th 3) (va_cwS 1 htb (wb_S kM_X5_101 kZ_X5_rightOf kN_X5 kD_X5_rightOf) rfl rfl rfl (by decide +kernel) ⟨Nat.le_of_ble_eq_true rfl, Nat.le_of_ble_eq_true rfl⟩) (zp_S hP hK hSt hS hnw) rfl rfl hl.1 rfl (lv_room (Nat.le_of_ble_eq_true rfl)) dX5_lengthOf_24 ⟨Nat.le_of_ble_eq_true rfl, Nat.le_of_ble_eq_true rfl⟩) ?_
        refine zb_ti (y := nI 2) (if_pos rfl) ?_
        refine zb_ci (va_runV (As := [.int (nI (sm f (xP (3 + (k + 1))) 4)), .int (nI 2)]) (rest := []) ⟨hx, hb, hml, hown, htb⟩ (r_named l D b cA cJ N f o t nd q sg th (nI (sm f (xP (3 + (k + 1))) 4)) 2 (by decide) (by decide)) (cwV 2 htb (wb_V kM_X5_104 kI_X5_named kS_X5_named kN_X5 kD_X5_named) rfl rfl rfl (by decide +kernel) ⟨Nat.le_of_ble_eq_true rfl, Nat.le_of_ble_eq_true rfl⟩) (zp_V 0 rfl rfl hP hK hSt hS hnw) rfl rfl hl.1 rfl (lv_room (Nat.le_of_ble_eq_true rfl)) dX5_lengthOf_27 ⟨Nat.le_of_ble_eq_true rfl, Nat.le_of_ble_eq_true rfl⟩) ?_
        refine zb_ti (y := oI (mE f 3 6 (k + 1))) (rfl) ?_
        cases hme : mE f 3 6 (k + 1) with
        | none =>
          refine zb_ti (y := (-1)) (rfl) ?_
          refine lv_istore hx hb dX5_lengthOf_30 hl (by decide) rfl (fun ls hl => ?_)
          have hl : lv_has ls 7 [(6, .int (-1)), (0, .ref (b 0)), (1, .int 3), (2, .int (nI n)), (3, .int (nI (mL f 3 6 (k)))), (4, .int 1), (5, .int (nI (k + 1)))] := hl
          refine lv_iload hx hb dX5_lengthOf_32 (lv_at hl 5 rfl) ?_
          refine lv_if_eq (tgt := 46) hx hb dX5_lengthOf_34 (by decide) (fun hno => absurd hno (by decide)) (fun _ => ?_)
          refine lv_iload hx hb dX5_lengthOf_37 (lv_at hl 0 rfl) ?_
          refine lv_if_lt (tgt := 46) hx hb dX5_lengthOf_39 (by decide) (fun _ => ?_) (fun hno => absurd (by decide) hno)
          refine lv_iconst (v := 0) hx hb dX5_lengthOf_46 (by decide) ?_
          refine lv_istore hx hb dX5_lengthOf_47 hl (by decide) rfl (fun ls hl => ?_)
          have hl : lv_has ls 7 [(4, .int 0), (6, .int (-1)), (0, .ref (b 0)), (1, .int 3), (2, .int (nI n)), (3, .int (nI (mL f 3 6 (k)))), (5, .int (nI (k + 1)))] := hl
          refine lv_iload hx hb dX5_lengthOf_49 (lv_at hl 1 rfl) ?_
          refine lv_if_lt (tgt := 66) hx hb dX5_lengthOf_51 (by decide) (fun _ => ?_) (fun hno => absurd (by decide) hno)
          refine lv_iload_n hx hb dX5_lengthOf_66 rfl (lv_at hl 5 rfl) ?_
          refine zb_ti (y := nI (mL f 3 6 (k + 1))) (by rw [mL_n hme]) ?_
          refine lv_istore_n hx hb dX5_lengthOf_67 rfl hl (by decide) rfl (fun ls hl => ?_)
          have hl : lv_has ls 7 [(3, .int (nI (mL f 3 6 (k + 1)))), (4, .int 0), (6, .int (-1)), (0, .ref (b 0)), (1, .int 3), (2, .int (nI n)), (5, .int (nI (k + 1)))] := hl
          have e6 : (0 : Int32) = (if mOk f 3 6 (k + 1) = true then 1 else 0) := (if_neg (by rw [mOk_n hme (Nat.le_refl _)]; decide)).symm
          have hl : lv_has ls 7 [(3, .int (nI (mL f 3 6 (k + 1)))), (4, .int (if mOk f 3 6 (k + 1) = true then 1 else 0)), (6, .int (-1)), (0, .ref (b 0)), (1, .int 3), (2, .int (nI n)), (5, .int (nI (k + 1)))] := Eq.mp (congrArg (fun zz9 : Int32 => lv_has ls 7 [(3, .int (nI (mL f 3 6 (k + 1)))), (4, .int zz9), (6, .int (-1)), (0, .ref (b 0)), (1, .int 3), (2, .int (nI n)), (5, .int (nI (k + 1)))]) e6) hl
          refine lv_iinc (k := 6) (v := nI ((k + 1) + 1)) hx hb dX5_lengthOf_68 hl rfl (nI_1 (k + 1)) (by decide) rfl (fun ls hl => ?_)
          have hl : lv_has ls 7 [(5, .int (nI ((k + 1) + 1))), (3, .int (nI (mL f 3 6 (k + 1)))), (4, .int (if mOk f 3 6 (k + 1) = true then 1 else 0)), (6, .int (-1)), (0, .ref (b 0)), (1, .int 3), (2, .int (nI n))] := hl
          refine lv_goto (tgt := 8) hx hb dX5_lengthOf_71 (by decide) ?_
          exact ih_lp (k + 1) ls (by omega) (lv_sub hl [4, 5, 6, 1, 2, 0] rfl)
        | some e9 =>
          refine zb_ti (y := nI e9) (rfl) ?_
          have h22_e9 : e9 < 22 := mE_lt hme
          have hft_e9 := x_fit e9 h22_e9
          refine lv_istore hx hb dX5_lengthOf_30 hl (by decide) rfl (fun ls hl => ?_)
          have hl : lv_has ls 7 [(6, .int (nI e9)), (0, .ref (b 0)), (1, .int 3), (2, .int (nI n)), (3, .int (nI (mL f 3 6 (k)))), (4, .int 1), (5, .int (nI (k + 1)))] := hl
          refine lv_iload hx hb dX5_lengthOf_32 (lv_at hl 5 rfl) ?_
          refine lv_if_eq (tgt := 46) hx hb dX5_lengthOf_34 (by decide) (fun hno => absurd hno (by decide)) (fun _ => ?_)
          refine lv_iload hx hb dX5_lengthOf_37 (lv_at hl 0 rfl) ?_
          refine lv_if_lt (tgt := 46) hx hb dX5_lengthOf_39 (by decide) (fun hno => absurd hno (ni_nlt0 h22_e9)) (fun _ => ?_)
          refine lv_iconst (v := 1) hx hb dX5_lengthOf_42 (by decide) ?_
          refine lv_goto (tgt := 47) hx hb dX5_lengthOf_43 (by decide) ?_
          refine lv_istore hx hb dX5_lengthOf_47 hl (by decide) rfl (fun ls hl => ?_)
          have hl : lv_has ls 7 [(4, .int 1), (6, .int (nI e9)), (0, .ref (b 0)), (1, .int 3), (2, .int (nI n)), (3, .int (nI (mL f 3 6 (k)))), (5, .int (nI (k + 1)))] := hl
          refine lv_iload hx hb dX5_lengthOf_49 (lv_at hl 1 rfl) ?_
          refine lv_if_lt (tgt := 66) hx hb dX5_lengthOf_51 (by decide) (fun hno => absurd hno (ni_nlt0 h22_e9)) (fun _ => ?_)
          refine lv_iload_n hx hb dX5_lengthOf_54 rfl (lv_at hl 5 rfl) ?_
          refine lv_aload_n hx hb dX5_lengthOf_55 rfl (lv_at hl 2 rfl) ?_
          refine va_get (D := D) (ci := 5) (v := .ref (b 3)) (fs := [.int th, .int N, .ref (b 1), .ref (b 2), .ref (b 3), .ref (b 4), .ref (b 5), .ref (b 6), .int 22, .int 95, .int nd.1, .int nd.2.2.1, .int nd.2.1, .long nd.2.2.2, .int t.2.1, .int t.2.2.1, .int t.2.2.2.1, .int t.2.2.2.2.1, .int t.2.2.2.2.2, .ref (b 7), .long q, .int sg, .ref (b 8), .ref (b 9), .ref (b 10), .int o.2.2.2.1, .int o.2.2.2.2]) (C := RX5) (T := TX5) (N := 27) hx hb htb inX5 hown hK hP 0 rfl rfl 4 (by decide) (htb _ kF_X5_16) (fun _ h9 => h9) rfl dX5_lengthOf_56 ?_
          refine lv_iload hx hb dX5_lengthOf_59 (lv_at hl 1 rfl) ?_
          refine va_iald (i := nI e9) hx hb hK hP 3 0 rfl rfl (vp_in_nI (by omega) (by decide)) dX5_lengthOf_61 ?_
          refine zb_ti (y := nI (xZ e9)) (by rw [nI_clamp (by omega)]) ?_
          refine lv_iadd hx hb dX5_lengthOf_62 ?_
          refine zb_ti (nI_add (mL f 3 6 (k)) (xZ e9)) ?_
          refine lv_goto (tgt := 67) hx hb dX5_lengthOf_63 (by decide) ?_
          refine zb_ti (y := nI (mL f 3 6 (k + 1))) (by rw [mL_s hme]) ?_
          refine lv_istore_n hx hb dX5_lengthOf_67 rfl hl (by decide) rfl (fun ls hl => ?_)
          have hl : lv_has ls 7 [(3, .int (nI (mL f 3 6 (k + 1)))), (4, .int 1), (6, .int (nI e9)), (0, .ref (b 0)), (1, .int 3), (2, .int (nI n)), (5, .int (nI (k + 1)))] := hl
          have e7 : (1 : Int32) = (if mOk f 3 6 (k + 1) = true then 1 else 0) := (if_pos (mOk_s hc4 hme)).symm
          have hl : lv_has ls 7 [(3, .int (nI (mL f 3 6 (k + 1)))), (4, .int (if mOk f 3 6 (k + 1) = true then 1 else 0)), (6, .int (nI e9)), (0, .ref (b 0)), (1, .int 3), (2, .int (nI n)), (5, .int (nI (k + 1)))] := Eq.mp (congrArg (fun zz9 : Int32 => lv_has ls 7 [(3, .int (nI (mL f 3 6 (k + 1)))), (4, .int zz9), (6, .int (nI e9)), (0, .ref (b 0)), (1, .int 3), (2, .int (nI n)), (5, .int (nI (k + 1)))]) e7) hl
          refine lv_iinc (k := 6) (v := nI ((k + 1) + 1)) hx hb dX5_lengthOf_68 hl rfl (nI_1 (k + 1)) (by decide) rfl (fun ls hl => ?_)
          have hl : lv_has ls 7 [(5, .int (nI ((k + 1) + 1))), (3, .int (nI (mL f 3 6 (k + 1)))), (4, .int (if mOk f 3 6 (k + 1) = true then 1 else 0)), (6, .int (nI e9)), (0, .ref (b 0)), (1, .int 3), (2, .int (nI n))] := hl
          refine lv_goto (tgt := 8) hx hb dX5_lengthOf_71 (by decide) ?_
          exact ih_lp (k + 1) ls (by omega) (lv_sub hl [4, 5, 6, 1, 2, 0] rfl)
      · have e8 : ((if mOk f 3 6 (k) = true then 1 else 0) : Int32) = 0 := if_neg hc4
        have hl : lv_has ls 7 [(0, .ref (b 0)), (1, .int 3), (2, .int (nI n)), (3, .int (nI (mL f 3 6 (k)))), (4, .int 0), (5, .int (nI (k + 1)))] := Eq.mp (congrArg (fun zz9 : Int32 => lv_has ls 7 [(0, .ref (b 0)), (1, .int 3), (2, .int (nI n)), (3, .int (nI (mL f 3 6 (k)))), (4, .int zz9), (5, .int (nI (k + 1)))]) e8) hl
        have hz4 := (by decide : ∀ k, k < 4 → xZ (3 + (k + 1)) = 4 ∧ 3 + (k + 1) < 22) k (by omega)
        refine lv_aload_n hx hb dX5_lengthOf_14 rfl (lv_at hl 0 rfl) ?_
        refine lv_aload_n hx hb dX5_lengthOf_15 rfl (lv_at hl 0 rfl) ?_
        refine lv_iload_n hx hb dX5_lengthOf_16 rfl (lv_at hl 1 rfl) ?_
        refine lv_iload hx hb dX5_lengthOf_17 (lv_at hl 5 rfl) ?_
        refine lv_iadd hx hb dX5_lengthOf_19 ?_
        refine zb_ti (nI_add 3 (k + 1)) ?_
        refine zb_ci (va_runV (As := [.int (nI (3 + (k + 1)))]) (rest := [.ref (b 0)]) ⟨hx, hb, hml, hown, htb⟩ (r_number l D b cA cJ N f o t nd q sg th (3 + (k + 1)) hB (by omega)) (cwV 1 htb (wb_V kM_X5_97 kI_X5_number kS_X5_number kN_X5 kD_X5_number) rfl rfl rfl (by decide +kernel) ⟨Nat.le_of_ble_eq_true rfl, Nat.le_of_ble_eq_true rfl⟩) (zp_V 0 rfl rfl hP hK hSt hS hnw) rfl rfl hl.1 rfl (lv_room (Nat.le_of_ble_eq_true rfl)) dX5_lengthOf_20 ⟨Nat.le_of_ble_eq_true rfl, Nat.le_of_ble_eq_true rfl⟩) ?_
        refine zb_ti (y := nI (sm f (xP (3 + (k + 1))) 4)) (by rw [hz4.1]; rfl) ?_
        refine lv_iload_n hx hb dX5_lengthOf_23 rfl (lv_at hl 1 rfl) ?_
        refine zb_ci (va_runS (As := [.int 3]) (rest := [.int (nI (sm f (xP (3 + (k + 1))) 4)), .ref (b 0)]) ⟨hx, hb, hml, hown, htb⟩ (r_rightOf l D b cA cJ N f o t nd q sg th 3) (va_cwS 1 htb (wb_S kM_X5_101 kZ_X5_rightOf kN_X5 kD_X5_rightOf) rfl rfl rfl (by decide +kernel) ⟨Nat.le_of_ble_eq_true rfl, Nat.le_of_ble_eq_true rfl⟩) (zp_S hP hK hSt hS hnw) rfl rfl hl.1 rfl (lv_room (Nat.le_of_ble_eq_true rfl)) dX5_lengthOf_24 ⟨Nat.le_of_ble_eq_true rfl, Nat.le_of_ble_eq_true rfl⟩) ?_
        refine zb_ti (y := nI 2) (if_pos rfl) ?_
        refine zb_ci (va_runV (As := [.int (nI (sm f (xP (3 + (k + 1))) 4)), .int (nI 2)]) (rest := []) ⟨hx, hb, hml, hown, htb⟩ (r_named l D b cA cJ N f o t nd q sg th (nI (sm f (xP (3 + (k + 1))) 4)) 2 (by decide) (by decide)) (cwV 2 htb (wb_V kM_X5_104 kI_X5_named kS_X5_named kN_X5 kD_X5_named) rfl rfl rfl (by decide +kernel) ⟨Nat.le_of_ble_eq_true rfl, Nat.le_of_ble_eq_true rfl⟩) (zp_V 0 rfl rfl hP hK hSt hS hnw) rfl rfl hl.1 rfl (lv_room (Nat.le_of_ble_eq_true rfl)) dX5_lengthOf_27 ⟨Nat.le_of_ble_eq_true rfl, Nat.le_of_ble_eq_true rfl⟩) ?_
        refine zb_ti (y := oI (mE f 3 6 (k + 1))) (rfl) ?_
        cases hme : mE f 3 6 (k + 1) with
        | none =>
          refine zb_ti (y := (-1)) (rfl) ?_
          refine lv_istore hx hb dX5_lengthOf_30 hl (by decide) rfl (fun ls hl => ?_)
          have hl : lv_has ls 7 [(6, .int (-1)), (0, .ref (b 0)), (1, .int 3), (2, .int (nI n)), (3, .int (nI (mL f 3 6 (k)))), (4, .int 0), (5, .int (nI (k + 1)))] := hl
          refine lv_iload hx hb dX5_lengthOf_32 (lv_at hl 5 rfl) ?_
          refine lv_if_eq (tgt := 46) hx hb dX5_lengthOf_34 (by decide) (fun _ => ?_) (fun hno => absurd (by decide) hno)
          refine lv_iconst (v := 0) hx hb dX5_lengthOf_46 (by decide) ?_
          refine lv_istore hx hb dX5_lengthOf_47 hl (by decide) rfl (fun ls hl => ?_)
          have hl : lv_has ls 7 [(4, .int 0), (6, .int (-1)), (0, .ref (b 0)), (1, .int 3), (2, .int (nI n)), (3, .int (nI (mL f 3 6 (k)))), (5, .int (nI (k + 1)))] := hl
          refine lv_iload hx hb dX5_lengthOf_49 (lv_at hl 1 rfl) ?_
          refine lv_if_lt (tgt := 66) hx hb dX5_lengthOf_51 (by decide) (fun _ => ?_) (fun hno => absurd (by decide) hno)
          refine lv_iload_n hx hb dX5_lengthOf_66 rfl (lv_at hl 5 rfl) ?_
          refine zb_ti (y := nI (mL f 3 6 (k + 1))) (by rw [mL_n hme]) ?_
          refine lv_istore_n hx hb dX5_lengthOf_67 rfl hl (by decide) rfl (fun ls hl => ?_)
          have hl : lv_has ls 7 [(3, .int (nI (mL f 3 6 (k + 1)))), (4, .int 0), (6, .int (-1)), (0, .ref (b 0)), (1, .int 3), (2, .int (nI n)), (5, .int (nI (k + 1)))] := hl
          have e9 : (0 : Int32) = (if mOk f 3 6 (k + 1) = true then 1 else 0) := (if_neg (by rw [mOk_n hme (Nat.le_refl _)]; decide)).symm
          have hl : lv_has ls 7 [(3, .int (nI (mL f 3 6 (k + 1)))), (4, .int (if mOk f 3 6 (k + 1) = true then 1 else 0)), (6, .int (-1)), (0, .ref (b 0)), (1, .int 3), (2, .int (nI n)), (5, .int (nI (k + 1)))] := Eq.mp (congrArg (fun zz9 : Int32 => lv_has ls 7 [(3, .int (nI (mL f 3 6 (k + 1)))), (4, .int zz9), (6, .int (-1)), (0, .ref (b 0)), (1, .int 3), (2, .int (nI n)), (5, .int (nI (k + 1)))]) e9) hl
          refine lv_iinc (k := 6) (v := nI ((k + 1) + 1)) hx hb dX5_lengthOf_68 hl rfl (nI_1 (k + 1)) (by decide) rfl (fun ls hl => ?_)
          have hl : lv_has ls 7 [(5, .int (nI ((k + 1) + 1))), (3, .int (nI (mL f 3 6 (k + 1)))), (4, .int (if mOk f 3 6 (k + 1) = true then 1 else 0)), (6, .int (-1)), (0, .ref (b 0)), (1, .int 3), (2, .int (nI n))] := hl
          refine lv_goto (tgt := 8) hx hb dX5_lengthOf_71 (by decide) ?_
          exact ih_lp (k + 1) ls (by omega) (lv_sub hl [4, 5, 6, 1, 2, 0] rfl)
        | some e9 =>
          refine zb_ti (y := nI e9) (rfl) ?_
          have h22_e9 : e9 < 22 := mE_lt hme
          have hft_e9 := x_fit e9 h22_e9
          refine lv_istore hx hb dX5_lengthOf_30 hl (by decide) rfl (fun ls hl => ?_)
          have hl : lv_has ls 7 [(6, .int (nI e9)), (0, .ref (b 0)), (1, .int 3), (2, .int (nI n)), (3, .int (nI (mL f 3 6 (k)))), (4, .int 0), (5, .int (nI (k + 1)))] := hl
          refine lv_iload hx hb dX5_lengthOf_32 (lv_at hl 5 rfl) ?_
          refine lv_if_eq (tgt := 46) hx hb dX5_lengthOf_34 (by decide) (fun _ => ?_) (fun hno => absurd (by decide) hno)
          refine lv_iconst (v := 0) hx hb dX5_lengthOf_46 (by decide) ?_
          refine lv_istore hx hb dX5_lengthOf_47 hl (by decide) rfl (fun ls hl => ?_)
          have hl : lv_has ls 7 [(4, .int 0), (6, .int (nI e9)), (0, .ref (b 0)), (1, .int 3), (2, .int (nI n)), (3, .int (nI (mL f 3 6 (k)))), (5, .int (nI (k + 1)))] := hl
          refine lv_iload hx hb dX5_lengthOf_49 (lv_at hl 1 rfl) ?_
          refine lv_if_lt (tgt := 66) hx hb dX5_lengthOf_51 (by decide) (fun hno => absurd hno (ni_nlt0 h22_e9)) (fun _ => ?_)
          refine lv_iload_n hx hb dX5_lengthOf_54 rfl (lv_at hl 5 rfl) ?_
          refine lv_aload_n hx hb dX5_lengthOf_55 rfl (lv_at hl 2 rfl) ?_
          refine va_get (D := D) (ci := 5) (v := .ref (b 3)) (fs := [.int th, .int N, .ref (b 1), .ref (b 2), .ref (b 3), .ref (b 4), .ref (b 5), .ref (b 6), .int 22, .int 95, .int nd.1, .int nd.2.2.1, .int nd.2.1, .long nd.2.2.2, .int t.2.1, .int t.2.2.1, .int t.2.2.2.1, .int t.2.2.2.2.1, .int t.2.2.2.2.2, .ref (b 7), .long q, .int sg, .ref (b 8), .ref (b 9), .ref (b 10), .int o.2.2.2.1, .int o.2.2.2.2]) (C := RX5) (T := TX5) (N := 27) hx hb htb inX5 hown hK hP 0 rfl rfl 4 (by decide) (htb _ kF_X5_16) (fun _ h9 => h9) rfl dX5_lengthOf_56 ?_
          refine lv_iload hx hb dX5_lengthOf_59 (lv_at hl 1 rfl) ?_
          refine va_iald (i := nI e9) hx hb hK hP 3 0 rfl rfl (vp_in_nI (by omega) (by decide)) dX5_lengthOf_61 ?_
          refine zb_ti (y := nI (xZ e9)) (by rw [nI_clamp (by omega)]) ?_
          refine lv_iadd hx hb dX5_lengthOf_62 ?_
          refine zb_ti (nI_add (mL f 3 6 (k)) (xZ e9)) ?_
          refine lv_goto (tgt := 67) hx hb dX5_lengthOf_63 (by decide) ?_
          refine zb_ti (y := nI (mL f 3 6 (k + 1))) (by rw [mL_s hme]) ?_
          refine lv_istore_n hx hb dX5_lengthOf_67 rfl hl (by decide) rfl (fun ls hl => ?_)
          have hl : lv_has ls 7 [(3, .int (nI (mL f 3 6 (k + 1)))), (4, .int 0), (6, .int (nI e9)), (0, .ref (b 0)), (1, .int 3), (2, .int (nI n)), (5, .int (nI (k + 1)))] := hl
          have e10 : (0 : Int32) = (if mOk f 3 6 (k + 1) = true then 1 else 0) := (if_neg (fun h9 => hc4 (mOk_mono (Nat.le_succ k) h9))).symm
          have hl : lv_has ls 7 [(3, .int (nI (mL f 3 6 (k + 1)))), (4, .int (if mOk f 3 6 (k + 1) = true then 1 else 0)), (6, .int (nI e9)), (0, .ref (b 0)), (1, .int 3), (2, .int (nI n)), (5, .int (nI (k + 1)))] := Eq.mp (congrArg (fun zz9 : Int32 => lv_has ls 7 [(3, .int (nI (mL f 3 6 (k + 1)))), (4, .int zz9), (6, .int (nI e9)), (0, .ref (b 0)), (1, .int 3), (2, .int (nI n)), (5, .int (nI (k + 1)))]) e10) hl
          refine lv_iinc (k := 6) (v := nI ((k + 1) + 1)) hx hb dX5_lengthOf_68 hl rfl (nI_1 (k + 1)) (by decide) rfl (fun ls hl => ?_)
          have hl : lv_has ls 7 [(5, .int (nI ((k + 1) + 1))), (3, .int (nI (mL f 3 6 (k + 1)))), (4, .int (if mOk f 3 6 (k + 1) = true then 1 else 0)), (6, .int (nI e9)), (0, .ref (b 0)), (1, .int 3), (2, .int (nI n))] := hl
          refine lv_goto (tgt := 8) hx hb dX5_lengthOf_71 (by decide) ?_
          exact ih_lp (k + 1) ls (by omega) (lv_sub hl [4, 5, 6, 1, 2, 0] rfl)
  exact lp (n - 0) (0) ls (by omega) (lv_sub hl [3, 4, 5, 2, 1, 0] rfl)
set_option maxHeartbeats 4000000 in
set_option maxRecDepth 100000 in
theorem r_lengthG (l : Launch) (D : va_G) (b : Nat → Nat) (cA cJ : ClassId) (N : Int32) (f : Nat → Int32) (o : RO) (t : RT) (nd : ND) (q : Int64) (sg th : Int32) (n : Nat) (hB : isB f) (hn4 : n ≤ 4) : Met l yX5_lengthOf (wX5_lengthOf :: wb) ({ frames := 1, cells := 0, slots := 0, locals := 24 } : Room) (va_Pc [.ref (b 0), .int 9, .int (nI n)] (zPu D [(cA, .int), (cJ, .long)] (rw0 b cA cJ N f o t nd q sg th))) (zb_I (rL f 9 5 n)) 0 0 (fun _ => False) := by
  refine Met.ofW (cc := cX5_lengthOf) (maxL := 7) (ret := (some .int)) (by decide) rfl ?_
  intro p ev s m args below meth c s₁ B hml hv
  obtain ⟨rfl, hP, hK, hSt, hnw⟩ := hv
  have hx := B.exec
  have hb := B.bytes
  have hr := B.returns
  have hts := atoms_spec (ws := wX5_lengthOf :: wb) B.pre
  have htb : ∀ w ∈ wb, w.before ([.ref (b 0), .int 9, .int (nI n)]).toArray s = true := fun w h => hts w (List.mem_cons_of_mem _ h)
  have hown : s.vm.findClass RX5 = some m.cls := findClass_of_methodNamed B.named
  have hlocks := B.notSynchronized
  have hS : va_S (fun _ => False) s.heap s.heap [] := va_S.rf
  obtain ⟨⟨tt, ff, hZT, hTT, hZF, hTF⟩, hXS⟩ := id hSt
  have hl := lv_entry ([.ref (b 0), .int 9, .int (nI n)]) (n := 7) (Nat.le_of_ble_eq_true rfl)
  rw [lg_entry_eq]
  generalize (lg_sl ([.ref (b 0), .int 9, .int (nI n)]) ++ List.replicate (7 - (lg_sl ([.ref (b 0), .int 9, .int (nI n)])).length) Slot.unset).toArray = ls at hl ⊢
  have hl : lv_has ls 7 [(0, .ref (b 0)), (1, .int 9), (2, .int (nI n))] := hl
  refine zb_abs (fun Q hQ => ?_)
  have e4 : (1 : Int32) = (if mOk f 9 5 0 = true then 1 else 0) := rfl
  refine lv_iconst (v := 0) hx hb dX5_lengthOf_0 (by decide) ?_
  refine lv_istore_n hx hb dX5_lengthOf_1 rfl hl (by decide) rfl (fun ls hl => ?_)
  have hl : lv_has ls 7 [(3, .int 0), (0, .ref (b 0)), (1, .int 9), (2, .int (nI n))] := hl
  refine lv_iconst (v := 1) hx hb dX5_lengthOf_2 (by decide) ?_
  refine lv_istore hx hb dX5_lengthOf_3 hl (by decide) rfl (fun ls hl => ?_)
  have hl : lv_has ls 7 [(4, .int 1), (3, .int 0), (0, .ref (b 0)), (1, .int 9), (2, .int (nI n))] := hl
  refine lv_iconst (v := 1) hx hb dX5_lengthOf_5 (by decide) ?_
  refine lv_istore hx hb dX5_lengthOf_6 hl (by decide) rfl (fun ls hl => ?_)
  have hl : lv_has ls 7 [(5, .int 1), (4, .int 1), (3, .int 0), (0, .ref (b 0)), (1, .int 9), (2, .int (nI n))] := hl
  have lp : ∀ (nn k : Nat) (ls : Array Slot), k + nn = n → lv_has ls 7 [(0, .ref (b 0)), (1, .int 9), (2, .int (nI n)), (3, .int (nI (mL f 9 5 (k)))), (4, .int (if mOk f 9 5 (k) = true then 1 else 0)), (5, .int (nI (k + 1)))] → W p l ev ({ frames := 1, cells := 0, slots := 0, locals := 24 } : Room) s m ([.ref (b 0), .int 9, .int (nI n)]).toArray below meth c s.heap [] 0 0 Q (F0 m 8 ls []) := by
    intro nn
    induction nn with
    | zero =>
      intro k ls hk_lp  hl
      have hk0_lp : k = n := by omega
      refine lv_iload hx hb dX5_lengthOf_8 (lv_at hl 5 rfl) ?_
      refine lv_iload_n hx hb dX5_lengthOf_10 rfl (lv_at hl 2 rfl) ?_
      refine lv_icmp_gt (tgt := 74) hx hb dX5_lengthOf_11 (by decide) (fun _ => ?_) (fun hno => absurd (by rw [hk0_lp]; exact nI_lt (Nat.lt_succ_self _) (by omega)) hno)
      by_cases hc1 : mOk f 9 5 k = true
      · have e2 : ((if mOk f 9 5 (k) = true then 1 else 0) : Int32) = 1 := if_pos hc1
        have hl : lv_has ls 7 [(0, .ref (b 0)), (1, .int 9), (2, .int (nI n)), (3, .int (nI (mL f 9 5 (k)))), (4, .int 1), (5, .int (nI (k + 1)))] := Eq.mp (congrArg (fun zz9 : Int32 => lv_has ls 7 [(0, .ref (b 0)), (1, .int 9), (2, .int (nI n)), (3, .int (nI (mL f 9 5 (k)))), (4, .int zz9), (5, .int (nI (k + 1)))]) e2) hl
        refine lv_iload hx hb dX5_lengthOf_74 (lv_at hl 4 rfl) ?_
        refine lv_if_eq (tgt := 83) hx hb dX5_lengthOf_76 (by decide) (fun hno => absurd hno (by decide)) (fun _ => ?_)
        refine lv_iload_n hx hb dX5_lengthOf_79 rfl (lv_at hl 3 rfl) ?_
        refine lv_goto (tgt := 84) hx hb dX5_lengthOf_80 (by decide) ?_
        rw [hQ]
        exact W.iret (v := nI (mL f 9 5 (k))) hx hb hr (fun t ht hW => ⟨congrArg (fun z => Outcome.returned (some (Value.int z))) (by rw [← hk0_lp]; unfold rL; rw [if_pos hc1]), ht⟩) (fun q h => nomatch h) dX5_lengthOf_84
      · have e3 : ((if mOk f 9 5 (k) = true then 1 else 0) : Int32) = 0 := if_neg hc1
        have hl : lv_has ls 7 [(0, .ref (b 0)), (1, .int 9), (2, .int (nI n)), (3, .int (nI (mL f 9 5 (k)))), (4, .int 0), (5, .int (nI (k + 1)))] := Eq.mp (congrArg (fun zz9 : Int32 => lv_has ls 7 [(0, .ref (b 0)), (1, .int 9), (2, .int (nI n)), (3, .int (nI (mL f 9 5 (k)))), (4, .int zz9), (5, .int (nI (k + 1)))]) e3) hl
        refine lv_iload hx hb dX5_lengthOf_74 (lv_at hl 4 rfl) ?_
        refine lv_if_eq (tgt := 83) hx hb dX5_lengthOf_76 (by decide) (fun _ => ?_) (fun hno => absurd (by decide) hno)
        refine lv_iconst (v := (-1)) hx hb dX5_lengthOf_83 (by decide) ?_
        rw [hQ]
        exact W.iret (v := (-1)) hx hb hr (fun t ht hW => ⟨congrArg (fun z => Outcome.returned (some (Value.int z))) (by rw [← hk0_lp]; unfold rL; rw [if_neg hc1]), ht⟩) (fun q h => nomatch h) dX5_lengthOf_84
    | succ nn ih_lp =>
      intro k ls hk_lp  hl
      have hk1_lp : k < n := by omega
      refine lv_iload hx hb dX5_lengthOf_8 (lv_at hl 5 rfl) ?_
      refine lv_iload_n hx hb dX5_lengthOf_10 rfl (lv_at hl 2 rfl) ?_
      refine lv_icmp_gt (tgt := 74) hx hb dX5_lengthOf_11 (by decide) (fun hno => absurd hno (nI_nlt hk1_lp (by omega))) (fun _ => ?_)
      have hz4 := (by decide : ∀ k, k < 4 → xZ (9 + (k + 1)) = 4 ∧ 9 + (k + 1) < 22) k (by omega)
      by_cases hc4 : mOk f 9 5 k = true
      · have e5 : ((if mOk f 9 5 (k) = true then 1 else 0) : Int32) = 1 := if_pos hc4
        have hl : lv_has ls 7 [(0, .ref (b 0)), (1, .int 9), (2, .int (nI n)), (3, .int (nI (mL f 9 5 (k)))), (4, .int 1), (5, .int (nI (k + 1)))] := Eq.mp (congrArg (fun zz9 : Int32 => lv_has ls 7 [(0, .ref (b 0)), (1, .int 9), (2, .int (nI n)), (3, .int (nI (mL f 9 5 (k)))), (4, .int zz9), (5, .int (nI (k + 1)))]) e5) hl
        have hz4 := (by decide : ∀ k, k < 4 → xZ (9 + (k + 1)) = 4 ∧ 9 + (k + 1) < 22) k (by omega)
        refine lv_aload_n hx hb dX5_lengthOf_14 rfl (lv_at hl 0 rfl) ?_
        refine lv_aload_n hx hb dX5_lengthOf_15 rfl (lv_at hl 0 rfl) ?_
        refine lv_iload_n hx hb dX5_lengthOf_16 rfl (lv_at hl 1 rfl) ?_
        refine lv_iload hx hb dX5_lengthOf_17 (lv_at hl 5 rfl) ?_
        refine lv_iadd hx hb dX5_lengthOf_19 ?_
        refine zb_ti (nI_add 9 (k + 1)) ?_
        refine zb_ci (va_runV (As := [.int (nI (9 + (k + 1)))]) (rest := [.ref (b 0)]) ⟨hx, hb, hml, hown, htb⟩ (r_number l D b cA cJ N f o t nd q sg th (9 + (k + 1)) hB (by omega)) (cwV 1 htb (wb_V kM_X5_97 kI_X5_number kS_X5_number kN_X5 kD_X5_number) rfl rfl rfl (by decide +kernel) ⟨Nat.le_of_ble_eq_true rfl, Nat.le_of_ble_eq_true rfl⟩) (zp_V 0 rfl rfl hP hK hSt hS hnw) rfl rfl hl.1 rfl (lv_room (Nat.le_of_ble_eq_true rfl)) dX5_lengthOf_20 ⟨Nat.le_of_ble_eq_true rfl, Nat.le_of_ble_eq_true rfl⟩) ?_
        refine zb_ti (y := nI (sm f (xP (9 + (k + 1))) 4)) (by rw [hz4.1]; rfl) ?_
        refine lv_iload_n hx hb dX5_lengthOf_23 rfl (lv_at hl 1 rfl) ?_
        refine zb_ci (va_runS (As := [.int 9]) (rest := [.int (nI (sm f (xP (9 + (k + 1))) 4)), .ref (b 0)]) ⟨hx, hb, hml, hown, htb⟩ (r_rightOf l D b cA cJ N f o t nd q sg th 9) (va_cwS 1 htb (wb_S kM_X5_101 kZ_X5_rightOf kN_X5 kD_X5_rightOf) rfl rfl rfl (by decide +kernel) ⟨Nat.le_of_ble_eq_true rfl, Nat.le_of_ble_eq_true rfl⟩) (zp_S hP hK hSt hS hnw) rfl rfl hl.1 rfl (lv_room (Nat.le_of_ble_eq_true rfl)) dX5_lengthOf_24 ⟨Nat.le_of_ble_eq_true rfl, Nat.le_of_ble_eq_true rfl⟩) ?_
        refine zb_ti (y := nI 1) (if_neg (by decide)) ?_
        refine zb_ci (va_runV (As := [.int (nI (sm f (xP (9 + (k + 1))) 4)), .int (nI 1)]) (rest := []) ⟨hx, hb, hml, hown, htb⟩ (r_named l D b cA cJ N f o t nd q sg th (nI (sm f (xP (9 + (k + 1))) 4)) 1 (by decide) (by decide)) (cwV 2 htb (wb_V kM_X5_104 kI_X5_named kS_X5_named kN_X5 kD_X5_named) rfl rfl rfl (by decide +kernel) ⟨Nat.le_of_ble_eq_true rfl, Nat.le_of_ble_eq_true rfl⟩) (zp_V 0 rfl rfl hP hK hSt hS hnw) rfl rfl hl.1 rfl (lv_room (Nat.le_of_ble_eq_true rfl)) dX5_lengthOf_27 ⟨Nat.le_of_ble_eq_true rfl, Nat.le_of_ble_eq_true rfl⟩) ?_
        refine zb_ti (y := oI (mE f 9 5 (k + 1))) (rfl) ?_
        cases hme : mE f 9 5 (k + 1) with
        | none =>
          refine zb_ti (y := (-1)) (rfl) ?_
          refine lv_istore hx hb dX5_lengthOf_30 hl (by decide) rfl (fun ls hl => ?_)
          have hl : lv_has ls 7 [(6, .int (-1)), (0, .ref (b 0)), (1, .int 9), (2, .int (nI n)), (3, .int (nI (mL f 9 5 (k)))), (4, .int 1), (5, .int (nI (k + 1)))] := hl
          refine lv_iload hx hb dX5_lengthOf_32 (lv_at hl 5 rfl) ?_
          refine lv_if_eq (tgt := 46) hx hb dX5_lengthOf_34 (by decide) (fun hno => absurd hno (by decide)) (fun _ => ?_)
          refine lv_iload hx hb dX5_lengthOf_37 (lv_at hl 0 rfl) ?_
          refine lv_if_lt (tgt := 46) hx hb dX5_lengthOf_39 (by decide) (fun _ => ?_) (fun hno => absurd (by decide) hno)
          refine lv_iconst (v := 0) hx hb dX5_lengthOf_46 (by decide) ?_
          refine lv_istore hx hb dX5_lengthOf_47 hl (by decide) rfl (fun ls hl => ?_)
          have hl : lv_has ls 7 [(4, .int 0), (6, .int (-1)), (0, .ref (b 0)), (1, .int 9), (2, .int (nI n)), (3, .int (nI (mL f 9 5 (k)))), (5, .int (nI (k + 1)))] := hl
          refine lv_iload hx hb dX5_lengthOf_49 (lv_at hl 1 rfl) ?_
          refine lv_if_lt (tgt := 66) hx hb dX5_lengthOf_51 (by decide) (fun _ => ?_) (fun hno => absurd (by decide) hno)
          refine lv_iload_n hx hb dX5_lengthOf_66 rfl (lv_at hl 5 rfl) ?_
          refine zb_ti (y := nI (mL f 9 5 (k + 1))) (by rw [mL_n hme]) ?_
          refine lv_istore_n hx hb dX5_lengthOf_67 rfl hl (by decide) rfl (fun ls hl => ?_)
          have hl : lv_has ls 7 [(3, .int (nI (mL f 9 5 (k + 1)))), (4, .int 0), (6, .int (-1)), (0, .ref (b 0)), (1, .int 9), (2, .int (nI n)), (5, .int (nI (k + 1)))] := hl
          have e6 : (0 : Int32) = (if mOk f 9 5 (k + 1) = true then 1 else 0) := (if_neg (by rw [mOk_n hme (Nat.le_refl _)]; decide)).symm
          have hl : lv_has ls 7 [(3, .int (nI (mL f 9 5 (k + 1)))), (4, .int (if mOk f 9 5 (k + 1) = true then 1 else 0)), (6, .int (-1)), (0, .ref (b 0)), (1, .int 9), (2, .int (nI n)), (5, .int (nI (k + 1)))] := Eq.mp (congrArg (fun zz9 : Int32 => lv_has ls 7 [(3, .int (nI (mL f 9 5 (k + 1)))), (4, .int zz9), (6, .int (-1)), (0, .ref (b 0)), (1, .int 9), (2, .int (nI n)), (5, .int (nI (k + 1)))]) e6) hl
          refine lv_iinc (k := 6) (v := nI ((k + 1) + 1)) hx hb dX5_lengthOf_68 hl rfl (nI_1 (k + 1)) (by decide) rfl (fun ls hl => ?_)
          have hl : lv_has ls 7 [(5, .int (nI ((k + 1) + 1))), (3, .int (nI (mL f 9 5 (k + 1)))), (4, .int (if mOk f 9 5 (k + 1) = true then 1 else 0)), (6, .int (-1)), (0, .ref (b 0)), (1, .int 9), (2, .int (nI n))] := hl
          refine lv_goto (tgt := 8) hx hb dX5_lengthOf_71 (by decide) ?_
          exact ih_lp (k + 1) ls (by omega) (lv_sub hl [4, 5, 6, 1, 2, 0] rfl)
        | some e9 =>
          refine zb_ti (y := nI e9) (rfl) ?_
          have h22_e9 : e9 < 22 := mE_lt hme
          have hft_e9 := x_fit e9 h22_e9
          refine lv_istore hx hb dX5_lengthOf_30 hl (by decide) rfl (fun ls hl => ?_)
          have hl : lv_has ls 7 [(6, .int (nI e9)), (0, .ref (b 0)), (1, .int 9), (2, .int (nI n)), (3, .int (nI (mL f 9 5 (k)))), (4, .int 1), (5, .int (nI (k + 1)))] := hl
          refine lv_iload hx hb dX5_lengthOf_32 (lv_at hl 5 rfl) ?_
          refine lv_if_eq (tgt := 46) hx hb dX5_lengthOf_34 (by decide) (fun hno => absurd hno (by decide)) (fun _ => ?_)
          refine lv_iload hx hb dX5_lengthOf_37 (lv_at hl 0 rfl) ?_
          refine lv_if_lt (tgt := 46) hx hb dX5_lengthOf_39 (by decide) (fun hno => absurd hno (ni_nlt0 h22_e9)) (fun _ => ?_)
          refine lv_iconst (v := 1) hx hb dX5_lengthOf_42 (by decide) ?_
          refine lv_goto (tgt := 47) hx hb dX5_lengthOf_43 (by decide) ?_
          refine lv_istore hx hb dX5_lengthOf_47 hl (by decide) rfl (fun ls hl => ?_)
          have hl : lv_has ls 7 [(4, .int 1), (6, .int (nI e9)), (0, .ref (b 0)), (1, .int 9), (2, .int (nI n)), (3, .int (nI (mL f 9 5 (k)))), (5, .int (nI (k + 1)))] := hl
          refine lv_iload hx hb dX5_lengthOf_49 (lv_at hl 1 rfl) ?_
          refine lv_if_lt (tgt := 66) hx hb dX5_lengthOf_51 (by decide) (fun hno => absurd hno (ni_nlt0 h22_e9)) (fun _ => ?_)
          refine lv_iload_n hx hb dX5_lengthOf_54 rfl (lv_at hl 5 rfl) ?_
          refine lv_aload_n hx hb dX5_lengthOf_55 rfl (lv_at hl 2 rfl) ?_
          refine va_get (D := D) (ci := 5) (v := .ref (b 3)) (fs := [.int th, .int N, .ref (b 1), .ref (b 2), .ref (b 3), .ref (b 4), .ref (b 5), .ref (b 6), .int 22, .int 95, .int nd.1, .int nd.2.2.1, .int nd.2.1, .long nd.2.2.2, .int t.2.1, .int t.2.2.1, .int t.2.2.2.1, .int t.2.2.2.2.1, .int t.2.2.2.2.2, .ref (b 7), .long q, .int sg, .ref (b 8), .ref (b 9), .ref (b 10), .int o.2.2.2.1, .int o.2.2.2.2]) (C := RX5) (T := TX5) (N := 27) hx hb htb inX5 hown hK hP 0 rfl rfl 4 (by decide) (htb _ kF_X5_16) (fun _ h9 => h9) rfl dX5_lengthOf_56 ?_
          refine lv_iload hx hb dX5_lengthOf_59 (lv_at hl 1 rfl) ?_
          refine va_iald (i := nI e9) hx hb hK hP 3 0 rfl rfl (vp_in_nI (by omega) (by decide)) dX5_lengthOf_61 ?_
          refine zb_ti (y := nI (xZ e9)) (by rw [nI_clamp (by omega)]) ?_
          refine lv_iadd hx hb dX5_lengthOf_62 ?_
          refine zb_ti (nI_add (mL f 9 5 (k)) (xZ e9)) ?_
          refine lv_goto (tgt := 67) hx hb dX5_lengthOf_63 (by decide) ?_
          refine zb_ti (y := nI (mL f 9 5 (k + 1))) (by rw [mL_s hme]) ?_
          refine lv_istore_n hx hb dX5_lengthOf_67 rfl hl (by decide) rfl (fun ls hl => ?_)
          have hl : lv_has ls 7 [(3, .int (nI (mL f 9 5 (k + 1)))), (4, .int 1), (6, .int (nI e9)), (0, .ref (b 0)), (1, .int 9), (2, .int (nI n)), (5, .int (nI (k + 1)))] := hl
          have e7 : (1 : Int32) = (if mOk f 9 5 (k + 1) = true then 1 else 0) := (if_pos (mOk_s hc4 hme)).symm
          have hl : lv_has ls 7 [(3, .int (nI (mL f 9 5 (k + 1)))), (4, .int (if mOk f 9 5 (k + 1) = true then 1 else 0)), (6, .int (nI e9)), (0, .ref (b 0)), (1, .int 9), (2, .int (nI n)), (5, .int (nI (k + 1)))] := Eq.mp (congrArg (fun zz9 : Int32 => lv_has ls 7 [(3, .int (nI (mL f 9 5 (k + 1)))), (4, .int zz9), (6, .int (nI e9)), (0, .ref (b 0)), (1, .int 9), (2, .int (nI n)), (5, .int (nI (k + 1)))]) e7) hl
          refine lv_iinc (k := 6) (v := nI ((k + 1) + 1)) hx hb dX5_lengthOf_68 hl rfl (nI_1 (k + 1)) (by decide) rfl (fun ls hl => ?_)
          have hl : lv_has ls 7 [(5, .int (nI ((k + 1) + 1))), (3, .int (nI (mL f 9 5 (k + 1)))), (4, .int (if mOk f 9 5 (k + 1) = true then 1 else 0)), (6, .int (nI e9)), (0, .ref (b 0)), (1, .int 9), (2, .int (nI n))] := hl
          refine lv_goto (tgt := 8) hx hb dX5_lengthOf_71 (by decide) ?_
          exact ih_lp (k + 1) ls (by omega) (lv_sub hl [4, 5, 6, 1, 2, 0] rfl)
      · have e8 : ((if mOk f 9 5 (k) = true then 1 else 0) : Int32) = 0 := if_neg hc4
        have hl : lv_has ls 7 [(0, .ref (b 0)), (1, .int 9), (2, .int (nI n)), (3, .int (nI (mL f 9 5 (k)))), (4, .int 0), (5, .int (nI (k + 1)))] := Eq.mp (congrArg (fun zz9 : Int32 => lv_has ls 7 [(0, .ref (b 0)), (1, .int 9), (2, .int (nI n)), (3, .int (nI (mL f 9 5 (k)))), (4, .int zz9), (5, .int (nI (k + 1)))]) e8) hl
        have hz4 := (by decide : ∀ k, k < 4 → xZ (9 + (k + 1)) = 4 ∧ 9 + (k + 1) < 22) k (by omega)
        refine lv_aload_n hx hb dX5_lengthOf_14 rfl (lv_at hl 0 rfl) ?_
        refine lv_aload_n hx hb dX5_lengthOf_15 rfl (lv_at hl 0 rfl) ?_
        refine lv_iload_n hx hb dX5_lengthOf_16 rfl (lv_at hl 1 rfl) ?_
        refine lv_iload hx hb dX5_lengthOf_17 (lv_at hl 5 rfl) ?_
        refine lv_iadd hx hb dX5_lengthOf_19 ?_
        refine zb_ti (nI_add 9 (k + 1)) ?_
        refine zb_ci (va_runV (As := [.int (nI (9 + (k + 1)))]) (rest := [.ref (b 0)]) ⟨hx, hb, hml, hown, htb⟩ (r_number l D b cA cJ N f o t nd q sg th (9 + (k + 1)) hB (by omega)) (cwV 1 htb (wb_V kM_X5_97 kI_X5_number kS_X5_number kN_X5 kD_X5_number) rfl rfl rfl (by decide +kernel) ⟨Nat.le_of_ble_eq_true rfl, Nat.le_of_ble_eq_true rfl⟩) (zp_V 0 rfl rfl hP hK hSt hS hnw) rfl rfl hl.1 rfl (lv_room (Nat.le_of_ble_eq_true rfl)) dX5_lengthOf_20 ⟨Nat.le_of_ble_eq_true rfl, Nat.le_of_ble_eq_true rfl⟩) ?_
        refine zb_ti (y := nI (sm f (xP (9 + (k + 1))) 4)) (by rw [hz4.1]; rfl) ?_
        refine lv_iload_n hx hb dX5_lengthOf_23 rfl (lv_at hl 1 rfl) ?_
        refine zb_ci (va_runS (As := [.int 9]) (rest := [.int (nI (sm f (xP (9 + (k + 1))) 4)), .ref (b 0)]) ⟨hx, hb, hml, hown, htb⟩ (r_rightOf l D b cA cJ N f o t nd q sg th 9) (va_cwS 1 htb (wb_S kM_X5_101 kZ_X5_rightOf kN_X5 kD_X5_rightOf) rfl rfl rfl (by decide +kernel) ⟨Nat.le_of_ble_eq_true rfl, Nat.le_of_ble_eq_true rfl⟩) (zp_S hP hK hSt hS hnw) rfl rfl hl.1 rfl (lv_room (Nat.le_of_ble_eq_true rfl)) dX5_lengthOf_24 ⟨Nat.le_of_ble_eq_true rfl, Nat.le_of_ble_eq_true rfl⟩) ?_
        refine zb_ti (y := nI 1) (if_neg (by decide)) ?_
        refine zb_ci (va_runV (As := [.int (nI (sm f (xP (9 + (k + 1))) 4)), .int (nI 1)]) (rest := []) ⟨hx, hb, hml, hown, htb⟩ (r_named l D b cA cJ N f o t nd q sg th (nI (sm f (xP (9 + (k + 1))) 4)) 1 (by decide) (by decide)) (cwV 2 htb (wb_V kM_X5_104 kI_X5_named kS_X5_named kN_X5 kD_X5_named) rfl rfl rfl (by decide +kernel) ⟨Nat.le_of_ble_eq_true rfl, Nat.le_of_ble_eq_true rfl⟩) (zp_V 0 rfl rfl hP hK hSt hS hnw) rfl rfl hl.1 rfl (lv_room (Nat.le_of_ble_eq_true rfl)) dX5_lengthOf_27 ⟨Nat.le_of_ble_eq_true rfl, Nat.le_of_ble_eq_true rfl⟩) ?_
        refine zb_ti (y := oI (mE f 9 5 (k + 1))) (rfl) ?_
        cases hme : mE f 9 5 (k + 1) with
        | none =>
          refine zb_ti (y := (-1)) (rfl) ?_
          refine lv_istore hx hb dX5_lengthOf_30 hl (by decide) rfl (fun ls hl => ?_)
          have hl : lv_has ls 7 [(6, .int (-1)), (0, .ref (b 0)), (1, .int 9), (2, .int (nI n)), (3, .int (nI (mL f 9 5 (k)))), (4, .int 0), (5, .int (nI (k + 1)))] := hl
          refine lv_iload hx hb dX5_lengthOf_32 (lv_at hl 5 rfl) ?_
          refine lv_if_eq (tgt := 46) hx hb dX5_lengthOf_34 (by decide) (fun _ => ?_) (fun hno => absurd (by decide) hno)
          refine lv_iconst (v := 0) hx hb dX5_lengthOf_46 (by decide) ?_
          refine lv_istore hx hb dX5_lengthOf_47 hl (by decide) rfl (fun ls hl => ?_)
          have hl : lv_has ls 7 [(4, .int 0), (6, .int (-1)), (0, .ref (b 0)), (1, .int 9), (2, .int (nI n)), (3, .int (nI (mL f 9 5 (k)))), (5, .int (nI (k + 1)))] := hl
          refine lv_iload hx hb dX5_lengthOf_49 (lv_at hl 1 rfl) ?_
          refine lv_if_lt (tgt := 66) hx hb dX5_lengthOf_51 (by decide) (fun _ => ?_) (fun hno => absurd (by decide) hno)
          refine lv_iload_n hx hb dX5_lengthOf_66 rfl (lv_at hl 5 rfl) ?_
          refine zb_ti (y := nI (mL f 9 5 (k + 1))) (by rw [mL_n hme]) ?_
          refine lv_istore_n hx hb dX5_lengthOf_67 rfl hl (by decide) rfl (fun ls hl => ?_)
          have hl : lv_has ls 7 [(3, .int (nI (mL f 9 5 (k + 1)))), (4, .int 0), (6, .int (-1)), (0, .ref (b 0)), (1, .int 9), (2, .int (nI n)), (5, .int (nI (k + 1)))] := hl
          have e9 : (0 : Int32) = (if mOk f 9 5 (k + 1) = true then 1 else 0) := (if_neg (by rw [mOk_n hme (Nat.le_refl _)]; decide)).symm
          have hl : lv_has ls 7 [(3, .int (nI (mL f 9 5 (k + 1)))), (4, .int (if mOk f 9 5 (k + 1) = true then 1 else 0)), (6, .int (-1)), (0, .ref (b 0)), (1, .int 9), (2, .int (nI n)), (5, .int (nI (k + 1)))] := Eq.mp (congrArg (fun zz9 : Int32 => lv_has ls 7 [(3, .int (nI (mL f 9 5 (k + 1)))), (4, .int zz9), (6, .int (-1)), (0, .ref (b 0)), (1, .int 9), (2, .int (nI n)), (5, .int (nI (k + 1)))]) e9) hl
          refine lv_iinc (k := 6) (v := nI ((k + 1) + 1)) hx hb dX5_lengthOf_68 hl rfl (nI_1 (k + 1)) (by decide) rfl (fun ls hl => ?_)
          have hl : lv_has ls 7 [(5, .int (nI ((k + 1) + 1))), (3, .int (nI (mL f 9 5 (k + 1)))), (4, .int (if mOk f 9 5 (k + 1) = true then 1 else 0)), (6, .int (-1)), (0, .ref (b 0)), (1, .int 9), (2, .int (nI n))] := hl
          refine lv_goto (tgt := 8) hx hb dX5_lengthOf_71 (by decide) ?_
          exact ih_lp (k + 1) ls (by omega) (lv_sub hl [4, 5, 6, 1, 2, 0] rfl)
        | some e9 =>
          refine zb_ti (y := nI e9) (rfl) ?_
          have h22_e9 : e9 < 22 := mE_lt hme
          have hft_e9 := x_fit e9 h22_e9
          refine lv_istore hx hb dX5_lengthOf_30 hl (by decide) rfl (fun ls hl => ?_)
          have hl : lv_has ls 7 [(6, .int (nI e9)), (0, .ref (b 0)), (1, .int 9), (2, .int (nI n)), (3, .int (nI (mL f 9 5 (k)))), (4, .int 0), (5, .int (nI (k + 1)))] := hl
          refine lv_iload hx hb dX5_lengthOf_32 (lv_at hl 5 rfl) ?_
          refine lv_if_eq (tgt := 46) hx hb dX5_lengthOf_34 (by decide) (fun _ => ?_) (fun hno => absurd (by decide) hno)
          refine lv_iconst (v := 0) hx hb dX5_lengthOf_46 (by decide) ?_
          refine lv_istore hx hb dX5_lengthOf_47 hl (by decide) rfl (fun ls hl => ?_)
          have hl : lv_has ls 7 [(4, .int 0), (6, .int (nI e9)), (0, .ref (b 0)), (1, .int 9), (2, .int (nI n)), (3, .int (nI (mL f 9 5 (k)))), (5, .int (nI (k + 1)))] := hl
          refine lv_iload hx hb dX5_lengthOf_49 (lv_at hl 1 rfl) ?_
          refine lv_if_lt (tgt := 66) hx hb dX5_lengthOf_51 (by decide) (fun hno => absurd hno (ni_nlt0 h22_e9)) (fun _ => ?_)
          refine lv_iload_n hx hb dX5_lengthOf_54 rfl (lv_at hl 5 rfl) ?_
          refine lv_aload_n hx hb dX5_lengthOf_55 rfl (lv_at hl 2 rfl) ?_
          refine va_get (D := D) (ci := 5) (v := .ref (b 3)) (fs := [.int th, .int N, .ref (b 1), .ref (b 2), .ref (b 3), .ref (b 4), .ref (b 5), .ref (b 6), .int 22, .int 95, .int nd.1, .int nd.2.2.1, .int nd.2.1, .long nd.2.2.2, .int t.2.1, .int t.2.2.1, .int t.2.2.2.1, .int t.2.2.2.2.1, .int t.2.2.2.2.2, .ref (b 7), .long q, .int sg, .ref (b 8), .ref (b 9), .ref (b 10), .int o.2.2.2.1, .int o.2.2.2.2]) (C := RX5) (T := TX5) (N := 27) hx hb htb inX5 hown hK hP 0 rfl rfl 4 (by decide) (htb _ kF_X5_16) (fun _ h9 => h9) rfl dX5_lengthOf_56 ?_
          refine lv_iload hx hb dX5_lengthOf_59 (lv_at hl 1 rfl) ?_
          refine va_iald (i := nI e9) hx hb hK hP 3 0 rfl rfl (vp_in_nI (by omega) (by decide)) dX5_lengthOf_61 ?_
          refine zb_ti (y := nI (xZ e9)) (by rw [nI_clamp (by omega)]) ?_
          refine lv_iadd hx hb dX5_lengthOf_62 ?_
          refine zb_ti (nI_add (mL f 9 5 (k)) (xZ e9)) ?_
          refine lv_goto (tgt := 67) hx hb dX5_lengthOf_63 (by decide) ?_
          refine zb_ti (y := nI (mL f 9 5 (k + 1))) (by rw [mL_s hme]) ?_
          refine lv_istore_n hx hb dX5_lengthOf_67 rfl hl (by decide) rfl (fun ls hl => ?_)
          have hl : lv_has ls 7 [(3, .int (nI (mL f 9 5 (k + 1)))), (4, .int 0), (6, .int (nI e9)), (0, .ref (b 0)), (1, .int 9), (2, .int (nI n)), (5, .int (nI (k + 1)))] := hl
          have e10 : (0 : Int32) = (if mOk f 9 5 (k + 1) = true then 1 else 0) := (if_neg (fun h9 => hc4 (mOk_mono (Nat.le_succ k) h9))).symm
          have hl : lv_has ls 7 [(3, .int (nI (mL f 9 5 (k + 1)))), (4, .int (if mOk f 9 5 (k + 1) = true then 1 else 0)), (6, .int (nI e9)), (0, .ref (b 0)), (1, .int 9), (2, .int (nI n)), (5, .int (nI (k + 1)))] := Eq.mp (congrArg (fun zz9 : Int32 => lv_has ls 7 [(3, .int (nI (mL f 9 5 (k + 1)))), (4, .int zz9), (6, .int (nI e9)), (0, .ref (b 0)), (1, .int 9), (2, .int (nI n)), (5, .int (nI (k + 1)))]) e10) hl
          refine lv_iinc (k := 6) (v := nI ((k + 1) + 1)) hx hb dX5_lengthOf_68 hl rfl (nI_1 (k + 1)) (by decide) rfl (fun ls hl => ?_)
          have hl : lv_has ls 7 [(5, .int (nI ((k + 1) + 1))), (3, .int (nI (mL f 9 5 (k + 1)))), (4, .int (if mOk f 9 5 (k + 1) = true then 1 else 0)), (6, .int (nI e9)), (0, .ref (b 0)), (1, .int 9), (2, .int (nI n))] := hl
          refine lv_goto (tgt := 8) hx hb dX5_lengthOf_71 (by decide) ?_
          exact ih_lp (k + 1) ls (by omega) (lv_sub hl [4, 5, 6, 1, 2, 0] rfl)
  exact lp (n - 0) (0) ls (by omega) (lv_sub hl [3, 4, 5, 2, 1, 0] rfl)
