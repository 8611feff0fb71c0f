set_option maxHeartbeats 4000000 in
set_option maxRecDepth 100000 in
theorem c_send (l : Launch) (D : va_G) (a : Nat → Nat) (cA : ClassId) (N : Int32) (f : Nat → Int32) (ob : OB) (tr : TR) (nd : ND) (sz : Nat) (kp : Nat) (fid ln : Int32) (x : Nat) (hkp : ob.2.1 = nI kp) (hkp32 : kp ≤ 32) (hx64 : x < 2 ^ 64) : Met l yX2_send (wX2_send :: wb) ({ frames := 0, cells := 0, slots := 0, locals := 0 } : Room) (va_Pc [.ref (a 5), .int fid, .int ln, .long (lN x)] (zPre D [(cA, .int)] (cw a cA N f ob tr nd) sz)) (zb_Vv D vwCl (cw a cA N f (ob_send ob fid ln x) tr nd) (va_A (cw a cA N f ob tr nd) sz)) 0 0 (va_A (cw a cA N f ob tr nd) sz) := by
  refine Met.ofW (cc := cX2_send) (maxL := 6) (ret := none) (by decide) rfl ?_
  intro p ev s m args below meth c s₁ B hml hv
  obtain ⟨rfl, hsz, hP, hK, hD0, hSt, hnw⟩ := hv
  have hx := B.exec
  have hb := B.bytes
  have hr := B.returns
  have hts := atoms_spec (ws := wX2_send :: wb) B.pre
  have htb : ∀ w ∈ wb, w.before ([.ref (a 5), .int fid, .int ln, .long (lN x)]).toArray s = true := fun w h => hts w (List.mem_cons_of_mem _ h)
  have hown : s.vm.findClass RX2 = some m.cls := findClass_of_methodNamed B.named
  have hlocks := B.notSynchronized
  subst hsz
  have hD := hD0.self (sz := s.heap.size)
  clear hD0
  generalize hAe : va_A (cw a cA N f ob tr nd) s.heap.size = A at hD hSt ⊢
  have hA : ∀ q : Nat, s.heap.size ≤ q → A q := fun q h => by rw [← hAe]; exact Or.inr h
  have hS : va_S A s.heap s.heap [] := va_S.rf
  obtain ⟨⟨tt, ff, hZT, hTT, hZF, hTF⟩, hXS⟩ := id hSt
  have hl := lv_entry ([.ref (a 5), .int fid, .int ln, .long (lN x)]) (n := 6) (Nat.le_of_ble_eq_true rfl)
  rw [lg_entry_eq]
  generalize (lg_sl ([.ref (a 5), .int fid, .int ln, .long (lN x)]) ++ List.replicate (6 - (lg_sl ([.ref (a 5), .int fid, .int ln, .long (lN x)])).length) Slot.unset).toArray = ls at hl ⊢
  have hl : lv_has ls 6 [(0, .ref (a 5)), (1, .int fid), (2, .int ln), (3, .long (lN x))] := hl
  refine zb_abs (fun Q hQ => ?_)
  obtain ⟨g0, kp0, se0⟩ := ob
  obtain rfl : kp0 = nI kp := hkp
  refine lv_aload_n hx hb dX2_send_0 rfl (lv_at hl 0 rfl) ?_
  refine lv_dup hx hb dX2_send_1 rfl ?_
  refine va_get (D := D) (ci := 2) (v := .int se0) (fs := [.ref (a 6), .int (nI kp), .int se0]) (C := RX2) (T := TX2) (N := 3) hx hb htb inX2 hown hK hP 5 rfl rfl 2 (by decide) (htb _ kF_X2_13) (fun _ h9 => h9) rfl dX2_send_2 ?_
  refine lv_iconst (v := 1) hx hb dX2_send_5 (by decide) ?_
  refine lv_iadd hx hb dX2_send_6 ?_
  refine va_put (D := D) (ci := 2) (v := .int (se0 + 1)) (fs := [.ref (a 6), .int (nI kp), .int se0]) (ty := .int) (C := RX2) (T := TX2) (N := 3) hx hb htb inX2 tyX2 tyX2_ok nmX2 hown hK hP hD hS 5 rfl rfl 2 (by decide) (htb _ kF_X2_13) (fun _ h9 => h9) rfl (by decide +kernel) rfl rfl (Nat.le_of_ble_eq_true rfl) dX2_send_7 (fun H locs hP hD hS => ?_)
  have hP : va_P D vwCl (cw a cA N f (g0, nI kp, se0 + 1) tr nd) H := hP
  have hD : va_D A (cw a cA N f (g0, nI kp, se0 + 1) tr nd) := hD
  refine lv_aload_n hx hb dX2_send_10 rfl (lv_at hl 0 rfl) ?_
  refine va_get (D := D) (ci := 2) (v := .int (nI kp)) (fs := [.ref (a 6), .int (nI kp), .int (se0 + 1)]) (C := RX2) (T := TX2) (N := 3) hx hb htb inX2 hown hK hP 5 rfl rfl 1 (by decide) (htb _ kF_X2_17) (fun _ h9 => h9) rfl dX2_send_11 ?_
  refine lv_bipush (v := 32) hx hb dX2_send_14 (by decide) ?_
  refine lv_icmp_lt (tgt := 20) hx hb dX2_send_16 (by decide) (fun hc1 => ?_) (fun hc1 => ?_)
  · have hkp2 : kp < 32 := (nI_ltI (by omega) (by decide)).mp hc1
    refine lv_aload_n hx hb dX2_send_20 rfl (lv_at hl 0 rfl) ?_
    refine va_get (D := D) (ci := 2) (v := .int (nI kp)) (fs := [.ref (a 6), .int (nI kp), .int (se0 + 1)]) (C := RX2) (T := TX2) (N := 3) hx hb htb inX2 hown hK hP 5 rfl rfl 1 (by decide) (htb _ kF_X2_17) (fun _ h9 => h9) rfl dX2_send_21 ?_
    refine lv_iconst (v := 4) hx hb dX2_send_24 (by decide) ?_
    refine lv_imul hx hb dX2_send_25 ?_
    refine zb_ti (pk_mul kp 4) ?_
    refine lv_istore hx hb dX2_send_26 hl (by decide) rfl (fun ls hl => ?_)
    have hl : lv_has ls 6 [(5, .int (nI (kp * 4))), (0, .ref (a 5)), (1, .int fid), (2, .int ln), (3, .long (lN x))] := hl
    refine lv_aload_n hx hb dX2_send_28 rfl (lv_at hl 1 rfl) ?_
    refine va_get (D := D) (ci := 2) (v := .ref (a 6)) (fs := [.ref (a 6), .int (nI kp), .int (se0 + 1)]) (C := RX2) (T := TX2) (N := 3) hx hb htb inX2 hown hK hP 5 rfl rfl 0 (by decide) (htb _ kF_X2_9) (fun _ h9 => h9) rfl dX2_send_29 ?_
    refine lv_iload hx hb dX2_send_32 (lv_at hl 0 rfl) ?_
    refine lv_iload_n hx hb dX2_send_34 rfl (lv_at hl 2 rfl) ?_
    refine va_iast (i := nI (kp * 4)) (x := fid) hx hb hK hP hD hS 6 0 rfl rfl (vp_in_nI (by omega) (by decide)) dX2_send_35 (fun H locs hP hD hS => ?_)
    rw [nI_clamp (by omega)] at hP hD
    have hP : va_P D vwCl (cw a cA N f (upd g0 (kp * 4) fid, nI kp, se0 + 1) tr nd) H := hP
    have hD : va_D A (cw a cA N f (upd g0 (kp * 4) fid, nI kp, se0 + 1) tr nd) := hD
    refine lv_aload_n hx hb dX2_send_36 rfl (lv_at hl 1 rfl) ?_
    refine va_get (D := D) (ci := 2) (v := .ref (a 6)) (fs := [.ref (a 6), .int (nI kp), .int (se0 + 1)]) (C := RX2) (T := TX2) (N := 3) hx hb htb inX2 hown hK hP 5 rfl rfl 0 (by decide) (htb _ kF_X2_9) (fun _ h9 => h9) rfl dX2_send_37 ?_
    refine lv_iload hx hb dX2_send_40 (lv_at hl 0 rfl) ?_
    refine lv_iconst (v := 1) hx hb dX2_send_42 (by decide) ?_
    refine lv_iadd hx hb dX2_send_43 ?_
    refine zb_ti (nI_add (kp * 4) 1) ?_
    refine lv_iload_n hx hb dX2_send_44 rfl (lv_at hl 3 rfl) ?_
    refine va_iast (i := nI ((kp * 4) + 1)) (x := ln) hx hb hK hP hD hS 6 0 rfl rfl (vp_in_nI (by omega) (by decide)) dX2_send_45 (fun H locs hP hD hS => ?_)
    rw [nI_clamp (by omega)] at hP hD
    have hP : va_P D vwCl (cw a cA N f (upd (upd g0 (kp * 4) fid) ((kp * 4) + 1) ln, nI kp, se0 + 1) tr nd) H := hP
    have hD : va_D A (cw a cA N f (upd (upd g0 (kp * 4) fid) ((kp * 4) + 1) ln, nI kp, se0 + 1) tr nd) := hD
    refine lv_aload_n hx hb dX2_send_46 rfl (lv_at hl 1 rfl) ?_
    refine va_get (D := D) (ci := 2) (v := .ref (a 6)) (fs := [.ref (a 6), .int (nI kp), .int (se0 + 1)]) (C := RX2) (T := TX2) (N := 3) hx hb htb inX2 hown hK hP 5 rfl rfl 0 (by decide) (htb _ kF_X2_9) (fun _ h9 => h9) rfl dX2_send_47 ?_
    refine lv_iload hx hb dX2_send_50 (lv_at hl 0 rfl) ?_
    refine lv_iconst (v := 2) hx hb dX2_send_52 (by decide) ?_
    refine lv_iadd hx hb dX2_send_53 ?_
    refine zb_ti (nI_add (kp * 4) 2) ?_
    refine lv_lload_n hx hb dX2_send_54 rfl (lv_at hl 4 rfl) ?_
    refine lv_l2i hx hb dX2_send_55 rfl ?_
    refine zb_ti (y := nI x) (lN_i x) ?_
    refine va_iast (i := nI ((kp * 4) + 2)) (x := nI x) hx hb hK hP hD hS 6 0 rfl rfl (vp_in_nI (by omega) (by decide)) dX2_send_56 (fun H locs hP hD hS => ?_)
    rw [nI_clamp (by omega)] at hP hD
    have hP : va_P D vwCl (cw a cA N f (upd (upd (upd g0 (kp * 4) fid) ((kp * 4) + 1) ln) ((kp * 4) + 2) (nI x), nI kp, se0 + 1) tr nd) H := hP
    have hD : va_D A (cw a cA N f (upd (upd (upd g0 (kp * 4) fid) ((kp * 4) + 1) ln) ((kp * 4) + 2) (nI x), nI kp, se0 + 1) tr nd) := hD
    refine lv_aload_n hx hb dX2_send_57 rfl (lv_at hl 1 rfl) ?_
    refine va_get (D := D) (ci := 2) (v := .ref (a 6)) (fs := [.ref (a 6), .int (nI kp), .int (se0 + 1)]) (C := RX2) (T := TX2) (N := 3) hx hb htb inX2 hown hK hP 5 rfl rfl 0 (by decide) (htb _ kF_X2_9) (fun _ h9 => h9) rfl dX2_send_58 ?_
    refine lv_iload hx hb dX2_send_61 (lv_at hl 0 rfl) ?_
    refine lv_iconst (v := 3) hx hb dX2_send_63 (by decide) ?_
    refine lv_iadd hx hb dX2_send_64 ?_
    refine zb_ti (nI_add (kp * 4) 3) ?_
    refine lv_lload_n hx hb dX2_send_65 rfl (lv_at hl 4 rfl) ?_
    refine lv_bipush (v := 32) hx hb dX2_send_66 (by decide) ?_
    refine lv_lushr hx hb dX2_send_68 rfl ?_
    refine lv_l2i hx hb dX2_send_69 rfl ?_
    refine zb_ti (y := nI (x / 4294967296)) (hi32 hx64) ?_
    refine va_iast (i := nI ((kp * 4) + 3)) (x := nI (x / 4294967296)) hx hb hK hP hD hS 6 0 rfl rfl (vp_in_nI (by omega) (by decide)) dX2_send_70 (fun H locs hP hD hS => ?_)
    rw [nI_clamp (by omega)] at hP hD
    have hP : va_P D vwCl (cw a cA N f (upd (upd (upd (upd g0 (kp * 4) fid) ((kp * 4) + 1) ln) ((kp * 4) + 2) (nI x)) ((kp * 4) + 3) (nI (x / 4294967296)), nI kp, se0 + 1) tr nd) H := hP
    have hD : va_D A (cw a cA N f (upd (upd (upd (upd g0 (kp * 4) fid) ((kp * 4) + 1) ln) ((kp * 4) + 2) (nI x)) ((kp * 4) + 3) (nI (x / 4294967296)), nI kp, se0 + 1) tr nd) := hD
    refine lv_aload_n hx hb dX2_send_71 rfl (lv_at hl 1 rfl) ?_
    refine lv_dup hx hb dX2_send_72 rfl ?_
    refine va_get (D := D) (ci := 2) (v := .int (nI kp)) (fs := [.ref (a 6), .int (nI kp), .int (se0 + 1)]) (C := RX2) (T := TX2) (N := 3) hx hb htb inX2 hown hK hP 5 rfl rfl 1 (by decide) (htb _ kF_X2_17) (fun _ h9 => h9) rfl dX2_send_73 ?_
    refine lv_iconst (v := 1) hx hb dX2_send_76 (by decide) ?_
    refine lv_iadd hx hb dX2_send_77 ?_
    refine zb_ti (nI_add kp 1) ?_
    refine va_put (D := D) (ci := 2) (v := .int (nI (kp + 1))) (fs := [.ref (a 6), .int (nI kp), .int (se0 + 1)]) (ty := .int) (C := RX2) (T := TX2) (N := 3) hx hb htb inX2 tyX2 tyX2_ok nmX2 hown hK hP hD hS 5 rfl rfl 1 (by decide) (htb _ kF_X2_17) (fun _ h9 => h9) rfl (by decide +kernel) rfl rfl (Nat.le_of_ble_eq_true rfl) dX2_send_78 (fun H locs hP hD hS => ?_)
    have hP : va_P D vwCl (cw a cA N f (upd (upd (upd (upd g0 (kp * 4) fid) ((kp * 4) + 1) ln) ((kp * 4) + 2) (nI x)) ((kp * 4) + 3) (nI (x / 4294967296)), nI (kp + 1), se0 + 1) tr nd) H := hP
    have hD : va_D A (cw a cA N f (upd (upd (upd (upd g0 (kp * 4) fid) ((kp * 4) + 1) ln) ((kp * 4) + 2) (nI x)) ((kp * 4) + 3) (nI (x / 4294967296)), nI (kp + 1), se0 + 1) tr nd) := hD
    rw [hQ]
    have hw9 : (cw a cA N f (upd (upd (upd (upd g0 (kp * 4) fid) ((kp * 4) + 1) ln) ((kp * 4) + 2) (nI x)) ((kp * 4) + 3) (nI (x / 4294967296)), nI (kp + 1), se0 + 1) tr nd) = (cw a cA N f (ob_send (g0, nI kp, se0) fid ln x) tr nd) := by simp only [ob_send, if_pos hc1, nI_clamp (show kp < 2 ^ 31 by omega), nI_1]
    exact W.vret hx hb hr (fun t ht hW => ⟨rfl, by rw [ht, ← hw9]; exact hP, by rw [← hw9]; exact hD, hS.F ht⟩) hS.2.2 dX2_send_81
  rw [hQ]
  have hw9 : (cw a cA N f (g0, nI kp, se0 + 1) tr nd) = (cw a cA N f (ob_send (g0, nI kp, se0) fid ln x) tr nd) := by simp only [ob_send, if_neg hc1]
  exact W.vret hx hb hr (fun t ht hW => ⟨rfl, by rw [ht, ← hw9]; exact hP, by rw [← hw9]; exact hD, hS.F ht⟩) hS.2.2 dX2_send_19
set_option maxHeartbeats 4000000 in
set_option maxRecDepth 100000 in
theorem c_opart (l : Launch) (D : va_G) (a : Nat → Nat) (cA : ClassId) (N : Int32) (f : Nat → Int32) (ob : OB) (tr : TR) (nd : ND) (k i : Nat) (hk : k < 32) (hi4 : i < 4) : Met l yX2_part (wX2_part :: wb) ({ frames := 0, cells := 0, slots := 0, locals := 0 } : Room) (va_Pc [.ref (a 5), .int (nI k), .int (nI i)] (zPu D [(cA, .int)] (cw a cA N f ob tr nd))) (zb_I (ob.1 (k * 4 + i))) 0 0 (fun _ => False) := by
  refine Met.ofW (cc := cX2_part) (maxL := 3) (ret := (some .int)) (by decide) rfl ?_
  intro p ev s m args below meth c s₁ B hml hv
  obtain ⟨rfl, hP, hK, hSt, hnw⟩ := hv
  have hx := B.exec
  have hb := B.bytes
  have hr := B.returns
  have hts := atoms_spec (ws := wX2_part :: wb) B.pre
  have htb : ∀ w ∈ wb, w.before ([.ref (a 5), .int (nI k), .int (nI i)]).toArray s = true := fun w h => hts w (List.mem_cons_of_mem _ h)
  have hown : s.vm.findClass RX2 = some m.cls := findClass_of_methodNamed B.named
  have hlocks := B.notSynchronized
  have hS : va_S (fun _ => False) s.heap s.heap [] := va_S.rf
  obtain ⟨⟨tt, ff, hZT, hTT, hZF, hTF⟩, hXS⟩ := id hSt
  have hl := lv_entry ([.ref (a 5), .int (nI k), .int (nI i)]) (n := 3) (Nat.le_of_ble_eq_true rfl)
  rw [lg_entry_eq]
  generalize (lg_sl ([.ref (a 5), .int (nI k), .int (nI i)]) ++ List.replicate (3 - (lg_sl ([.ref (a 5), .int (nI k), .int (nI i)])).length) Slot.unset).toArray = ls at hl ⊢
  have hl : lv_has ls 3 [(0, .ref (a 5)), (1, .int (nI k)), (2, .int (nI i))] := hl
  refine zb_abs (fun Q hQ => ?_)
  refine lv_aload_n hx hb dX2_part_0 rfl (lv_at hl 0 rfl) ?_
  refine va_get (D := D) (ci := 2) (v := .ref (a 6)) (fs := [.ref (a 6), .int ob.2.1, .int ob.2.2]) (C := RX2) (T := TX2) (N := 3) hx hb htb inX2 hown hK hP 5 rfl rfl 0 (by decide) (htb _ kF_X2_9) (fun _ h9 => h9) rfl dX2_part_1 ?_
  refine lv_iload_n hx hb dX2_part_4 rfl (lv_at hl 1 rfl) ?_
  refine lv_iconst (v := 4) hx hb dX2_part_5 (by decide) ?_
  refine lv_imul hx hb dX2_part_6 ?_
  refine zb_ti (pk_mul k 4) ?_
  refine lv_iload_n hx hb dX2_part_7 rfl (lv_at hl 2 rfl) ?_
  refine lv_iadd hx hb dX2_part_8 ?_
  refine zb_ti (nI_add (k * 4) i) ?_
  refine va_iald (i := nI ((k * 4) + i)) hx hb hK hP 6 0 rfl rfl (vp_in_nI (by omega) (by decide)) dX2_part_9 ?_
  refine zb_ti (y := ob.1 ((k * 4) + i)) (by rw [nI_clamp (by omega)]) ?_
  rw [hQ]
  exact W.iret (v := ob.1 ((k * 4) + i)) hx hb hr (fun t ht hW => ⟨congrArg (fun z => Outcome.returned (some (Value.int z))) (rfl), ht⟩) (fun q h => nomatch h) dX2_part_10
set_option maxHeartbeats 4000000 in
set_option maxRecDepth 100000 in
theorem c_trEnd (l : Launch) (D : va_G) (a : Nat → Nat) (cA : ClassId) (N : Int32) (f : Nat → Int32) (ob : OB) (tr : TR) (nd : ND) (sz : Nat)   : Met l yX3_end (wX3_end :: wb) ({ frames := 0, cells := 0, slots := 0, locals := 0 } : Room) (va_Pc [.ref (a 7)] (zPre D [(cA, .int)] (cw a cA N f ob tr nd) sz)) (zb_Vv D vwCl (cw a cA N f ob (tr_end tr) nd) (va_A (cw a cA N f ob tr nd) sz)) 0 0 (va_A (cw a cA N f ob tr nd) sz) := by
  refine Met.ofW (cc := cX3_end) (maxL := 1) (ret := none) (by decide) rfl ?_
  intro p ev s m args below meth c s₁ B hml hv
  obtain ⟨rfl, hsz, hP, hK, hD0, hSt, hnw⟩ := hv
  have hx := B.exec
  have hb := B.bytes
  have hr := B.returns
  have hts := atoms_spec (ws := wX3_end :: wb) B.pre
  have htb : ∀ w ∈ wb, w.before ([.ref (a 7)]).toArray s = true := fun w h => hts w (List.mem_cons_of_mem _ h)
  have hown : s.vm.findClass RX3 = some m.cls := findClass_of_methodNamed B.named
  have hlocks := B.notSynchronized
  subst hsz
  have hD := hD0.self (sz := s.heap.size)
  clear hD0
  generalize hAe : va_A (cw a cA N f ob tr nd) s.heap.size = A at hD hSt ⊢
  have hA : ∀ q : Nat, s.heap.size ≤ q → A q := fun q h => by rw [← hAe]; exact Or.inr h
  have hS : va_S A s.heap s.heap [] := va_S.rf
  obtain ⟨⟨tt, ff, hZT, hTT, hZF, hTF⟩, hXS⟩ := id hSt
  have hl := lv_entry ([.ref (a 7)]) (n := 1) (Nat.le_of_ble_eq_true rfl)
  rw [lg_entry_eq]
  generalize (lg_sl ([.ref (a 7)]) ++ List.replicate (1 - (lg_sl ([.ref (a 7)])).length) Slot.unset).toArray = ls at hl ⊢
  have hl : lv_has ls 1 [(0, .ref (a 7))] := hl
  refine zb_abs (fun Q hQ => ?_)
  refine lv_aload_n hx hb dX3_end_0 rfl (lv_at hl 0 rfl) ?_
  refine lv_iconst (v := 0) hx hb dX3_end_1 (by decide) ?_
  refine va_put (D := D) (ci := 3) (v := .int 0) (fs := [.ref (a 8), .int tr.2.1, .int tr.2.2.1, .int tr.2.2.2.1, .int tr.2.2.2.2.1, .int tr.2.2.2.2.2.1, .int tr.2.2.2.2.2.2.1, .int tr.2.2.2.2.2.2.2]) (ty := .boolean) (C := RX3) (T := TX3) (N := 8) hx hb htb inX3 tyX3 tyX3_ok nmX3 hown hK hP hD hS 7 rfl rfl 1 (by decide) (htb _ kF_X3_28) (fun _ h9 => h9) rfl (by decide +kernel) rfl rfl (Nat.le_of_ble_eq_true rfl) dX3_end_2 (fun H locs hP hD hS => ?_)
  have hP : va_P D vwCl (cw a cA N f ob (tr.1, 0, tr.2.2.1, tr.2.2.2.1, tr.2.2.2.2.1, tr.2.2.2.2.2.1, tr.2.2.2.2.2.2.1, tr.2.2.2.2.2.2.2) nd) H := hP
  have hD : va_D A (cw a cA N f ob (tr.1, 0, tr.2.2.1, tr.2.2.2.1, tr.2.2.2.2.1, tr.2.2.2.2.2.1, tr.2.2.2.2.2.2.1, tr.2.2.2.2.2.2.2) nd) := hD
  refine lv_aload_n hx hb dX3_end_5 rfl (lv_at hl 0 rfl) ?_
  refine lv_iconst (v := 0) hx hb dX3_end_6 (by decide) ?_
  refine va_put (D := D) (ci := 3) (v := .int 0) (fs := [.ref (a 8), .int 0, .int tr.2.2.1, .int tr.2.2.2.1, .int tr.2.2.2.2.1, .int tr.2.2.2.2.2.1, .int tr.2.2.2.2.2.2.1, .int tr.2.2.2.2.2.2.2]) (ty := .int) (C := RX3) (T := TX3) (N := 8) hx hb htb inX3 tyX3 tyX3_ok nmX3 hown hK hP hD hS 7 rfl rfl 4 (by decide) (htb _ kF_X3_21) (fun _ h9 => h9) rfl (by decide +kernel) rfl rfl (Nat.le_of_ble_eq_true rfl) dX3_end_7 (fun H locs hP hD hS => ?_)
  have hP : va_P D vwCl (cw a cA N f ob (tr.1, 0, tr.2.2.1, tr.2.2.2.1, 0, tr.2.2.2.2.2.1, tr.2.2.2.2.2.2.1, tr.2.2.2.2.2.2.2) nd) H := hP
  have hD : va_D A (cw a cA N f ob (tr.1, 0, tr.2.2.1, tr.2.2.2.1, 0, tr.2.2.2.2.2.1, tr.2.2.2.2.2.2.1, tr.2.2.2.2.2.2.2) nd) := hD
  rw [hQ]
  have hw9 : (cw a cA N f ob (tr.1, 0, tr.2.2.1, tr.2.2.2.1, 0, tr.2.2.2.2.2.1, tr.2.2.2.2.2.2.1, tr.2.2.2.2.2.2.2) nd) = (cw a cA N f ob (tr_end tr) nd) := rfl
  exact W.vret hx hb hr (fun t ht hW => ⟨rfl, by rw [ht, ← hw9]; exact hP, by rw [← hw9]; exact hD, hS.F ht⟩) hS.2.2 dX3_end_10
set_option maxHeartbeats 4000000 in
set_option maxRecDepth 100000 in
theorem c_trNext (l : Launch) (D : va_G) (a : Nat → Nat) (cA : ClassId) (N : Int32) (f : Nat → Int32) (ob : OB) (tr : TR) (nd : ND) (sz : Nat)   : Met l yX3_awaitNext (wX3_awaitNext :: wb) ({ frames := 0, cells := 0, slots := 0, locals := 0 } : Room) (va_Pc [.ref (a 7)] (zPre D [(cA, .int)] (cw a cA N f ob tr nd) sz)) (zb_Vv D vwCl (cw a cA N f ob (tr_next tr) nd) (va_A (cw a cA N f ob tr nd) sz)) 0 0 (va_A (cw a cA N f ob tr nd) sz) := by
  refine Met.ofW (cc := cX3_awaitNext) (maxL := 1) (ret := none) (by decide) rfl ?_
  intro p ev s m args below meth c s₁ B hml hv
  obtain ⟨rfl, hsz, hP, hK, hD0, hSt, hnw⟩ := hv
  have hx := B.exec
  have hb := B.bytes
  have hr := B.returns
  have hts := atoms_spec (ws := wX3_awaitNext :: wb) B.pre
  have htb : ∀ w ∈ wb, w.before ([.ref (a 7)]).toArray s = true := fun w h => hts w (List.mem_cons_of_mem _ h)
  have hown : s.vm.findClass RX3 = some m.cls := findClass_of_methodNamed B.named
  have hlocks := B.notSynchronized
  subst hsz
  have hD := hD0.self (sz := s.heap.size)
  clear hD0
  generalize hAe : va_A (cw a cA N f ob tr nd) s.heap.size = A at hD hSt ⊢
  have hA : ∀ q : Nat, s.heap.size ≤ q → A q := fun q h => by rw [← hAe]; exact Or.inr h
  have hS : va_S A s.heap s.heap [] := va_S.rf
  obtain ⟨⟨tt, ff, hZT, hTT, hZF, hTF⟩, hXS⟩ := id hSt
  have hl := lv_entry ([.ref (a 7)]) (n := 1) (Nat.le_of_ble_eq_true rfl)
  rw [lg_entry_eq]
  generalize (lg_sl ([.ref (a 7)]) ++ List.replicate (1 - (lg_sl ([.ref (a 7)])).length) Slot.unset).toArray = ls at hl ⊢
  have hl : lv_has ls 1 [(0, .ref (a 7))] := hl
  refine zb_abs (fun Q hQ => ?_)
  refine lv_aload_n hx hb dX3_awaitNext_0 rfl (lv_at hl 0 rfl) ?_
  refine lv_bipush (v := 16) hx hb dX3_awaitNext_1 (by decide) ?_
  refine lv_aload_n hx hb dX3_awaitNext_3 rfl (lv_at hl 0 rfl) ?_
  refine va_get (D := D) (ci := 3) (v := .int tr.2.2.2.2.2.2.1) (fs := [.ref (a 8), .int tr.2.1, .int tr.2.2.1, .int tr.2.2.2.1, .int tr.2.2.2.2.1, .int tr.2.2.2.2.2.1, .int tr.2.2.2.2.2.2.1, .int tr.2.2.2.2.2.2.2]) (C := RX3) (T := TX3) (N := 8) hx hb htb inX3 hown hK hP 7 rfl rfl 6 (by decide) (htb _ kF_X3_34) (fun _ h9 => h9) rfl dX3_awaitNext_4 ?_
  refine lv_isub hx hb dX3_awaitNext_7 ?_
  refine va_put (D := D) (ci := 3) (v := .int (16 - tr.2.2.2.2.2.2.1)) (fs := [.ref (a 8), .int tr.2.1, .int tr.2.2.1, .int tr.2.2.2.1, .int tr.2.2.2.2.1, .int tr.2.2.2.2.2.1, .int tr.2.2.2.2.2.2.1, .int tr.2.2.2.2.2.2.2]) (ty := .int) (C := RX3) (T := TX3) (N := 8) hx hb htb inX3 tyX3 tyX3_ok nmX3 hown hK hP hD hS 7 rfl rfl 6 (by decide) (htb _ kF_X3_34) (fun _ h9 => h9) rfl (by decide +kernel) rfl rfl (Nat.le_of_ble_eq_true rfl) dX3_awaitNext_8 (fun H locs hP hD hS => ?_)
  have hP : va_P D vwCl (cw a cA N f ob (tr.1, tr.2.1, tr.2.2.1, tr.2.2.2.1, tr.2.2.2.2.1, tr.2.2.2.2.2.1, 16 - tr.2.2.2.2.2.2.1, tr.2.2.2.2.2.2.2) nd) H := hP
  have hD : va_D A (cw a cA N f ob (tr.1, tr.2.1, tr.2.2.1, tr.2.2.2.1, tr.2.2.2.2.1, tr.2.2.2.2.2.1, 16 - tr.2.2.2.2.2.2.1, tr.2.2.2.2.2.2.2) nd) := hD
  refine lv_aload_n hx hb dX3_awaitNext_11 rfl (lv_at hl 0 rfl) ?_
  refine lv_iconst (v := 0) hx hb dX3_awaitNext_12 (by decide) ?_
  refine va_put (D := D) (ci := 3) (v := .int 0) (fs := [.ref (a 8), .int tr.2.1, .int tr.2.2.1, .int tr.2.2.2.1, .int tr.2.2.2.2.1, .int tr.2.2.2.2.2.1, .int (16 - tr.2.2.2.2.2.2.1), .int tr.2.2.2.2.2.2.2]) (ty := .int) (C := RX3) (T := TX3) (N := 8) hx hb htb inX3 tyX3 tyX3_ok nmX3 hown hK hP hD hS 7 rfl rfl 7 (by decide) (htb _ kF_X3_37) (fun _ h9 => h9) rfl (by decide +kernel) rfl rfl (Nat.le_of_ble_eq_true rfl) dX3_awaitNext_13 (fun H locs hP hD hS => ?_)
  have hP : va_P D vwCl (cw a cA N f ob (tr.1, tr.2.1, tr.2.2.1, tr.2.2.2.1, tr.2.2.2.2.1, tr.2.2.2.2.2.1, 16 - tr.2.2.2.2.2.2.1, 0) nd) H := hP
  have hD : va_D A (cw a cA N f ob (tr.1, tr.2.1, tr.2.2.1, tr.2.2.2.1, tr.2.2.2.2.1, tr.2.2.2.2.2.1, 16 - tr.2.2.2.2.2.2.1, 0) nd) := hD
  rw [hQ]
  have hw9 : (cw a cA N f ob (tr.1, tr.2.1, tr.2.2.1, tr.2.2.2.1, tr.2.2.2.2.1, tr.2.2.2.2.2.1, 16 - tr.2.2.2.2.2.2.1, 0) nd) = (cw a cA N f ob (tr_next tr) nd) := rfl
  exact W.vret hx hb hr (fun t ht hW => ⟨rfl, by rw [ht, ← hw9]; exact hP, by rw [← hw9]; exact hD, hS.F ht⟩) hS.2.2 dX3_awaitNext_16
set_option maxHeartbeats 4000000 in
set_option maxRecDepth 100000 in
theorem c_trBegin (l : Launch) (D : va_G) (a : Nat → Nat) (cA : ClassId) (N : Int32) (f : Nat → Int32) (ob : OB) (tr : TR) (nd : ND) (sz : Nat) (en ad wr : Int32) (hwr : wr = 0 ∨ wr = 1) : Met l yX3_begin (wX3_begin :: wb) ({ frames := 0, cells := 0, slots := 0, locals := 0 } : Room) (va_Pc [.ref (a 7), .int en, .int ad, .int wr] (zPre D [(cA, .int)] (cw a cA N f ob tr nd) sz)) (zb_Vv D vwCl (cw a cA N f ob (tr_begin tr en ad wr) nd) (va_A (cw a cA N f ob tr nd) sz)) 0 0 (va_A (cw a cA N f ob tr nd) sz) := by
  refine Met.ofW (cc := cX3_begin) (maxL := 4) (ret := none) (by decide) rfl ?_
  intro p ev s m args below meth c s₁ B hml hv
  obtain ⟨rfl, hsz, hP, hK, hD0, hSt, hnw⟩ := hv
  have hx := B.exec
  have hb := B.bytes
  have hr := B.returns
  have hts := atoms_spec (ws := wX3_begin :: wb) B.pre
  have htb : ∀ w ∈ wb, w.before ([.ref (a 7), .int en, .int ad, .int wr]).toArray s = true := fun w h => hts w (List.mem_cons_of_mem _ h)
  have hown : s.vm.findClass RX3 = some m.cls := findClass_of_methodNamed B.named
  have hlocks := B.notSynchronized
  subst hsz
  have hD := hD0.self (sz := s.heap.size)
  clear hD0
  generalize hAe : va_A (cw a cA N f ob tr nd) s.heap.size = A at hD hSt ⊢
  have hA : ∀ q : Nat, s.heap.size ≤ q → A q := fun q h => by rw [← hAe]; exact Or.inr h
  have hS : va_S A s.heap s.heap [] := va_S.rf
  obtain ⟨⟨tt, ff, hZT, hTT, hZF, hTF⟩, hXS⟩ := id hSt
  have hl := lv_entry ([.ref (a 7), .int en, .int ad, .int wr]) (n := 4) (Nat.le_of_ble_eq_true rfl)
  rw [lg_entry_eq]
  generalize (lg_sl ([.ref (a 7), .int en, .int ad, .int wr]) ++ List.replicate (4 - (lg_sl ([.ref (a 7), .int en, .int ad, .int wr])).length) Slot.unset).toArray = ls at hl ⊢
  have hl : lv_has ls 4 [(0, .ref (a 7)), (1, .int en), (2, .int ad), (3, .int wr)] := hl
  refine zb_abs (fun Q hQ => ?_)
  refine lv_aload_n hx hb dX3_begin_0 rfl (lv_at hl 0 rfl) ?_
  refine lv_iload_n hx hb dX3_begin_1 rfl (lv_at hl 1 rfl) ?_
  refine va_put (D := D) (ci := 3) (v := .int en) (fs := [.ref (a 8), .int tr.2.1, .int tr.2.2.1, .int tr.2.2.2.1, .int tr.2.2.2.2.1, .int tr.2.2.2.2.2.1, .int tr.2.2.2.2.2.2.1, .int tr.2.2.2.2.2.2.2]) (ty := .int) (C := RX3) (T := TX3) (N := 8) hx hb htb inX3 tyX3 tyX3_ok nmX3 hown hK hP hD hS 7 rfl rfl 3 (by decide) (htb _ kF_X3_17) (fun _ h9 => h9) rfl (by decide +kernel) rfl rfl (Nat.le_of_ble_eq_true rfl) dX3_begin_2 (fun H locs hP hD hS => ?_)
  have hP : va_P D vwCl (cw a cA N f ob (tr.1, tr.2.1, tr.2.2.1, en, tr.2.2.2.2.1, tr.2.2.2.2.2.1, tr.2.2.2.2.2.2.1, tr.2.2.2.2.2.2.2) nd) H := hP
  have hD : va_D A (cw a cA N f ob (tr.1, tr.2.1, tr.2.2.1, en, tr.2.2.2.2.1, tr.2.2.2.2.2.1, tr.2.2.2.2.2.2.1, tr.2.2.2.2.2.2.2) nd) := hD
  refine lv_aload_n hx hb dX3_begin_5 rfl (lv_at hl 0 rfl) ?_
  refine lv_iload_n hx hb dX3_begin_6 rfl (lv_at hl 2 rfl) ?_
  refine va_put (D := D) (ci := 3) (v := .int ad) (fs := [.ref (a 8), .int tr.2.1, .int tr.2.2.1, .int en, .int tr.2.2.2.2.1, .int tr.2.2.2.2.2.1, .int tr.2.2.2.2.2.2.1, .int tr.2.2.2.2.2.2.2]) (ty := .int) (C := RX3) (T := TX3) (N := 8) hx hb htb inX3 tyX3 tyX3_ok nmX3 hown hK hP hD hS 7 rfl rfl 4 (by decide) (htb _ kF_X3_21) (fun _ h9 => h9) rfl (by decide +kernel) rfl rfl (Nat.le_of_ble_eq_true rfl) dX3_begin_7 (fun H locs hP hD hS => ?_)
  have hP : va_P D vwCl (cw a cA N f ob (tr.1, tr.2.1, tr.2.2.1, en, ad, tr.2.2.2.2.2.1, tr.2.2.2.2.2.2.1, tr.2.2.2.2.2.2.2) nd) H := hP
  have hD : va_D A (cw a cA N f ob (tr.1, tr.2.1, tr.2.2.1, en, ad, tr.2.2.2.2.2.1, tr.2.2.2.2.2.2.1, tr.2.2.2.2.2.2.2) nd) := hD
  refine lv_aload_n hx hb dX3_begin_10 rfl (lv_at hl 0 rfl) ?_
  refine lv_iload_n hx hb dX3_begin_11 rfl (lv_at hl 3 rfl) ?_
  refine va_put (D := D) (ci := 3) (v := .int wr) (fs := [.ref (a 8), .int tr.2.1, .int tr.2.2.1, .int en, .int ad, .int tr.2.2.2.2.2.1, .int tr.2.2.2.2.2.2.1, .int tr.2.2.2.2.2.2.2]) (ty := .boolean) (C := RX3) (T := TX3) (N := 8) hx hb htb inX3 tyX3 tyX3_ok nmX3 hown hK hP hD hS 7 rfl rfl 2 (by decide) (htb _ kF_X3_24) (fun _ h9 => h9) rfl (by decide +kernel) (by rcases hwr with rfl | rfl <;> rfl) (by rcases hwr with rfl | rfl <;> rfl) (Nat.le_of_ble_eq_true rfl) dX3_begin_12 (fun H locs hP hD hS => ?_)
  have hP : va_P D vwCl (cw a cA N f ob (tr.1, tr.2.1, wr, en, ad, tr.2.2.2.2.2.1, tr.2.2.2.2.2.2.1, tr.2.2.2.2.2.2.2) nd) H := hP
  have hD : va_D A (cw a cA N f ob (tr.1, tr.2.1, wr, en, ad, tr.2.2.2.2.2.1, tr.2.2.2.2.2.2.1, tr.2.2.2.2.2.2.2) nd) := hD
  refine lv_aload_n hx hb dX3_begin_15 rfl (lv_at hl 0 rfl) ?_
  refine lv_iconst (v := 1) hx hb dX3_begin_16 (by decide) ?_
  refine va_put (D := D) (ci := 3) (v := .int 1) (fs := [.ref (a 8), .int tr.2.1, .int wr, .int en, .int ad, .int tr.2.2.2.2.2.1, .int tr.2.2.2.2.2.2.1, .int tr.2.2.2.2.2.2.2]) (ty := .boolean) (C := RX3) (T := TX3) (N := 8) hx hb htb inX3 tyX3 tyX3_ok nmX3 hown hK hP hD hS 7 rfl rfl 1 (by decide) (htb _ kF_X3_28) (fun _ h9 => h9) rfl (by decide +kernel) rfl rfl (Nat.le_of_ble_eq_true rfl) dX3_begin_17 (fun H locs hP hD hS => ?_)
  have hP : va_P D vwCl (cw a cA N f ob (tr.1, 1, wr, en, ad, tr.2.2.2.2.2.1, tr.2.2.2.2.2.2.1, tr.2.2.2.2.2.2.2) nd) H := hP
  have hD : va_D A (cw a cA N f ob (tr.1, 1, wr, en, ad, tr.2.2.2.2.2.1, tr.2.2.2.2.2.2.1, tr.2.2.2.2.2.2.2) nd) := hD
  refine lv_aload_n hx hb dX3_begin_20 rfl (lv_at hl 0 rfl) ?_
  refine lv_iconst (v := 0) hx hb dX3_begin_21 (by decide) ?_
  refine va_put (D := D) (ci := 3) (v := .int 0) (fs := [.ref (a 8), .int 1, .int wr, .int en, .int ad, .int tr.2.2.2.2.2.1, .int tr.2.2.2.2.2.2.1, .int tr.2.2.2.2.2.2.2]) (ty := .int) (C := RX3) (T := TX3) (N := 8) hx hb htb inX3 tyX3 tyX3_ok nmX3 hown hK hP hD hS 7 rfl rfl 5 (by decide) (htb _ kF_X3_31) (fun _ h9 => h9) rfl (by decide +kernel) rfl rfl (Nat.le_of_ble_eq_true rfl) dX3_begin_22 (fun H locs hP hD hS => ?_)
  have hP : va_P D vwCl (cw a cA N f ob (tr.1, 1, wr, en, ad, 0, tr.2.2.2.2.2.2.1, tr.2.2.2.2.2.2.2) nd) H := hP
  have hD : va_D A (cw a cA N f ob (tr.1, 1, wr, en, ad, 0, tr.2.2.2.2.2.2.1, tr.2.2.2.2.2.2.2) nd) := hD
  refine lv_aload_n hx hb dX3_begin_25 rfl (lv_at hl 0 rfl) ?_
  refine lv_iconst (v := 0) hx hb dX3_begin_26 (by decide) ?_
  refine va_put (D := D) (ci := 3) (v := .int 0) (fs := [.ref (a 8), .int 1, .int wr, .int en, .int ad, .int 0, .int tr.2.2.2.2.2.2.1, .int tr.2.2.2.2.2.2.2]) (ty := .int) (C := RX3) (T := TX3) (N := 8) hx hb htb inX3 tyX3 tyX3_ok nmX3 hown hK hP hD hS 7 rfl rfl 6 (by decide) (htb _ kF_X3_34) (fun _ h9 => h9) rfl (by decide +kernel) rfl rfl (Nat.le_of_ble_eq_true rfl) dX3_begin_27 (fun H locs hP hD hS => ?_)
  have hP : va_P D vwCl (cw a cA N f ob (tr.1, 1, wr, en, ad, 0, 0, tr.2.2.2.2.2.2.2) nd) H := hP
  have hD : va_D A (cw a cA N f ob (tr.1, 1, wr, en, ad, 0, 0, tr.2.2.2.2.2.2.2) nd) := hD
  refine lv_aload_n hx hb dX3_begin_30 rfl (lv_at hl 0 rfl) ?_
  refine lv_iconst (v := 0) hx hb dX3_begin_31 (by decide) ?_
  refine va_put (D := D) (ci := 3) (v := .int 0) (fs := [.ref (a 8), .int 1, .int wr, .int en, .int ad, .int 0, .int 0, .int tr.2.2.2.2.2.2.2]) (ty := .int) (C := RX3) (T := TX3) (N := 8) hx hb htb inX3 tyX3 tyX3_ok nmX3 hown hK hP hD hS 7 rfl rfl 7 (by decide) (htb _ kF_X3_37) (fun _ h9 => h9) rfl (by decide +kernel) rfl rfl (Nat.le_of_ble_eq_true rfl) dX3_begin_32 (fun H locs hP hD hS => ?_)
  have hP : va_P D vwCl (cw a cA N f ob (tr.1, 1, wr, en, ad, 0, 0, 0) nd) H := hP
  have hD : va_D A (cw a cA N f ob (tr.1, 1, wr, en, ad, 0, 0, 0) nd) := hD
  rw [hQ]
  have hw9 : (cw a cA N f ob (tr.1, 1, wr, en, ad, 0, 0, 0) nd) = (cw a cA N f ob (tr_begin tr en ad wr) nd) := rfl
  exact W.vret hx hb hr (fun t ht hW => ⟨rfl, by rw [ht, ← hw9]; exact hP, by rw [← hw9]; exact hD, hS.F ht⟩) hS.2.2 dX3_begin_35
set_option maxHeartbeats 4000000 in
set_option maxRecDepth 100000 in
theorem c_left (l : Launch) (D : va_G) (a : Nat → Nat) (cA : ClassId) (N : Int32) (f : Nat → Int32) (ob : OB) (tr : TR) (nd : ND) (e0 d0 : Nat) (he0 : e0 < 22) (hen : tr.2.2.2.1 = nI e0) (hdn : tr.2.2.2.2.2.1 = nI d0) (hd0 : d0 ≤ xZ e0) : Met l yX3_left (wX3_left :: wb) ({ frames := 1, cells := 0, slots := 0, locals := 20 } : Room) (va_Pc [.ref (a 7)] (zPu D [(cA, .int)] (cw a cA N f ob tr nd))) (zb_I (nI (xZ e0 - d0))) 0 0 (fun _ => False) := by
  refine Met.ofW (cc := cX3_left) (maxL := 1) (ret := (some .int)) (by decide) rfl ?_
  intro p ev s m args below meth c s₁ B hml hv
  obtain ⟨rfl, hP, hK, hSt, hnw⟩ := hv
  have hx := B.exec
  have hb := B.bytes
  have hr := B.returns
  have hts := atoms_spec (ws := wX3_left :: wb) B.pre
  have htb : ∀ w ∈ wb, w.before ([.ref (a 7)]).toArray s = true := fun w h => hts w (List.mem_cons_of_mem _ h)
  have hown : s.vm.findClass RX3 = some m.cls := findClass_of_methodNamed B.named
  have hlocks := B.notSynchronized
  have hS : va_S (fun _ => False) s.heap s.heap [] := va_S.rf
  obtain ⟨⟨tt, ff, hZT, hTT, hZF, hTF⟩, hXS⟩ := id hSt
  have hl := lv_entry ([.ref (a 7)]) (n := 1) (Nat.le_of_ble_eq_true rfl)
  rw [lg_entry_eq]
  generalize (lg_sl ([.ref (a 7)]) ++ List.replicate (1 - (lg_sl ([.ref (a 7)])).length) Slot.unset).toArray = ls at hl ⊢
  have hl : lv_has ls 1 [(0, .ref (a 7))] := hl
  refine zb_abs (fun Q hQ => ?_)
  obtain ⟨h0, go0, wr0, en0, ad0, dn0, tu0, ti0⟩ := tr
  obtain rfl : en0 = nI e0 := hen
  obtain rfl : dn0 = nI d0 := hdn
  have hft := x_fit e0 he0
  refine lv_aload_n hx hb dX3_left_0 rfl (lv_at hl 0 rfl) ?_
  refine va_get (D := D) (ci := 3) (v := .int (nI e0)) (fs := [.ref (a 8), .int go0, .int wr0, .int (nI e0), .int ad0, .int (nI d0), .int tu0, .int ti0]) (C := RX3) (T := TX3) (N := 8) hx hb htb inX3 hown hK hP 7 rfl rfl 3 (by decide) (htb _ kF_X3_17) (fun _ h9 => h9) rfl dX3_left_1 ?_
  refine zb_ci (va_runS (As := [.int (nI e0)]) (rest := []) ⟨hx, hb, hml, hown, htb⟩ (c_sizeOf l D a cA N f ob (h0, go0, wr0, nI e0, ad0, nI d0, tu0, ti0) nd e0 he0) (va_cwS 1 htb (wb_S kM_X3_40 kZ_X0_sizeOf kN_X0 kD_X0_sizeOf) rfl rfl rfl (by decide +kernel) ⟨Nat.le_of_ble_eq_true rfl, Nat.le_of_ble_eq_true rfl⟩) (zp_S hP hK hSt hS hnw) rfl rfl hl.1 rfl (lv_room (Nat.le_of_ble_eq_true rfl)) dX3_left_4 ⟨Nat.le_of_ble_eq_true rfl, Nat.le_of_ble_eq_true rfl⟩) ?_
  refine lv_aload_n hx hb dX3_left_7 rfl (lv_at hl 0 rfl) ?_
  refine va_get (D := D) (ci := 3) (v := .int (nI d0)) (fs := [.ref (a 8), .int go0, .int wr0, .int (nI e0), .int ad0, .int (nI d0), .int tu0, .int ti0]) (C := RX3) (T := TX3) (N := 8) hx hb htb inX3 hown hK hP 7 rfl rfl 5 (by decide) (htb _ kF_X3_31) (fun _ h9 => h9) rfl dX3_left_8 ?_
  refine lv_isub hx hb dX3_left_11 ?_
  rw [hQ]
  exact W.iret (v := (nI (xZ e0)) - (nI d0)) hx hb hr (fun t ht hW => ⟨congrArg (fun z => Outcome.returned (some (Value.int z))) (pk_sub hd0), ht⟩) (fun q h => nomatch h) dX3_left_12
set_option maxHeartbeats 4000000 in
set_option maxRecDepth 100000 in
theorem c_add (l : Launch) (D : va_G) (a : Nat → Nat) (cA : ClassId) (N : Int32) (f : Nat → Int32) (ob : OB) (tr : TR) (nd : ND) (sz : Nat) (e0 d0 n x : Nat) (he0 : e0 < 22) (hen : tr.2.2.2.1 = nI e0) (hdn : tr.2.2.2.2.2.1 = nI d0) (hd0 : d0 ≤ xZ e0) (hle : n ≤ xZ e0 - d0) (hn8 : n ≤ 8) (hx64 : x < 2 ^ 64) : Met l yX3_add (wX3_add :: wb) ({ frames := 2, cells := 0, slots := 0, locals := 40 } : Room) (va_Pc [.ref (a 7), .long (lN x), .int (nI n)] (zPre D [(cA, .int)] (cw a cA N f ob tr nd) sz)) (zb_Vi 1 D vwCl (cw a cA N f ob (tr_add tr d0 n x) nd) (va_A (cw a cA N f ob tr nd) sz)) 0 0 (va_A (cw a cA N f ob tr nd) sz) := by
  refine Met.ofW (cc := cX3_add) (maxL := 5) (ret := (some .boolean)) (by decide) rfl ?_
  intro p ev s m args below meth c s₁ B hml hv
  obtain ⟨rfl, hsz, hP, hK, hD0, hSt, hnw⟩ := hv
  have hx := B.exec
  have hb := B.bytes
  have hr := B.returns
  have hts := atoms_spec (ws := wX3_add :: wb) B.pre
  have htb : ∀ w ∈ wb, w.before ([.ref (a 7), .long (lN x), .int (nI n)]).toArray s = true := fun w h => hts w (List.mem_cons_of_mem _ h)
  have hown : s.vm.findClass RX3 = some m.cls := findClass_of_methodNamed B.named
  have hlocks := B.notSynchronized
  subst hsz
  have hD := hD0.self (sz := s.heap.size)
  clear hD0
  generalize hAe : va_A (cw a cA N f ob tr nd) s.heap.size = A at hD hSt ⊢
  have hA : ∀ q : Nat, s.heap.size ≤ q → A q := fun q h => by rw [← hAe]; exact Or.inr h
  have hS : va_S A s.heap s.heap [] := va_S.rf
  obtain ⟨⟨tt, ff, hZT, hTT, hZF, hTF⟩, hXS⟩ := id hSt
  have hl := lv_entry ([.ref (a 7), .long (lN x), .int (nI n)]) (n := 5) (Nat.le_of_ble_eq_true rfl)
  rw [lg_entry_eq]
  generalize (lg_sl ([.ref (a 7), .long (lN x), .int (nI n)]) ++ List.replicate (5 - (lg_sl ([.ref (a 7), .long (lN x), .int (nI n)])).length) Slot.unset).toArray = ls at hl ⊢
  have hl : lv_has ls 5 [(0, .ref (a 7)), (1, .long (lN x)), (3, .int (nI n))] := hl
  refine zb_abs (fun Q hQ => ?_)
  obtain ⟨h0, go0, wr0, en0, ad0, dn0, tu0, ti0⟩ := tr
  obtain rfl : en0 = nI e0 := hen
  obtain rfl : dn0 = nI d0 := hdn
  have hft := x_fit e0 he0
  refine lv_iload_n hx hb dX3_add_0 rfl (lv_at hl 2 rfl) ?_
  refine lv_aload_n hx hb dX3_add_1 rfl (lv_at hl 0 rfl) ?_
  refine zb_ci (va_runV (As := []) (rest := [.int (nI n)]) ⟨hx, hb, hml, hown, htb⟩ (c_left l D a cA N f ob (h0, go0, wr0, nI e0, ad0, nI d0, tu0, ti0) nd e0 d0 he0 rfl rfl hd0) (cwV 0 htb (wb_V kM_X3_44 kI_X3_left kS_X3_left kN_X3 kD_X3_left) rfl rfl rfl (by decide +kernel) ⟨Nat.le_of_ble_eq_true rfl, Nat.le_of_ble_eq_true rfl⟩) (zp_V 7 rfl rfl hP hK hSt hS hnw) rfl rfl hl.1 rfl (lv_room (Nat.le_of_ble_eq_true rfl)) dX3_add_2 ⟨Nat.le_of_ble_eq_true rfl, Nat.le_of_ble_eq_true rfl⟩) ?_
  refine lv_icmp_le (tgt := 10) hx hb dX3_add_5 (by decide) (fun _ => ?_) (fun hno => absurd (nI_le hle (by omega)) hno)
  refine lv_iconst (v := 0) hx hb dX3_add_10 (by decide) ?_
  refine lv_istore hx hb dX3_add_11 hl (by decide) rfl (fun ls hl => ?_)
  have hl : lv_has ls 5 [(4, .int 0), (0, .ref (a 7)), (1, .long (lN x)), (3, .int (nI n))] := hl
  have hP : va_P D vwCl (cw a cA N f ob (pF h0 d0 0 x 0, go0, wr0, nI e0, ad0, nI d0, tu0, ti0) nd) s.heap := by rw [pF_0]; exact hP
  have hD : va_D A (cw a cA N f ob (pF h0 d0 0 x 0, go0, wr0, nI e0, ad0, nI d0, tu0, ti0) nd) := by rw [pF_0]; exact hD
  have lp : ∀ (nn k : Nat) (ls : Array Slot) (H : Heap) (locs : List Loc), va_P D vwCl (cw a cA N f ob ((pF h0 d0 (k) x 0), go0, wr0, nI e0, ad0, nI d0, tu0, ti0) nd) H → va_D A (cw a cA N f ob ((pF h0 d0 (k) x 0), go0, wr0, nI e0, ad0, nI d0, tu0, ti0) nd) → va_S A s.heap H locs → k + nn = n → lv_has ls 5 [(0, .ref (a 7)), (1, .long (lN x)), (3, .int (nI n)), (4, .int (nI (k)))] → W p l ev ({ frames := 2, cells := 0, slots := 0, locals := 40 } : Room) s m ([.ref (a 7), .long (lN x), .int (nI n)]).toArray below meth c H locs 0 0 Q (F0 m 13 ls []) := by
    intro nn
    induction nn with
    | zero =>
      intro k ls H locs hP hD hS hk_lp  hl
      have hk0_lp : k = n := by omega
      refine lv_iload hx hb dX3_add_13 (lv_at hl 3 rfl) ?_
      refine lv_iload_n hx hb dX3_add_15 rfl (lv_at hl 2 rfl) ?_
      refine lv_icmp_ge (tgt := 49) hx hb dX3_add_16 (by decide) (fun _ => ?_) (fun hno => absurd (by rw [hk0_lp]; exact nI_le (Nat.le_refl _) (by omega)) hno)
      refine lv_aload_n hx hb dX3_add_49 rfl (lv_at hl 0 rfl) ?_
      refine lv_dup hx hb dX3_add_50 rfl ?_
      refine va_get (D := D) (ci := 3) (v := .int (nI d0)) (fs := [.ref (a 8), .int go0, .int wr0, .int (nI e0), .int ad0, .int (nI d0), .int tu0, .int ti0]) (C := RX3) (T := TX3) (N := 8) hx hb htb inX3 hown hK hP 7 rfl rfl 5 (by decide) (htb _ kF_X3_31) (fun _ h9 => h9) rfl dX3_add_51 ?_
      refine lv_iload_n hx hb dX3_add_54 rfl (lv_at hl 2 rfl) ?_
      refine lv_iadd hx hb dX3_add_55 ?_
      refine zb_ti (nI_add d0 n) ?_
      refine va_put (D := D) (ci := 3) (v := .int (nI (d0 + n))) (fs := [.ref (a 8), .int go0, .int wr0, .int (nI e0), .int ad0, .int (nI d0), .int tu0, .int ti0]) (ty := .int) (C := RX3) (T := TX3) (N := 8) hx hb htb inX3 tyX3 tyX3_ok nmX3 hown hK hP hD hS 7 rfl rfl 5 (by decide) (htb _ kF_X3_31) (fun _ h9 => h9) rfl (by decide +kernel) rfl rfl (Nat.le_of_ble_eq_true rfl) dX3_add_56 (fun H locs hP hD hS => ?_)
      have hP : va_P D vwCl (cw a cA N f ob ((pF h0 d0 (k) x 0), go0, wr0, nI e0, ad0, nI (d0 + n), tu0, ti0) nd) H := hP
      have hD : va_D A (cw a cA N f ob ((pF h0 d0 (k) x 0), go0, wr0, nI e0, ad0, nI (d0 + n), tu0, ti0) nd) := hD
      refine lv_iconst (v := 1) hx hb dX3_add_59 (by decide) ?_
      rw [hQ]
      have hw9 : (cw a cA N f ob ((pF h0 d0 (k) x 0), go0, wr0, nI e0, ad0, nI (d0 + n), tu0, ti0) nd) = (cw a cA N f ob (tr_add (h0, go0, wr0, nI e0, ad0, nI d0, tu0, ti0) d0 n x) nd) := by rw [hk0_lp]; rfl
      exact W.zret (v := 1) hx hb hr (rfl) (fun t ht hW => ⟨congrArg (fun z => Outcome.returned (some (Value.int z))) (rfl), by rw [ht, ← hw9]; exact hP, by rw [← hw9]; exact hD, hS.F ht⟩) hS.2.2 dX3_add_60
    | succ nn ih_lp =>
      intro k ls H locs hP hD hS hk_lp  hl
      have hk1_lp : k < n := by omega
      refine lv_iload hx hb dX3_add_13 (lv_at hl 3 rfl) ?_
      refine lv_iload_n hx hb dX3_add_15 rfl (lv_at hl 2 rfl) ?_
      refine lv_icmp_ge (tgt := 49) hx hb dX3_add_16 (by decide) (fun hno => absurd hno (nI_ge (a := k) (b := n) hk1_lp (by omega))) (fun _ => ?_)
      refine lv_aload_n hx hb dX3_add_19 rfl (lv_at hl 0 rfl) ?_
      refine va_get (D := D) (ci := 3) (v := .ref (a 8)) (fs := [.ref (a 8), .int go0, .int wr0, .int (nI e0), .int ad0, .int (nI d0), .int tu0, .int ti0]) (C := RX3) (T := TX3) (N := 8) hx hb htb inX3 hown hK hP 7 rfl rfl 0 (by decide) (htb _ kF_X3_11) (fun _ h9 => h9) rfl dX3_add_20 ?_
      refine lv_aload_n hx hb dX3_add_23 rfl (lv_at hl 0 rfl) ?_
      refine va_get (D := D) (ci := 3) (v := .int (nI d0)) (fs := [.ref (a 8), .int go0, .int wr0, .int (nI e0), .int ad0, .int (nI d0), .int tu0, .int ti0]) (C := RX3) (T := TX3) (N := 8) hx hb htb inX3 hown hK hP 7 rfl rfl 5 (by decide) (htb _ kF_X3_31) (fun _ h9 => h9) rfl dX3_add_24 ?_
      refine lv_iload hx hb dX3_add_27 (lv_at hl 3 rfl) ?_
      refine lv_iadd hx hb dX3_add_29 ?_
      refine zb_ti (nI_add d0 (k)) ?_
      refine lv_lload_n hx hb dX3_add_30 rfl (lv_at hl 1 rfl) ?_
      refine lv_bipush (v := 8) hx hb dX3_add_31 (by decide) ?_
      refine lv_iload hx hb dX3_add_33 (lv_at hl 3 rfl) ?_
      refine lv_imul hx hb dX3_add_35 ?_
      refine zb_ti (pk_mul 8 (k)) ?_
      refine lv_lushr hx hb dX3_add_36 rfl ?_
      refine lv_l2i hx hb dX3_add_37 rfl ?_
      refine lv_sipush (v := 255) hx hb dX3_add_38 (by decide) ?_
      refine lv_iand hx hb dX3_add_41 ?_
      refine zb_ti (y := nI (bN x (0 + k))) (by rw [Nat.zero_add]; exact put_b hx64 (by omega)) ?_
      refine va_iast (i := nI (d0 + (k))) (x := nI (bN x (0 + k))) hx hb hK hP hD hS 8 0 rfl rfl (vp_in_nI (by omega) (by decide)) dX3_add_42 (fun H locs hP hD hS => ?_)
      rw [nI_clamp (by omega)] at hP hD
      have hP : va_P D vwCl (cw a cA N f ob (upd (pF h0 d0 (k) x 0) (d0 + (k)) (nI (bN x (0 + k))), go0, wr0, nI e0, ad0, nI d0, tu0, ti0) nd) H := hP
      have hD : va_D A (cw a cA N f ob (upd (pF h0 d0 (k) x 0) (d0 + (k)) (nI (bN x (0 + k))), go0, wr0, nI e0, ad0, nI d0, tu0, ti0) nd) := hD
      rw [pF_up] at hP hD
      have hP : va_P D vwCl (cw a cA N f ob ((pF h0 d0 (k + 1) x 0), go0, wr0, nI e0, ad0, nI d0, tu0, ti0) nd) H := hP
      have hD : va_D A (cw a cA N f ob ((pF h0 d0 (k + 1) x 0), go0, wr0, nI e0, ad0, nI d0, tu0, ti0) nd) := hD
      refine lv_iinc (k := 3) (v := nI ((k) + 1)) hx hb dX3_add_43 hl rfl (nI_1 (k)) (by decide) rfl (fun ls hl => ?_)
      have hl : lv_has ls 5 [(4, .int (nI ((k) + 1))), (0, .ref (a 7)), (1, .long (lN x)), (3, .int (nI n))] := hl
      refine lv_goto (tgt := 13) hx hb dX3_add_46 (by decide) ?_
      exact ih_lp (k + 1) ls _ _ hP hD hS (by omega) (lv_sub hl [1, 2, 3, 0] rfl)
  exact lp (n - 0) (0) ls _ _ hP hD hS (by omega) (lv_sub hl [1, 2, 3, 0] rfl)
set_option maxHeartbeats 4000000 in
set_option maxRecDepth 100000 in
theorem c_addNo (l : Launch) (D : va_G) (a : Nat → Nat) (cA : ClassId) (N : Int32) (f : Nat → Int32) (ob : OB) (tr : TR) (nd : ND) (e0 d0 n : Nat) (x : Int64) (he0 : e0 < 22) (hen : tr.2.2.2.1 = nI e0) (hdn : tr.2.2.2.2.2.1 = nI d0) (hd0 : d0 ≤ xZ e0) (hgt : xZ e0 - d0 < n) (hn8 : n ≤ 8) : Met l yX3_add (wX3_add :: wb) ({ frames := 2, cells := 0, slots := 0, locals := 40 } : Room) (va_Pc [.ref (a 7), .long x, .int (nI n)] (zPu D [(cA, .int)] (cw a cA N f ob tr nd))) (zb_I 0) 0 0 (fun _ => False) := by
  refine Met.ofW (cc := cX3_add) (maxL := 5) (ret := (some .boolean)) (by decide) rfl ?_
  intro p ev s m args below meth c s₁ B hml hv
  obtain ⟨rfl, hP, hK, hSt, hnw⟩ := hv
  have hx := B.exec
  have hb := B.bytes
  have hr := B.returns
  have hts := atoms_spec (ws := wX3_add :: wb) B.pre
  have htb : ∀ w ∈ wb, w.before ([.ref (a 7), .long x, .int (nI n)]).toArray s = true := fun w h => hts w (List.mem_cons_of_mem _ h)
  have hown : s.vm.findClass RX3 = some m.cls := findClass_of_methodNamed B.named
  have hlocks := B.notSynchronized
  have hS : va_S (fun _ => False) s.heap s.heap [] := va_S.rf
  obtain ⟨⟨tt, ff, hZT, hTT, hZF, hTF⟩, hXS⟩ := id hSt
  have hl := lv_entry ([.ref (a 7), .long x, .int (nI n)]) (n := 5) (Nat.le_of_ble_eq_true rfl)
  rw [lg_entry_eq]
  generalize (lg_sl ([.ref (a 7), .long x, .int (nI n)]) ++ List.replicate (5 - (lg_sl ([.ref (a 7), .long x, .int (nI n)])).length) Slot.unset).toArray = ls at hl ⊢
  have hl : lv_has ls 5 [(0, .ref (a 7)), (1, .long x), (3, .int (nI n))] := hl
  refine zb_abs (fun Q hQ => ?_)
  obtain ⟨h0, go0, wr0, en0, ad0, dn0, tu0, ti0⟩ := tr
  obtain rfl : en0 = nI e0 := hen
  obtain rfl : dn0 = nI d0 := hdn
  have hft := x_fit e0 he0
  refine lv_iload_n hx hb dX3_add_0 rfl (lv_at hl 2 rfl) ?_
  refine lv_aload_n hx hb dX3_add_1 rfl (lv_at hl 0 rfl) ?_
  refine zb_ci (va_runV (As := []) (rest := [.int (nI n)]) ⟨hx, hb, hml, hown, htb⟩ (c_left l D a cA N f ob (h0, go0, wr0, nI e0, ad0, nI d0, tu0, ti0) nd e0 d0 he0 rfl rfl hd0) (cwV 0 htb (wb_V kM_X3_44 kI_X3_left kS_X3_left kN_X3 kD_X3_left) rfl rfl rfl (by decide +kernel) ⟨Nat.le_of_ble_eq_true rfl, Nat.le_of_ble_eq_true rfl⟩) (zp_V 7 rfl rfl hP hK hSt hS hnw) rfl rfl hl.1 rfl (lv_room (Nat.le_of_ble_eq_true rfl)) dX3_add_2 ⟨Nat.le_of_ble_eq_true rfl, Nat.le_of_ble_eq_true rfl⟩) ?_
  refine lv_icmp_le (tgt := 10) hx hb dX3_add_5 (by decide) (fun hno => absurd hno (nI_ge hgt (by omega))) (fun _ => ?_)
  refine lv_iconst (v := 0) hx hb dX3_add_8 (by decide) ?_
  rw [hQ]
  exact W.zret (v := 0) hx hb hr rfl (fun t ht hW => ⟨congrArg (fun z => Outcome.returned (some (Value.int z))) (rfl), ht⟩) (fun q h => nomatch h) dX3_add_9
set_option maxHeartbeats 4000000 in
set_option maxRecDepth 100000 in
theorem c_number (l : Launch) (D : va_G) (a : Nat → Nat) (cA : ClassId) (N : Int32) (f : Nat → Int32) (ob : OB) (tr : TR) (nd : ND) (e0 d0 : Nat) (he0 : e0 < 22) (hen : tr.2.2.2.1 = nI e0) (hdn : tr.2.2.2.2.2.1 = nI d0) (hd0 : d0 ≤ xZ e0) (hB : isB tr.1) : Met l yX3_number (wX3_number :: wb) ({ frames := 0, cells := 0, slots := 0, locals := 0 } : Room) (va_Pc [.ref (a 7)] (zPu D [(cA, .int)] (cw a cA N f ob tr nd))) (zb_I (nI (sm tr.1 0 (min d0 4)))) 0 0 (fun _ => False) := by
  refine Met.ofW (cc := cX3_number) (maxL := 3) (ret := (some .int)) (by decide) rfl ?_
  intro p ev s m args below meth c s₁ B hml hv
  obtain ⟨rfl, hP, hK, hSt, hnw⟩ := hv
  have hx := B.exec
  have hb := B.bytes
  have hr := B.returns
  have hts := atoms_spec (ws := wX3_number :: wb) B.pre
  have htb : ∀ w ∈ wb, w.before ([.ref (a 7)]).toArray s = true := fun w h => hts w (List.mem_cons_of_mem _ h)
  have hown : s.vm.findClass RX3 = some m.cls := findClass_of_methodNamed B.named
  have hlocks := B.notSynchronized
  have hS : va_S (fun _ => False) s.heap s.heap [] := va_S.rf
  obtain ⟨⟨tt, ff, hZT, hTT, hZF, hTF⟩, hXS⟩ := id hSt
  have hl := lv_entry ([.ref (a 7)]) (n := 3) (Nat.le_of_ble_eq_true rfl)
  rw [lg_entry_eq]
  generalize (lg_sl ([.ref (a 7)]) ++ List.replicate (3 - (lg_sl ([.ref (a 7)])).length) Slot.unset).toArray = ls at hl ⊢
  have hl : lv_has ls 3 [(0, .ref (a 7))] := hl
  refine zb_abs (fun Q hQ => ?_)
  obtain ⟨h0, go0, wr0, en0, ad0, dn0, tu0, ti0⟩ := tr
  obtain rfl : en0 = nI e0 := hen
  obtain rfl : dn0 = nI d0 := hdn
  have hft := x_fit e0 he0
  refine lv_iconst (v := 0) hx hb dX3_number_0 (by decide) ?_
  refine lv_istore_n hx hb dX3_number_1 rfl hl (by decide) rfl (fun ls hl => ?_)
  have hl : lv_has ls 3 [(1, .int 0), (0, .ref (a 7))] := hl
  refine lv_iconst (v := 0) hx hb dX3_number_2 (by decide) ?_
  refine lv_istore_n hx hb dX3_number_3 rfl hl (by decide) rfl (fun ls hl => ?_)
  have hl : lv_has ls 3 [(2, .int 0), (1, .int 0), (0, .ref (a 7))] := hl
  have lp : ∀ (nn k : Nat) (ls : Array Slot), k + nn = min d0 4 → lv_has ls 3 [(0, .ref (a 7)), (1, .int (nI (sm h0 0 (k)))), (2, .int (nI (k)))] → W p l ev ({ frames := 0, cells := 0, slots := 0, locals := 0 } : Room) s m ([.ref (a 7)]).toArray below meth c s.heap [] 0 0 Q (F0 m 4 ls []) := by
    intro nn
    induction nn with
    | zero =>
      intro k ls hk_lp  hl
      have hk0_lp : k = min d0 4 := by omega
      refine lv_iload_n hx hb dX3_number_4 rfl (lv_at hl 2 rfl) ?_
      refine lv_aload_n hx hb dX3_number_5 rfl (lv_at hl 0 rfl) ?_
      refine va_get (D := D) (ci := 3) (v := .int (nI d0)) (fs := [.ref (a 8), .int go0, .int wr0, .int (nI e0), .int ad0, .int (nI d0), .int tu0, .int ti0]) (C := RX3) (T := TX3) (N := 8) hx hb htb inX3 hown hK hP 7 rfl rfl 5 (by decide) (htb _ kF_X3_31) (fun _ h9 => h9) rfl dX3_number_6 ?_
      refine lv_icmp_ge (tgt := 37) hx hb dX3_number_9 (by decide) (fun hc1 => ?_) (fun hc1 => ?_)
      · refine lv_iload_n hx hb dX3_number_37 rfl (lv_at hl 1 rfl) ?_
        rw [hQ]
        exact W.iret (v := nI (sm h0 0 (k))) hx hb hr (fun t ht hW => ⟨congrArg (fun z => Outcome.returned (some (Value.int z))) (by rw [hk0_lp]), ht⟩) (fun q h => nomatch h) dX3_number_38
      refine lv_iload_n hx hb dX3_number_12 rfl (lv_at hl 2 rfl) ?_
      refine lv_iconst (v := 4) hx hb dX3_number_13 (by decide) ?_
      refine lv_icmp_ge (tgt := 37) hx hb dX3_number_14 (by decide) (fun _ => ?_) (fun hno => absurd (by have h9 : ¬ d0 ≤ k := fun h => hc1 (nI_le h (by omega)); rw [show k = 4 by omega]; decide) hno)
      refine lv_iload_n hx hb dX3_number_37 rfl (lv_at hl 1 rfl) ?_
      rw [hQ]
      exact W.iret (v := nI (sm h0 0 (k))) hx hb hr (fun t ht hW => ⟨congrArg (fun z => Outcome.returned (some (Value.int z))) (by rw [hk0_lp]), ht⟩) (fun q h => nomatch h) dX3_number_38
    | succ nn ih_lp =>
      intro k ls hk_lp  hl
      have hk1_lp : k < min d0 4 := by omega
      refine lv_iload_n hx hb dX3_number_4 rfl (lv_at hl 2 rfl) ?_
      refine lv_aload_n hx hb dX3_number_5 rfl (lv_at hl 0 rfl) ?_
      refine va_get (D := D) (ci := 3) (v := .int (nI d0)) (fs := [.ref (a 8), .int go0, .int wr0, .int (nI e0), .int ad0, .int (nI d0), .int tu0, .int ti0]) (C := RX3) (T := TX3) (N := 8) hx hb htb inX3 hown hK hP 7 rfl rfl 5 (by decide) (htb _ kF_X3_31) (fun _ h9 => h9) rfl dX3_number_6 ?_
      refine lv_icmp_ge (tgt := 37) hx hb dX3_number_9 (by decide) (fun hno => absurd hno (nI_ge (a := k) (b := d0) (by omega) (by omega))) (fun _ => ?_)
      refine lv_iload_n hx hb dX3_number_12 rfl (lv_at hl 2 rfl) ?_
      refine lv_iconst (v := 4) hx hb dX3_number_13 (by decide) ?_
      refine lv_icmp_ge (tgt := 37) hx hb dX3_number_14 (by decide) (fun hno => absurd hno (nI_ge (a := k) (b := 4) (by omega) (by decide))) (fun _ => ?_)
      refine lv_iload_n hx hb dX3_number_17 rfl (lv_at hl 1 rfl) ?_
      refine lv_aload_n hx hb dX3_number_18 rfl (lv_at hl 0 rfl) ?_
      refine va_get (D := D) (ci := 3) (v := .ref (a 8)) (fs := [.ref (a 8), .int go0, .int wr0, .int (nI e0), .int ad0, .int (nI d0), .int tu0, .int ti0]) (C := RX3) (T := TX3) (N := 8) hx hb htb inX3 hown hK hP 7 rfl rfl 0 (by decide) (htb _ kF_X3_11) (fun _ h9 => h9) rfl dX3_number_19 ?_
      refine lv_iload_n hx hb dX3_number_22 rfl (lv_at hl 2 rfl) ?_
      refine va_iald (i := nI (k)) hx hb hK hP 8 0 rfl rfl (vp_in_nI (by omega) (by decide)) dX3_number_23 ?_
      refine zb_ti (y := h0 (k)) (by rw [nI_clamp (by omega)]) ?_
      refine lv_bipush (v := 8) hx hb dX3_number_24 (by decide) ?_
      refine lv_iload_n hx hb dX3_number_26 rfl (lv_at hl 2 rfl) ?_
      refine lv_imul hx hb dX3_number_27 ?_
      refine zb_ti (pk_mul 8 (k)) ?_
      refine lv_ishl hx hb dX3_number_28 ?_
      refine lv_ior hx hb dX3_number_29 ?_
      refine zb_ti (y := nI (sm h0 0 (k + 1))) (by have := sm_orI (s := 0) hB (show k < 4 by omega); rw [Nat.zero_add] at this; exact this) ?_
      refine lv_istore_n hx hb dX3_number_30 rfl hl (by decide) rfl (fun ls hl => ?_)
      have hl : lv_has ls 3 [(1, .int (nI (sm h0 0 (k + 1)))), (0, .ref (a 7)), (2, .int (nI (k)))] := hl
      refine lv_iinc (k := 2) (v := nI ((k) + 1)) hx hb dX3_number_31 hl rfl (nI_1 (k)) (by decide) rfl (fun ls hl => ?_)
      have hl : lv_has ls 3 [(2, .int (nI ((k) + 1))), (1, .int (nI (sm h0 0 (k + 1)))), (0, .ref (a 7))] := hl
      refine lv_goto (tgt := 4) hx hb dX3_number_34 (by decide) ?_
      exact ih_lp (k + 1) ls (by omega) (lv_sub hl [2, 1, 0] rfl)
  exact lp (min d0 4 - 0) (0) ls (by omega) (lv_sub hl [2, 1, 0] rfl)
