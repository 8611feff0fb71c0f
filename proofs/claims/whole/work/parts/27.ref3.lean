theorem sh32 {hg : Nat} (hh : hg < 2 ^ 32) : (nI hg).toInt64 <<< ((32 : Int32).toInt64 &&& 63) = lN (hg * 4294967296) := by
  have h := jn_eq (lo := 0) (hg := hg) (by decide) hh
  rw [show (nI 0).toInt64 &&& 4294967295 = 0 from by decide, Int64.or_zero, Nat.zero_add, Nat.mul_comm] at h
  exact h
theorem an_or {fi ix sb hg : Nat} (hfi : fi < 256) (hix : ix < 65536) (hsb : sb < 256) (hhg : hg < 2 ^ 32) :
    ((((nI fi).toInt64 &&& 255) ||| ((nI ix).toInt64 <<< ((8 : Int32).toInt64 &&& 63))) ||| ((nI sb).toInt64 <<< ((24 : Int32).toInt64 &&& 63))) ||| ((nI hg).toInt64 <<< ((32 : Int32).toInt64 &&& 63)) = lN (anX fi (ix + 65536 * sb) hg) := by
  rw [nI_l (by omega), nI_l (by omega), nI_l (by omega), sh32 hhg, show (255 : Int64) = lN (2 ^ 8 - 1) from rfl, g_mask (p := 2 ^ 8) rfl (by decide) (by omega), Nat.mod_eq_of_lt (by omega),
    show (8 : Int32) = nI 8 from rfl, show (24 : Int32) = nI 24 from rfl, wb_shl _ (by decide), wb_shl _ (by decide), g_or' rfl (by omega) (by omega), g_or' rfl (by omega) (by omega), g_or' (k := 32) rfl (by omega) (by omega)]
  congr 1
  unfold anX
  omega
theorem bN_lt (x i : Nat) : bN x i < 256 := Nat.mod_lt _ (by decide)
theorem cpy_up (h f : Nat → Int32) (s k : Nat) : upd (va_cpy h f 0 s k) (s + k) (h k) = va_cpy h f 0 s (k + 1) := by
  funext j
  unfold upd va_cpy
  by_cases h1 : j = s + k
  · rw [if_pos h1, if_pos (by omega), show 0 + (j - s) = k by omega]
  · rw [if_neg h1]
    by_cases h2 : s ≤ j ∧ j < s + k
    · rw [if_pos h2, if_pos (by omega)]
    · rw [if_neg h2, if_neg (by omega)]
theorem cpy_0 (h f : Nat → Int32) (s : Nat) : va_cpy h f 0 s 0 = f := by
  funext j
  unfold va_cpy
  rw [if_neg (by omega)]
set_option maxHeartbeats 4000000 in
set_option maxRecDepth 100000 in
theorem r_send (l : Launch) (D : va_G) (b : Nat → Nat) (cA cJ : ClassId) (N : Int32) (f : Nat → Int32) (z : Int32) (ob : OB) (t : RT) (nd : ND) (q : Int64) (sg th : Int32) (sz : Nat) (kp : Nat) (fid ln : Int32) (x : Nat) (hkp : ob.2.1 = nI kp) (hkp32 : kp ≤ 32) (hx64 : x < 2 ^ 64) : Met l yX5_send (wX5_send :: wb) ({ frames := 0, cells := 0, slots := 0, locals := 0 } : Room) (va_Pc [.ref (b 0), .int fid, .int ln, .long (lN x)] (zPre D [(cA, .int), (cJ, .long)] (rw0 b cA cJ N f (ro z ob) t nd q sg th) sz)) (zb_Vv D vwCl (rw0 b cA cJ N f (ro z (ob_send ob fid ln x)) t nd q sg th) (va_A (rw0 b cA cJ N f (ro z ob) t nd q sg th) sz)) 0 0 (va_A (rw0 b cA cJ N f (ro z ob) t nd q sg th) sz) := by
  refine Met.ofW (cc := cX5_send) (maxL := 5) (ret := none) (by decide) rfl ?_
  intro p ev s m args below meth c s₁ B hml hv
  obtain ⟨rfl, hsz, hP, hK, hD0, hSt, hnw⟩ := hv
  have hx := B.exec
  have hb := B.bytes
  have hr := B.returns
  have hts := atoms_spec (ws := wX5_send :: wb) B.pre
  have htb : ∀ w ∈ wb, w.before ([.ref (b 0), .int fid, .int ln, .long (lN x)]).toArray s = true := fun w h => hts w (List.mem_cons_of_mem _ h)
  have hown : s.vm.findClass RX5 = some m.cls := findClass_of_methodNamed B.named
  have hlocks := B.notSynchronized
  subst hsz
  have hD := hD0.self (sz := s.heap.size)
  clear hD0
  generalize hAe : va_A (rw0 b cA cJ N f (ro z ob) t nd q sg th) s.heap.size = A at hD hSt ⊢
  have hA : ∀ q : Nat, s.heap.size ≤ q → A q := fun q h => by rw [← hAe]; exact Or.inr h
  have hS : va_S A s.heap s.heap [] := va_S.rf
  obtain ⟨⟨tt, ff, hZT, hTT, hZF, hTF⟩, hXS⟩ := id hSt
  have hl := lv_entry ([.ref (b 0), .int fid, .int ln, .long (lN x)]) (n := 5) (Nat.le_of_ble_eq_true rfl)
  rw [lg_entry_eq]
  generalize (lg_sl ([.ref (b 0), .int fid, .int ln, .long (lN x)]) ++ List.replicate (5 - (lg_sl ([.ref (b 0), .int fid, .int ln, .long (lN x)])).length) Slot.unset).toArray = ls at hl ⊢
  have hl : lv_has ls 5 [(0, .ref (b 0)), (1, .int fid), (2, .int ln), (3, .long (lN x))] := hl
  refine zb_abs (fun Q hQ => ?_)
  have hO : ro z ob = ((ro z ob).1, (ro z ob).2.1, (ro z ob).2.2.1, nI kp, (ro z ob).2.2.2.2) := by rw [← hkp]; rfl
  rw [hO] at hP hD
  refine lv_aload_n hx hb dX5_send_0 rfl (lv_at hl 0 rfl) ?_
  refine lv_dup hx hb dX5_send_1 rfl ?_
  refine va_get (D := D) (ci := 5) (v := .int ((ro z ob).2.2.2.2)) (fs := [.int th, .int N, .ref (b 1), .ref (b 2), .ref (b 3), .ref (b 4), .ref (b 5), .ref (b 6), .int 22, .int 95, .int nd.1, .int nd.2.2.1, .int nd.2.1, .long nd.2.2.2, .int t.2.1, .int t.2.2.1, .int t.2.2.2.1, .int t.2.2.2.2.1, .int t.2.2.2.2.2, .ref (b 7), .long q, .int sg, .ref (b 8), .ref (b 9), .ref (b 10), .int (nI kp), .int ((ro z ob).2.2.2.2)]) (C := RX5) (T := TX5) (N := 27) hx hb htb inX5 hown hK hP 0 rfl rfl 26 (by decide) (htb _ kF_X5_72) (fun _ h9 => h9) rfl dX5_send_2 ?_
  refine lv_iconst (v := 1) hx hb dX5_send_5 (by decide) ?_
  refine lv_iadd hx hb dX5_send_6 ?_
  refine va_put (D := D) (ci := 5) (v := .int (((ro z ob).2.2.2.2) + 1)) (fs := [.int th, .int N, .ref (b 1), .ref (b 2), .ref (b 3), .ref (b 4), .ref (b 5), .ref (b 6), .int 22, .int 95, .int nd.1, .int nd.2.2.1, .int nd.2.1, .long nd.2.2.2, .int t.2.1, .int t.2.2.1, .int t.2.2.2.1, .int t.2.2.2.2.1, .int t.2.2.2.2.2, .ref (b 7), .long q, .int sg, .ref (b 8), .ref (b 9), .ref (b 10), .int (nI kp), .int ((ro z ob).2.2.2.2)]) (ty := .int) (C := RX5) (T := TX5) (N := 27) hx hb htb inX5 tyX5 tyX5_ok nmX5 hown hK hP hD hS 0 rfl rfl 26 (by decide) (htb _ kF_X5_72) (fun _ h9 => h9) rfl (by decide +kernel) rfl rfl (Nat.le_of_ble_eq_true rfl) dX5_send_7 (fun H locs hP hD hS => ?_)
  have hP : va_P D vwCl (rw0 b cA cJ N f ((ro z ob).1, (ro z ob).2.1, (ro z ob).2.2.1, nI kp, ((ro z ob).2.2.2.2) + 1) t nd q sg th) H := hP
  have hD : va_D A (rw0 b cA cJ N f ((ro z ob).1, (ro z ob).2.1, (ro z ob).2.2.1, nI kp, ((ro z ob).2.2.2.2) + 1) t nd q sg th) := hD
  refine lv_aload_n hx hb dX5_send_10 rfl (lv_at hl 0 rfl) ?_
  refine va_get (D := D) (ci := 5) (v := .int (nI kp)) (fs := [.int th, .int N, .ref (b 1), .ref (b 2), .ref (b 3), .ref (b 4), .ref (b 5), .ref (b 6), .int 22, .int 95, .int nd.1, .int nd.2.2.1, .int nd.2.1, .long nd.2.2.2, .int t.2.1, .int t.2.2.1, .int t.2.2.2.1, .int t.2.2.2.2.1, .int t.2.2.2.2.2, .ref (b 7), .long q, .int sg, .ref (b 8), .ref (b 9), .ref (b 10), .int (nI kp), .int (((ro z ob).2.2.2.2) + 1)]) (C := RX5) (T := TX5) (N := 27) hx hb htb inX5 hown hK hP 0 rfl rfl 25 (by decide) (htb _ kF_X5_75) (fun _ h9 => h9) rfl dX5_send_11 ?_
  refine lv_bipush (v := 32) hx hb dX5_send_14 (by decide) ?_
  refine lv_icmp_ge (tgt := 59) hx hb dX5_send_16 (by decide) (fun hc1 => ?_) (fun hc1 => ?_)
  · rw [hQ]
    have hw9 : (rw0 b cA cJ N f ((ro z ob).1, (ro z ob).2.1, (ro z ob).2.2.1, nI kp, ((ro z ob).2.2.2.2) + 1) t nd q sg th) = (rw0 b cA cJ N f (ro z (ob_send ob fid ln x)) t nd q sg th) := by rw [ro_sendNo fid ln (by rw [hkp]; exact nI_nlt (b := 32) ((nI_leI (a := 32) (by decide) (by omega)).mp hc1) (by omega)), show (ro z ob).2.2.2.1 = nI kp from hkp]
    exact W.vret hx hb hr (fun t9 ht hW => ⟨rfl, by rw [ht, ← hw9]; exact hP, by rw [← hw9]; exact hD, hS.F ht⟩) hS.2.2 dX5_send_59
  have hkp2 : kp < 32 := by have h9 : ¬ 32 ≤ kp := fun h => hc1 (nI_le (a := 32) h (by omega)); omega
  refine lv_aload_n hx hb dX5_send_19 rfl (lv_at hl 0 rfl) ?_
  refine va_get (D := D) (ci := 5) (v := .ref (b 8)) (fs := [.int th, .int N, .ref (b 1), .ref (b 2), .ref (b 3), .ref (b 4), .ref (b 5), .ref (b 6), .int 22, .int 95, .int nd.1, .int nd.2.2.1, .int nd.2.1, .long nd.2.2.2, .int t.2.1, .int t.2.2.1, .int t.2.2.2.1, .int t.2.2.2.2.1, .int t.2.2.2.2.2, .ref (b 7), .long q, .int sg, .ref (b 8), .ref (b 9), .ref (b 10), .int (nI kp), .int (((ro z ob).2.2.2.2) + 1)]) (C := RX5) (T := TX5) (N := 27) hx hb htb inX5 hown hK hP 0 rfl rfl 22 (by decide) (htb _ kF_X5_31) (fun _ h9 => h9) rfl dX5_send_20 ?_
  refine lv_aload_n hx hb dX5_send_23 rfl (lv_at hl 0 rfl) ?_
  refine va_get (D := D) (ci := 5) (v := .int (nI kp)) (fs := [.int th, .int N, .ref (b 1), .ref (b 2), .ref (b 3), .ref (b 4), .ref (b 5), .ref (b 6), .int 22, .int 95, .int nd.1, .int nd.2.2.1, .int nd.2.1, .long nd.2.2.2, .int t.2.1, .int t.2.2.1, .int t.2.2.2.1, .int t.2.2.2.2.1, .int t.2.2.2.2.2, .ref (b 7), .long q, .int sg, .ref (b 8), .ref (b 9), .ref (b 10), .int (nI kp), .int (((ro z ob).2.2.2.2) + 1)]) (C := RX5) (T := TX5) (N := 27) hx hb htb inX5 hown hK hP 0 rfl rfl 25 (by decide) (htb _ kF_X5_75) (fun _ h9 => h9) rfl dX5_send_24 ?_
  refine lv_iload_n hx hb dX5_send_27 rfl (lv_at hl 1 rfl) ?_
  refine va_iast (i := nI kp) (x := fid) hx hb hK hP hD hS 8 0 rfl rfl (vp_in_nI (by omega) (by decide)) dX5_send_28 (fun H locs hP hD hS => ?_)
  rw [nI_clamp (by omega)] at hP hD
  have hP : va_P D vwCl (rw0 b cA cJ N f (upd ((ro z ob).1) kp fid, (ro z ob).2.1, (ro z ob).2.2.1, nI kp, ((ro z ob).2.2.2.2) + 1) t nd q sg th) H := hP
  have hD : va_D A (rw0 b cA cJ N f (upd ((ro z ob).1) kp fid, (ro z ob).2.1, (ro z ob).2.2.1, nI kp, ((ro z ob).2.2.2.2) + 1) t nd q sg th) := hD
  refine lv_aload_n hx hb dX5_send_29 rfl (lv_at hl 0 rfl) ?_
  refine va_get (D := D) (ci := 5) (v := .ref (b 9)) (fs := [.int th, .int N, .ref (b 1), .ref (b 2), .ref (b 3), .ref (b 4), .ref (b 5), .ref (b 6), .int 22, .int 95, .int nd.1, .int nd.2.2.1, .int nd.2.1, .long nd.2.2.2, .int t.2.1, .int t.2.2.1, .int t.2.2.2.1, .int t.2.2.2.2.1, .int t.2.2.2.2.2, .ref (b 7), .long q, .int sg, .ref (b 8), .ref (b 9), .ref (b 10), .int (nI kp), .int (((ro z ob).2.2.2.2) + 1)]) (C := RX5) (T := TX5) (N := 27) hx hb htb inX5 hown hK hP 0 rfl rfl 23 (by decide) (htb _ kF_X5_34) (fun _ h9 => h9) rfl dX5_send_30 ?_
  refine lv_aload_n hx hb dX5_send_33 rfl (lv_at hl 0 rfl) ?_
  refine va_get (D := D) (ci := 5) (v := .int (nI kp)) (fs := [.int th, .int N, .ref (b 1), .ref (b 2), .ref (b 3), .ref (b 4), .ref (b 5), .ref (b 6), .int 22, .int 95, .int nd.1, .int nd.2.2.1, .int nd.2.1, .long nd.2.2.2, .int t.2.1, .int t.2.2.1, .int t.2.2.2.1, .int t.2.2.2.2.1, .int t.2.2.2.2.2, .ref (b 7), .long q, .int sg, .ref (b 8), .ref (b 9), .ref (b 10), .int (nI kp), .int (((ro z ob).2.2.2.2) + 1)]) (C := RX5) (T := TX5) (N := 27) hx hb htb inX5 hown hK hP 0 rfl rfl 25 (by decide) (htb _ kF_X5_75) (fun _ h9 => h9) rfl dX5_send_34 ?_
  refine lv_iload_n hx hb dX5_send_37 rfl (lv_at hl 2 rfl) ?_
  refine va_iast (i := nI kp) (x := ln) hx hb hK hP hD hS 9 0 rfl rfl (vp_in_nI (by omega) (by decide)) dX5_send_38 (fun H locs hP hD hS => ?_)
  rw [nI_clamp (by omega)] at hP hD
  have hP : va_P D vwCl (rw0 b cA cJ N f (upd ((ro z ob).1) kp fid, upd ((ro z ob).2.1) kp ln, (ro z ob).2.2.1, nI kp, ((ro z ob).2.2.2.2) + 1) t nd q sg th) H := hP
  have hD : va_D A (rw0 b cA cJ N f (upd ((ro z ob).1) kp fid, upd ((ro z ob).2.1) kp ln, (ro z ob).2.2.1, nI kp, ((ro z ob).2.2.2.2) + 1) t nd q sg th) := hD
  refine lv_aload_n hx hb dX5_send_39 rfl (lv_at hl 0 rfl) ?_
  refine va_get (D := D) (ci := 5) (v := .ref (b 10)) (fs := [.int th, .int N, .ref (b 1), .ref (b 2), .ref (b 3), .ref (b 4), .ref (b 5), .ref (b 6), .int 22, .int 95, .int nd.1, .int nd.2.2.1, .int nd.2.1, .long nd.2.2.2, .int t.2.1, .int t.2.2.1, .int t.2.2.2.1, .int t.2.2.2.2.1, .int t.2.2.2.2.2, .ref (b 7), .long q, .int sg, .ref (b 8), .ref (b 9), .ref (b 10), .int (nI kp), .int (((ro z ob).2.2.2.2) + 1)]) (C := RX5) (T := TX5) (N := 27) hx hb htb inX5 hown hK hP 0 rfl rfl 24 (by decide) (htb _ kF_X5_37) (fun _ h9 => h9) rfl dX5_send_40 ?_
  refine lv_aload_n hx hb dX5_send_43 rfl (lv_at hl 0 rfl) ?_
  refine va_get (D := D) (ci := 5) (v := .int (nI kp)) (fs := [.int th, .int N, .ref (b 1), .ref (b 2), .ref (b 3), .ref (b 4), .ref (b 5), .ref (b 6), .int 22, .int 95, .int nd.1, .int nd.2.2.1, .int nd.2.1, .long nd.2.2.2, .int t.2.1, .int t.2.2.1, .int t.2.2.2.1, .int t.2.2.2.2.1, .int t.2.2.2.2.2, .ref (b 7), .long q, .int sg, .ref (b 8), .ref (b 9), .ref (b 10), .int (nI kp), .int (((ro z ob).2.2.2.2) + 1)]) (C := RX5) (T := TX5) (N := 27) hx hb htb inX5 hown hK hP 0 rfl rfl 25 (by decide) (htb _ kF_X5_75) (fun _ h9 => h9) rfl dX5_send_44 ?_
  refine lv_lload_n hx hb dX5_send_47 rfl (lv_at hl 3 rfl) ?_
  refine va_last (i := nI kp) (x := lN x) hx hb hK hP hD hS 10 1 rfl rfl (vp_in_nI (by omega) (by decide)) dX5_send_48 (fun H locs hP hD hS => ?_)
  rw [nI_clamp (by omega)] at hP hD
  have hP : va_P D vwCl (rw0 b cA cJ N f (upd ((ro z ob).1) kp fid, upd ((ro z ob).2.1) kp ln, vp_updL ((ro z ob).2.2.1) kp (lN x), nI kp, ((ro z ob).2.2.2.2) + 1) t nd q sg th) H := hP
  have hD : va_D A (rw0 b cA cJ N f (upd ((ro z ob).1) kp fid, upd ((ro z ob).2.1) kp ln, vp_updL ((ro z ob).2.2.1) kp (lN x), nI kp, ((ro z ob).2.2.2.2) + 1) t nd q sg th) := hD
  refine lv_aload_n hx hb dX5_send_49 rfl (lv_at hl 0 rfl) ?_
  refine lv_dup hx hb dX5_send_50 rfl ?_
  refine va_get (D := D) (ci := 5) (v := .int (nI kp)) (fs := [.int th, .int N, .ref (b 1), .ref (b 2), .ref (b 3), .ref (b 4), .ref (b 5), .ref (b 6), .int 22, .int 95, .int nd.1, .int nd.2.2.1, .int nd.2.1, .long nd.2.2.2, .int t.2.1, .int t.2.2.1, .int t.2.2.2.1, .int t.2.2.2.2.1, .int t.2.2.2.2.2, .ref (b 7), .long q, .int sg, .ref (b 8), .ref (b 9), .ref (b 10), .int (nI kp), .int (((ro z ob).2.2.2.2) + 1)]) (C := RX5) (T := TX5) (N := 27) hx hb htb inX5 hown hK hP 0 rfl rfl 25 (by decide) (htb _ kF_X5_75) (fun _ h9 => h9) rfl dX5_send_51 ?_
  refine lv_iconst (v := 1) hx hb dX5_send_54 (by decide) ?_
  refine lv_iadd hx hb dX5_send_55 ?_
  refine zb_ti (nI_add kp 1) ?_
  refine va_put (D := D) (ci := 5) (v := .int (nI (kp + 1))) (fs := [.int th, .int N, .ref (b 1), .ref (b 2), .ref (b 3), .ref (b 4), .ref (b 5), .ref (b 6), .int 22, .int 95, .int nd.1, .int nd.2.2.1, .int nd.2.1, .long nd.2.2.2, .int t.2.1, .int t.2.2.1, .int t.2.2.2.1, .int t.2.2.2.2.1, .int t.2.2.2.2.2, .ref (b 7), .long q, .int sg, .ref (b 8), .ref (b 9), .ref (b 10), .int (nI kp), .int (((ro z ob).2.2.2.2) + 1)]) (ty := .int) (C := RX5) (T := TX5) (N := 27) hx hb htb inX5 tyX5 tyX5_ok nmX5 hown hK hP hD hS 0 rfl rfl 25 (by decide) (htb _ kF_X5_75) (fun _ h9 => h9) rfl (by decide +kernel) rfl rfl (Nat.le_of_ble_eq_true rfl) dX5_send_56 (fun H locs hP hD hS => ?_)
  have hP : va_P D vwCl (rw0 b cA cJ N f (upd ((ro z ob).1) kp fid, upd ((ro z ob).2.1) kp ln, vp_updL ((ro z ob).2.2.1) kp (lN x), nI (kp + 1), ((ro z ob).2.2.2.2) + 1) t nd q sg th) H := hP
  have hD : va_D A (rw0 b cA cJ N f (upd ((ro z ob).1) kp fid, upd ((ro z ob).2.1) kp ln, vp_updL ((ro z ob).2.2.1) kp (lN x), nI (kp + 1), ((ro z ob).2.2.2.2) + 1) t nd q sg th) := hD
  rw [hQ]
  have hw9 : (rw0 b cA cJ N f (upd ((ro z ob).1) kp fid, upd ((ro z ob).2.1) kp ln, vp_updL ((ro z ob).2.2.1) kp (lN x), nI (kp + 1), ((ro z ob).2.2.2.2) + 1) t nd q sg th) = (rw0 b cA cJ N f (ro z (ob_send ob fid ln x)) t nd q sg th) := by rw [ro_send fid ln hx64 hkp hkp2]
  exact W.vret hx hb hr (fun t9 ht hW => ⟨rfl, by rw [ht, ← hw9]; exact hP, by rw [← hw9]; exact hD, hS.F ht⟩) hS.2.2 dX5_send_59
set_option maxHeartbeats 4000000 in
set_option maxRecDepth 100000 in
theorem r_answer (l : Launch) (D : va_G) (b : Nat → Nat) (cA cJ : ClassId) (N : Int32) (f : Nat → Int32) (z : Int32) (ob : OB) (t : RT) (nd : ND) (q : Int64) (sg th : Int32) (sz : Nat) (fi ix sb hg : Nat) (ho : obK ob) (hfi : fi < 256) (hix : ix < 65536) (hsb : sb < 256) (hhg : hg < 2 ^ 32) : Met l yX5_answer (wX5_answer :: wb) ({ frames := 1, cells := 0, slots := 0, locals := 24 } : Room) (va_Pc [.ref (b 0), .int (nI fi), .int (nI ix), .int (nI sb), .int (nI hg)] (zPre D [(cA, .int), (cJ, .long)] (rw0 b cA cJ N f (ro z ob) t nd q sg th) sz)) (zb_Vv D vwCl (rw0 b cA cJ N f (ro z (kAns N ob fi (ix + 65536 * sb) hg)) t nd q sg th) (va_A (rw0 b cA cJ N f (ro z ob) t nd q sg th) sz)) 0 0 (va_A (rw0 b cA cJ N f (ro z ob) t nd q sg th) sz) := by
  refine Met.ofW (cc := cX5_answer) (maxL := 5) (ret := none) (by decide) rfl ?_
  intro p ev s m args below meth c s₁ B hml hv
  obtain ⟨rfl, hsz, hP, hK, hD0, hSt, hnw⟩ := hv
  have hx := B.exec
  have hb := B.bytes
  have hr := B.returns
  have hts := atoms_spec (ws := wX5_answer :: wb) B.pre
  have htb : ∀ w ∈ wb, w.before ([.ref (b 0), .int (nI fi), .int (nI ix), .int (nI sb), .int (nI hg)]).toArray s = true := fun w h => hts w (List.mem_cons_of_mem _ h)
  have hown : s.vm.findClass RX5 = some m.cls := findClass_of_methodNamed B.named
  have hlocks := B.notSynchronized
  subst hsz
  have hD := hD0.self (sz := s.heap.size)
  clear hD0
  generalize hAe : va_A (rw0 b cA cJ N f (ro z ob) t nd q sg th) s.heap.size = A at hD hSt ⊢
  have hA : ∀ q : Nat, s.heap.size ≤ q → A q := fun q h => by rw [← hAe]; exact Or.inr h
  have hS : va_S A s.heap s.heap [] := va_S.rf
  obtain ⟨⟨tt, ff, hZT, hTT, hZF, hTF⟩, hXS⟩ := id hSt
  have hl := lv_entry ([.ref (b 0), .int (nI fi), .int (nI ix), .int (nI sb), .int (nI hg)]) (n := 5) (Nat.le_of_ble_eq_true rfl)
  rw [lg_entry_eq]
  generalize (lg_sl ([.ref (b 0), .int (nI fi), .int (nI ix), .int (nI sb), .int (nI hg)]) ++ List.replicate (5 - (lg_sl ([.ref (b 0), .int (nI fi), .int (nI ix), .int (nI sb), .int (nI hg)])).length) Slot.unset).toArray = ls at hl ⊢
  have hl : lv_has ls 5 [(0, .ref (b 0)), (1, .int (nI fi)), (2, .int (nI ix)), (3, .int (nI sb)), (4, .int (nI hg))] := hl
  refine zb_abs (fun Q hQ => ?_)
  obtain ⟨kp, hkp32, hkp⟩ := ho
  refine lv_aload_n hx hb dX5_answer_0 rfl (lv_at hl 0 rfl) ?_
  refine lv_sipush (v := 1408) hx hb dX5_answer_1 (by decide) ?_
  refine lv_aload_n hx hb dX5_answer_4 rfl (lv_at hl 0 rfl) ?_
  refine va_get (D := D) (ci := 5) (v := .int N) (fs := [.int th, .int N, .ref (b 1), .ref (b 2), .ref (b 3), .ref (b 4), .ref (b 5), .ref (b 6), .int 22, .int 95, .int nd.1, .int nd.2.2.1, .int nd.2.1, .long nd.2.2.2, .int t.2.1, .int t.2.2.1, .int t.2.2.2.1, .int t.2.2.2.2.1, .int t.2.2.2.2.2, .ref (b 7), .long q, .int sg, .ref (b 8), .ref (b 9), .ref (b 10), .int ((ro z ob).2.2.2.1), .int ((ro z ob).2.2.2.2)]) (C := RX5) (T := TX5) (N := 27) hx hb htb inX5 hown hK hP 0 rfl rfl 1 (by decide) (htb _ kF_X5_41) (fun _ h9 => h9) rfl dX5_answer_5 ?_
  refine lv_iadd hx hb dX5_answer_8 ?_
  refine lv_bipush (v := 8) hx hb dX5_answer_9 (by decide) ?_
  refine lv_iload_n hx hb dX5_answer_11 rfl (lv_at hl 1 rfl) ?_
  refine lv_i2l hx hb dX5_answer_12 rfl ?_
  refine lv_ldc2 (v := 255) hx hb hown (htb _ kQ_X5_70) dX5_answer_13 ?_
  refine lv_land hx hb dX5_answer_16 ?_
  refine lv_iload_n hx hb dX5_answer_17 rfl (lv_at hl 2 rfl) ?_
  refine lv_i2l hx hb dX5_answer_18 rfl ?_
  refine lv_bipush (v := 8) hx hb dX5_answer_19 (by decide) ?_
  refine lv_lshl hx hb dX5_answer_21 rfl ?_
  refine lv_lor hx hb dX5_answer_22 ?_
  refine lv_iload_n hx hb dX5_answer_23 rfl (lv_at hl 3 rfl) ?_
  refine lv_i2l hx hb dX5_answer_24 rfl ?_
  refine lv_bipush (v := 24) hx hb dX5_answer_25 (by decide) ?_
  refine lv_lshl hx hb dX5_answer_27 rfl ?_
  refine lv_lor hx hb dX5_answer_28 ?_
  refine lv_iload hx hb dX5_answer_29 (lv_at hl 4 rfl) ?_
  refine lv_i2l hx hb dX5_answer_31 rfl ?_
  refine lv_bipush (v := 32) hx hb dX5_answer_32 (by decide) ?_
  refine lv_lshl hx hb dX5_answer_34 rfl ?_
  refine lv_lor hx hb dX5_answer_35 ?_
  refine zb_tl (y := lN (anX fi (ix + 65536 * sb) hg)) (an_or hfi hix hsb hhg) ?_
  refine zb_cv (va_runV (As := [.int (1408 + N), .int 8, .long (lN (anX fi (ix + 65536 * sb) hg))]) (rest := []) ⟨hx, hb, hml, hown, htb⟩ (r_send l D b cA cJ N f z ob t nd q sg th _ kp (1408 + N) 8 (anX fi (ix + 65536 * sb) hg) hkp hkp32 (by unfold anX; omega)) (cwV 3 htb (wb_V kM_X5_78 kI_X5_send kS_X5_send kN_X5 kD_X5_send) rfl rfl rfl (by decide +kernel) ⟨Nat.le_of_ble_eq_true rfl, Nat.le_of_ble_eq_true rfl⟩) (zp_VW 0 rfl rfl hP hD hK hSt hS hA hnw) rfl rfl hl.1 rfl (lv_room (Nat.le_of_ble_eq_true rfl)) dX5_answer_36 ⟨Nat.le_of_ble_eq_true rfl, Nat.le_of_ble_eq_true rfl⟩) hD hS hA (fun H locs hP hD hS => ?_)
  have hP : va_P D vwCl (rw0 b cA cJ N f (ro z (ob_send ob (1408 + N) 8 (anX fi (ix + 65536 * sb) hg))) t nd q sg th) H := hP
  have hD : va_D A (rw0 b cA cJ N f (ro z (ob_send ob (1408 + N) 8 (anX fi (ix + 65536 * sb) hg))) t nd q sg th) := hD
  rw [hQ]
  have hw9 : (rw0 b cA cJ N f (ro z (ob_send ob (1408 + N) 8 (anX fi (ix + 65536 * sb) hg))) t nd q sg th) = (rw0 b cA cJ N f (ro z (kAns N ob fi (ix + 65536 * sb) hg)) t nd q sg th) := rfl
  exact W.vret hx hb hr (fun t9 ht hW => ⟨rfl, by rw [ht, ← hw9]; exact hP, by rw [← hw9]; exact hD, hS.F ht⟩) hS.2.2 dX5_answer_39
set_option maxHeartbeats 4000000 in
set_option maxRecDepth 100000 in
theorem r_abort0 (l : Launch) (D : va_G) (b : Nat → Nat) (cA cJ : ClassId) (N : Int32) (f : Nat → Int32) (z : Int32) (ob : OB) (t : RT) (nd : ND) (x : Nat) (sg th : Int32) (sz : Nat) (ad cd : Nat) (ho : obK ob) (had : x / 256 % 65536 + 65536 * bN x 3 = ad) (hcd : cd < 2 ^ 32) : Met l yX5_abort (wX5_abort :: wb) ({ frames := 2, cells := 0, slots := 0, locals := 48 } : Room) (va_Pc [.ref (b 0), .int (nI cd), .int 0] (zPre D [(cA, .int), (cJ, .long)] (rw0 b cA cJ N f (ro z ob) t nd (lN x) sg th) sz)) (zb_Vv D vwCl (rw0 b cA cJ N f (ro z (kAns N ob 128 ad cd)) (t.1, 0, t.2.2) nd (lN x) sg th) (va_A (rw0 b cA cJ N f (ro z ob) t nd (lN x) sg th) sz)) 0 0 (va_A (rw0 b cA cJ N f (ro z ob) t nd (lN x) sg th) sz) := by
  refine Met.ofW (cc := cX5_abort) (maxL := 5) (ret := none) (by decide) rfl ?_
  intro p ev s m args below meth c s₁ B hml hv
  obtain ⟨rfl, hsz, hP, hK, hD0, hSt, hnw⟩ := hv
  have hx := B.exec
  have hb := B.bytes
  have hr := B.returns
  have hts := atoms_spec (ws := wX5_abort :: wb) B.pre
  have htb : ∀ w ∈ wb, w.before ([.ref (b 0), .int (nI cd), .int 0]).toArray s = true := fun w h => hts w (List.mem_cons_of_mem _ h)
  have hown : s.vm.findClass RX5 = some m.cls := findClass_of_methodNamed B.named
  have hlocks := B.notSynchronized
  subst hsz
  have hD := hD0.self (sz := s.heap.size)
  clear hD0
  generalize hAe : va_A (rw0 b cA cJ N f (ro z ob) t nd (lN x) sg th) s.heap.size = A at hD hSt ⊢
  have hA : ∀ q : Nat, s.heap.size ≤ q → A q := fun q h => by rw [← hAe]; exact Or.inr h
  have hS : va_S A s.heap s.heap [] := va_S.rf
  obtain ⟨⟨tt, ff, hZT, hTT, hZF, hTF⟩, hXS⟩ := id hSt
  have hl := lv_entry ([.ref (b 0), .int (nI cd), .int 0]) (n := 5) (Nat.le_of_ble_eq_true rfl)
  rw [lg_entry_eq]
  generalize (lg_sl ([.ref (b 0), .int (nI cd), .int 0]) ++ List.replicate (5 - (lg_sl ([.ref (b 0), .int (nI cd), .int 0])).length) Slot.unset).toArray = ls at hl ⊢
  have hl : lv_has ls 5 [(0, .ref (b 0)), (1, .int (nI cd)), (2, .int 0)] := hl
  refine zb_abs (fun Q hQ => ?_)
  refine lv_aload_n hx hb dX5_abort_0 rfl (lv_at hl 0 rfl) ?_
  refine va_get (D := D) (ci := 5) (v := .long (lN x)) (fs := [.int th, .int N, .ref (b 1), .ref (b 2), .ref (b 3), .ref (b 4), .ref (b 5), .ref (b 6), .int 22, .int 95, .int nd.1, .int nd.2.2.1, .int nd.2.1, .long nd.2.2.2, .int t.2.1, .int t.2.2.1, .int t.2.2.2.1, .int t.2.2.2.2.1, .int t.2.2.2.2.2, .ref (b 7), .long (lN x), .int sg, .ref (b 8), .ref (b 9), .ref (b 10), .int ((ro z ob).2.2.2.1), .int ((ro z ob).2.2.2.2)]) (C := RX5) (T := TX5) (N := 27) hx hb htb inX5 hown hK hP 0 rfl rfl 20 (by decide) (htb _ kF_X5_123) (fun _ h9 => h9) rfl dX5_abort_1 ?_
  refine lv_bipush (v := 8) hx hb dX5_abort_4 (by decide) ?_
  refine lv_lshr hx hb dX5_abort_6 rfl ?_
  refine lv_ldc2 (v := 65535) hx hb hown (htb _ kQ_X5_126) dX5_abort_7 ?_
  refine lv_land hx hb dX5_abort_10 ?_
  refine lv_l2i hx hb dX5_abort_11 rfl ?_
  refine zb_ti (y := nI (x / 256 % 65536)) (sar_16 x) ?_
  refine lv_istore_n hx hb dX5_abort_12 rfl hl (by decide) rfl (fun ls hl => ?_)
  have hl : lv_has ls 5 [(3, .int (nI (x / 256 % 65536))), (0, .ref (b 0)), (1, .int (nI cd)), (2, .int 0)] := hl
  refine lv_aload_n hx hb dX5_abort_13 rfl (lv_at hl 1 rfl) ?_
  refine va_get (D := D) (ci := 5) (v := .long (lN x)) (fs := [.int th, .int N, .ref (b 1), .ref (b 2), .ref (b 3), .ref (b 4), .ref (b 5), .ref (b 6), .int 22, .int 95, .int nd.1, .int nd.2.2.1, .int nd.2.1, .long nd.2.2.2, .int t.2.1, .int t.2.2.1, .int t.2.2.2.1, .int t.2.2.2.2.1, .int t.2.2.2.2.2, .ref (b 7), .long (lN x), .int sg, .ref (b 8), .ref (b 9), .ref (b 10), .int ((ro z ob).2.2.2.1), .int ((ro z ob).2.2.2.2)]) (C := RX5) (T := TX5) (N := 27) hx hb htb inX5 hown hK hP 0 rfl rfl 20 (by decide) (htb _ kF_X5_123) (fun _ h9 => h9) rfl dX5_abort_14 ?_
  refine lv_iconst (v := 3) hx hb dX5_abort_17 (by decide) ?_
  refine zb_ci (va_runS (As := [.long (lN x), .int 3]) (rest := []) ⟨hx, hb, hml, hown, htb⟩ (r_byteOf l D b cA cJ N f (ro z ob) t nd (lN x) sg th x 3 (by omega)) (va_cwS 2 htb (wb_S kM_X5_119 kZ_X5_byteOf kN_X5 kD_X5_byteOf) rfl rfl rfl (by decide +kernel) ⟨Nat.le_of_ble_eq_true rfl, Nat.le_of_ble_eq_true rfl⟩) (zp_S hP hK hSt hS hnw) rfl rfl hl.1 rfl (lv_room (Nat.le_of_ble_eq_true rfl)) dX5_abort_18 ⟨Nat.le_of_ble_eq_true rfl, Nat.le_of_ble_eq_true rfl⟩) ?_
  refine lv_istore hx hb dX5_abort_21 hl (by decide) rfl (fun ls hl => ?_)
  have hl : lv_has ls 5 [(4, .int (nI (bN x 3))), (3, .int (nI (x / 256 % 65536))), (0, .ref (b 0)), (1, .int (nI cd)), (2, .int 0)] := hl
  refine lv_iload_n hx hb dX5_abort_23 rfl (lv_at hl 4 rfl) ?_
  refine lv_if_eq (tgt := 70) hx hb dX5_abort_24 (by decide) (fun _ => ?_) (fun hno => absurd (by decide) hno)
  refine lv_aload_n hx hb dX5_abort_70 rfl (lv_at hl 2 rfl) ?_
  refine lv_iconst (v := 0) hx hb dX5_abort_71 (by decide) ?_
  refine va_put (D := D) (ci := 5) (v := .int 0) (fs := [.int th, .int N, .ref (b 1), .ref (b 2), .ref (b 3), .ref (b 4), .ref (b 5), .ref (b 6), .int 22, .int 95, .int nd.1, .int nd.2.2.1, .int nd.2.1, .long nd.2.2.2, .int t.2.1, .int t.2.2.1, .int t.2.2.2.1, .int t.2.2.2.2.1, .int t.2.2.2.2.2, .ref (b 7), .long (lN x), .int sg, .ref (b 8), .ref (b 9), .ref (b 10), .int ((ro z ob).2.2.2.1), .int ((ro z ob).2.2.2.2)]) (ty := .int) (C := RX5) (T := TX5) (N := 27) hx hb htb inX5 tyX5 tyX5_ok nmX5 hown hK hP hD hS 0 rfl rfl 14 (by decide) (htb _ kF_X5_85) (fun _ h9 => h9) rfl (by decide +kernel) rfl rfl (Nat.le_of_ble_eq_true rfl) dX5_abort_72 (fun H locs hP hD hS => ?_)
  have hP : va_P D vwCl (rw0 b cA cJ N f (ro z ob) (t.1, 0, t.2.2.1, t.2.2.2.1, t.2.2.2.2.1, t.2.2.2.2.2) nd (lN x) sg th) H := hP
  have hD : va_D A (rw0 b cA cJ N f (ro z ob) (t.1, 0, t.2.2.1, t.2.2.2.1, t.2.2.2.2.1, t.2.2.2.2.2) nd (lN x) sg th) := hD
  refine lv_aload_n hx hb dX5_abort_75 rfl (lv_at hl 2 rfl) ?_
  refine lv_sipush (v := 128) hx hb dX5_abort_76 (by decide) ?_
  refine lv_iload_n hx hb dX5_abort_79 rfl (lv_at hl 1 rfl) ?_
  refine lv_iload hx hb dX5_abort_80 (lv_at hl 0 rfl) ?_
  refine lv_iload_n hx hb dX5_abort_82 rfl (lv_at hl 3 rfl) ?_
  refine zb_cv (va_runV (As := [.int 128, .int (nI (x / 256 % 65536)), .int (nI (bN x 3)), .int (nI cd)]) (rest := []) ⟨hx, hb, hml, hown, htb⟩ (r_answer l D b cA cJ N f z ob (t.1, 0, t.2.2.1, t.2.2.2.1, t.2.2.2.2.1, t.2.2.2.2.2) nd (lN x) sg th _ 128 (x / 256 % 65536) (bN x 3) cd ho (by decide) (Nat.mod_lt _ (by decide)) (bN_lt _ _) hcd) (cwV 4 htb (wb_V kM_X5_131 kI_X5_answer kS_X5_answer kN_X5 kD_X5_answer) rfl rfl rfl (by decide +kernel) ⟨Nat.le_of_ble_eq_true rfl, Nat.le_of_ble_eq_true rfl⟩) (zp_VW 0 rfl rfl hP hD hK hSt hS hA hnw) rfl rfl hl.1 rfl (lv_room (Nat.le_of_ble_eq_true rfl)) dX5_abort_83 ⟨Nat.le_of_ble_eq_true rfl, Nat.le_of_ble_eq_true rfl⟩) hD hS hA (fun H locs hP hD hS => ?_)
  have hP : va_P D vwCl (rw0 b cA cJ N f (ro z (kAns N ob 128 ((x / 256 % 65536) + 65536 * (bN x 3)) cd)) (t.1, 0, t.2.2.1, t.2.2.2.1, t.2.2.2.2.1, t.2.2.2.2.2) nd (lN x) sg th) H := hP
  have hD : va_D A (rw0 b cA cJ N f (ro z (kAns N ob 128 ((x / 256 % 65536) + 65536 * (bN x 3)) cd)) (t.1, 0, t.2.2.1, t.2.2.2.1, t.2.2.2.2.1, t.2.2.2.2.2) nd (lN x) sg th) := hD
  rw [hQ]
  have hw9 : (rw0 b cA cJ N f (ro z (kAns N ob 128 ((x / 256 % 65536) + 65536 * (bN x 3)) cd)) (t.1, 0, t.2.2.1, t.2.2.2.1, t.2.2.2.2.1, t.2.2.2.2.2) nd (lN x) sg th) = (rw0 b cA cJ N f (ro z (kAns N ob 128 ad cd)) (t.1, 0, t.2.2) nd (lN x) sg th) := by rw [had]
  exact W.vret hx hb hr (fun t9 ht hW => ⟨rfl, by rw [ht, ← hw9]; exact hP, by rw [← hw9]; exact hD, hS.F ht⟩) hS.2.2 dX5_abort_86
set_option maxHeartbeats 4000000 in
set_option maxRecDepth 100000 in
theorem r_abort1 (l : Launch) (D : va_G) (b : Nat → Nat) (cA cJ : ClassId) (N : Int32) (f : Nat → Int32) (z : Int32) (ob : OB) (t : RT) (nd : ND) (x : Nat) (sg th : Int32) (sz : Nat) (tr : TR) (e d ad cd : Nat) (ho : obK ob) (hN : trN tr e d ad) (hrel : rel tr t e d ad) (hcd : cd < 2 ^ 32) : Met l yX5_abort (wX5_abort :: wb) ({ frames := 2, cells := 0, slots := 0, locals := 48 } : Room) (va_Pc [.ref (b 0), .int (nI cd), .int 1] (zPre D [(cA, .int), (cJ, .long)] (rw0 b cA cJ N f (ro z ob) t nd (lN x) sg th) sz)) (zb_Vv D vwCl (rw0 b cA cJ N f (ro z (kAns N ob 128 ad cd)) (t.1, 0, t.2.2) nd (lN x) sg th) (va_A (rw0 b cA cJ N f (ro z ob) t nd (lN x) sg th) sz)) 0 0 (va_A (rw0 b cA cJ N f (ro z ob) t nd (lN x) sg th) sz) := by
  refine Met.ofW (cc := cX5_abort) (maxL := 5) (ret := none) (by decide) rfl ?_
  intro p ev s m args below meth c s₁ B hml hv
  obtain ⟨rfl, hsz, hP, hK, hD0, hSt, hnw⟩ := hv
  have hx := B.exec
  have hb := B.bytes
  have hr := B.returns
  have hts := atoms_spec (ws := wX5_abort :: wb) B.pre
  have htb : ∀ w ∈ wb, w.before ([.ref (b 0), .int (nI cd), .int 1]).toArray s = true := fun w h => hts w (List.mem_cons_of_mem _ h)
  have hown : s.vm.findClass RX5 = some m.cls := findClass_of_methodNamed B.named
  have hlocks := B.notSynchronized
  subst hsz
  have hD := hD0.self (sz := s.heap.size)
  clear hD0
  generalize hAe : va_A (rw0 b cA cJ N f (ro z ob) t nd (lN x) sg th) s.heap.size = A at hD hSt ⊢
  have hA : ∀ q : Nat, s.heap.size ≤ q → A q := fun q h => by rw [← hAe]; exact Or.inr h
  have hS : va_S A s.heap s.heap [] := va_S.rf
  obtain ⟨⟨tt, ff, hZT, hTT, hZF, hTF⟩, hXS⟩ := id hSt
  have hl := lv_entry ([.ref (b 0), .int (nI cd), .int 1]) (n := 5) (Nat.le_of_ble_eq_true rfl)
  rw [lg_entry_eq]
  generalize (lg_sl ([.ref (b 0), .int (nI cd), .int 1]) ++ List.replicate (5 - (lg_sl ([.ref (b 0), .int (nI cd), .int 1])).length) Slot.unset).toArray = ls at hl ⊢
  have hl : lv_has ls 5 [(0, .ref (b 0)), (1, .int (nI cd)), (2, .int 1)] := hl
  refine zb_abs (fun Q hQ => ?_)
  obtain ⟨hrh, ⟨hg0, ht0, hz0⟩ | ⟨hg1, hw1, hen, hadd, hdu, hdn, htk⟩⟩ := hrel
  · refine lv_aload_n hx hb dX5_abort_0 rfl (lv_at hl 0 rfl) ?_
    refine va_get (D := D) (ci := 5) (v := .long (lN x)) (fs := [.int th, .int N, .ref (b 1), .ref (b 2), .ref (b 3), .ref (b 4), .ref (b 5), .ref (b 6), .int 22, .int 95, .int nd.1, .int nd.2.2.1, .int nd.2.1, .long nd.2.2.2, .int t.2.1, .int t.2.2.1, .int t.2.2.2.1, .int t.2.2.2.2.1, .int t.2.2.2.2.2, .ref (b 7), .long (lN x), .int sg, .ref (b 8), .ref (b 9), .ref (b 10), .int ((ro z ob).2.2.2.1), .int ((ro z ob).2.2.2.2)]) (C := RX5) (T := TX5) (N := 27) hx hb htb inX5 hown hK hP 0 rfl rfl 20 (by decide) (htb _ kF_X5_123) (fun _ h9 => h9) rfl dX5_abort_1 ?_
    refine lv_bipush (v := 8) hx hb dX5_abort_4 (by decide) ?_
    refine lv_lshr hx hb dX5_abort_6 rfl ?_
    refine lv_ldc2 (v := 65535) hx hb hown (htb _ kQ_X5_126) dX5_abort_7 ?_
    refine lv_land hx hb dX5_abort_10 ?_
    refine lv_l2i hx hb dX5_abort_11 rfl ?_
    refine zb_ti (y := nI (x / 256 % 65536)) (sar_16 x) ?_
    refine lv_istore_n hx hb dX5_abort_12 rfl hl (by decide) rfl (fun ls hl => ?_)
    have hl : lv_has ls 5 [(3, .int (nI (x / 256 % 65536))), (0, .ref (b 0)), (1, .int (nI cd)), (2, .int 1)] := hl
    refine lv_aload_n hx hb dX5_abort_13 rfl (lv_at hl 1 rfl) ?_
    refine va_get (D := D) (ci := 5) (v := .long (lN x)) (fs := [.int th, .int N, .ref (b 1), .ref (b 2), .ref (b 3), .ref (b 4), .ref (b 5), .ref (b 6), .int 22, .int 95, .int nd.1, .int nd.2.2.1, .int nd.2.1, .long nd.2.2.2, .int t.2.1, .int t.2.2.1, .int t.2.2.2.1, .int t.2.2.2.2.1, .int t.2.2.2.2.2, .ref (b 7), .long (lN x), .int sg, .ref (b 8), .ref (b 9), .ref (b 10), .int ((ro z ob).2.2.2.1), .int ((ro z ob).2.2.2.2)]) (C := RX5) (T := TX5) (N := 27) hx hb htb inX5 hown hK hP 0 rfl rfl 20 (by decide) (htb _ kF_X5_123) (fun _ h9 => h9) rfl dX5_abort_14 ?_
    refine lv_iconst (v := 3) hx hb dX5_abort_17 (by decide) ?_
    refine zb_ci (va_runS (As := [.long (lN x), .int 3]) (rest := []) ⟨hx, hb, hml, hown, htb⟩ (r_byteOf l D b cA cJ N f (ro z ob) t nd (lN x) sg th x 3 (by omega)) (va_cwS 2 htb (wb_S kM_X5_119 kZ_X5_byteOf kN_X5 kD_X5_byteOf) rfl rfl rfl (by decide +kernel) ⟨Nat.le_of_ble_eq_true rfl, Nat.le_of_ble_eq_true rfl⟩) (zp_S hP hK hSt hS hnw) rfl rfl hl.1 rfl (lv_room (Nat.le_of_ble_eq_true rfl)) dX5_abort_18 ⟨Nat.le_of_ble_eq_true rfl, Nat.le_of_ble_eq_true rfl⟩) ?_
    refine lv_istore hx hb dX5_abort_21 hl (by decide) rfl (fun ls hl => ?_)
    have hl : lv_has ls 5 [(4, .int (nI (bN x 3))), (3, .int (nI (x / 256 % 65536))), (0, .ref (b 0)), (1, .int (nI cd)), (2, .int 1)] := hl
    refine lv_iload_n hx hb dX5_abort_23 rfl (lv_at hl 4 rfl) ?_
    refine lv_if_eq (tgt := 70) hx hb dX5_abort_24 (by decide) (fun hno => absurd hno (by decide)) (fun _ => ?_)
    refine lv_aload_n hx hb dX5_abort_27 rfl (lv_at hl 2 rfl) ?_
    refine va_get (D := D) (ci := 5) (v := .int t.2.1) (fs := [.int th, .int N, .ref (b 1), .ref (b 2), .ref (b 3), .ref (b 4), .ref (b 5), .ref (b 6), .int 22, .int 95, .int nd.1, .int nd.2.2.1, .int nd.2.1, .long nd.2.2.2, .int t.2.1, .int t.2.2.1, .int t.2.2.2.1, .int t.2.2.2.2.1, .int t.2.2.2.2.2, .ref (b 7), .long (lN x), .int sg, .ref (b 8), .ref (b 9), .ref (b 10), .int ((ro z ob).2.2.2.1), .int ((ro z ob).2.2.2.2)]) (C := RX5) (T := TX5) (N := 27) hx hb htb inX5 hown hK hP 0 rfl rfl 14 (by decide) (htb _ kF_X5_85) (fun _ h9 => h9) rfl dX5_abort_28 ?_
    refine lv_if_ne (tgt := 38) hx hb dX5_abort_31 (by decide) (fun hno => absurd ht0 hno) (fun _ => ?_)
    refine lv_iconst (v := 0) hx hb dX5_abort_34 (by decide) ?_
    refine lv_goto (tgt := 47) hx hb dX5_abort_35 (by decide) ?_
    refine lv_istore_n hx hb dX5_abort_47 rfl hl (by decide) rfl (fun ls hl => ?_)
    have hl : lv_has ls 5 [(3, .int 0), (4, .int (nI (bN x 3))), (0, .ref (b 0)), (1, .int (nI cd)), (2, .int 1)] := hl
    refine lv_aload_n hx hb dX5_abort_48 rfl (lv_at hl 2 rfl) ?_
    refine va_get (D := D) (ci := 5) (v := .int t.2.1) (fs := [.int th, .int N, .ref (b 1), .ref (b 2), .ref (b 3), .ref (b 4), .ref (b 5), .ref (b 6), .int 22, .int 95, .int nd.1, .int nd.2.2.1, .int nd.2.1, .long nd.2.2.2, .int t.2.1, .int t.2.2.1, .int t.2.2.2.1, .int t.2.2.2.2.1, .int t.2.2.2.2.2, .ref (b 7), .long (lN x), .int sg, .ref (b 8), .ref (b 9), .ref (b 10), .int ((ro z ob).2.2.2.1), .int ((ro z ob).2.2.2.2)]) (C := RX5) (T := TX5) (N := 27) hx hb htb inX5 hown hK hP 0 rfl rfl 14 (by decide) (htb _ kF_X5_85) (fun _ h9 => h9) rfl dX5_abort_49 ?_
    refine lv_if_ne (tgt := 59) hx hb dX5_abort_52 (by decide) (fun hno => absurd ht0 hno) (fun _ => ?_)
    refine lv_iconst (v := 0) hx hb dX5_abort_55 (by decide) ?_
    refine lv_goto (tgt := 68) hx hb dX5_abort_56 (by decide) ?_
    refine lv_istore hx hb dX5_abort_68 hl (by decide) rfl (fun ls hl => ?_)
    have hl : lv_has ls 5 [(4, .int 0), (3, .int 0), (0, .ref (b 0)), (1, .int (nI cd)), (2, .int 1)] := hl
    refine lv_aload_n hx hb dX5_abort_70 rfl (lv_at hl 2 rfl) ?_
    refine lv_iconst (v := 0) hx hb dX5_abort_71 (by decide) ?_
    refine va_put (D := D) (ci := 5) (v := .int 0) (fs := [.int th, .int N, .ref (b 1), .ref (b 2), .ref (b 3), .ref (b 4), .ref (b 5), .ref (b 6), .int 22, .int 95, .int nd.1, .int nd.2.2.1, .int nd.2.1, .long nd.2.2.2, .int t.2.1, .int t.2.2.1, .int t.2.2.2.1, .int t.2.2.2.2.1, .int t.2.2.2.2.2, .ref (b 7), .long (lN x), .int sg, .ref (b 8), .ref (b 9), .ref (b 10), .int ((ro z ob).2.2.2.1), .int ((ro z ob).2.2.2.2)]) (ty := .int) (C := RX5) (T := TX5) (N := 27) hx hb htb inX5 tyX5 tyX5_ok nmX5 hown hK hP hD hS 0 rfl rfl 14 (by decide) (htb _ kF_X5_85) (fun _ h9 => h9) rfl (by decide +kernel) rfl rfl (Nat.le_of_ble_eq_true rfl) dX5_abort_72 (fun H locs hP hD hS => ?_)
    have hP : va_P D vwCl (rw0 b cA cJ N f (ro z ob) (t.1, 0, t.2.2.1, t.2.2.2.1, t.2.2.2.2.1, t.2.2.2.2.2) nd (lN x) sg th) H := hP
    have hD : va_D A (rw0 b cA cJ N f (ro z ob) (t.1, 0, t.2.2.1, t.2.2.2.1, t.2.2.2.2.1, t.2.2.2.2.2) nd (lN x) sg th) := hD
    refine lv_aload_n hx hb dX5_abort_75 rfl (lv_at hl 2 rfl) ?_
    refine lv_sipush (v := 128) hx hb dX5_abort_76 (by decide) ?_
    refine lv_iload_n hx hb dX5_abort_79 rfl (lv_at hl 1 rfl) ?_
    refine lv_iload hx hb dX5_abort_80 (lv_at hl 0 rfl) ?_
    refine lv_iload_n hx hb dX5_abort_82 rfl (lv_at hl 3 rfl) ?_
    refine zb_cv (va_runV (As := [.int 128, .int 0, .int 0, .int (nI cd)]) (rest := []) ⟨hx, hb, hml, hown, htb⟩ (r_answer l D b cA cJ N f z ob (t.1, 0, t.2.2.1, t.2.2.2.1, t.2.2.2.2.1, t.2.2.2.2.2) nd (lN x) sg th _ 128 0 0 cd ho (by decide) (by omega) (by omega) hcd) (cwV 4 htb (wb_V kM_X5_131 kI_X5_answer kS_X5_answer kN_X5 kD_X5_answer) rfl rfl rfl (by decide +kernel) ⟨Nat.le_of_ble_eq_true rfl, Nat.le_of_ble_eq_true rfl⟩) (zp_VW 0 rfl rfl hP hD hK hSt hS hA hnw) rfl rfl hl.1 rfl (lv_room (Nat.le_of_ble_eq_true rfl)) dX5_abort_83 ⟨Nat.le_of_ble_eq_true rfl, Nat.le_of_ble_eq_true rfl⟩) hD hS hA (fun H locs hP hD hS => ?_)
    have hP : va_P D vwCl (rw0 b cA cJ N f (ro z (kAns N ob 128 (0 + 65536 * 0) cd)) (t.1, 0, t.2.2.1, t.2.2.2.1, t.2.2.2.2.1, t.2.2.2.2.2) nd (lN x) sg th) H := hP
    have hD : va_D A (rw0 b cA cJ N f (ro z (kAns N ob 128 (0 + 65536 * 0) cd)) (t.1, 0, t.2.2.1, t.2.2.2.1, t.2.2.2.2.1, t.2.2.2.2.2) nd (lN x) sg th) := hD
    rw [hQ]
    have hw9 : (rw0 b cA cJ N f (ro z (kAns N ob 128 (0 + 65536 * 0) cd)) (t.1, 0, t.2.2.1, t.2.2.2.1, t.2.2.2.2.1, t.2.2.2.2.2) nd (lN x) sg th) = (rw0 b cA cJ N f (ro z (kAns N ob 128 ad cd)) (t.1, 0, t.2.2) nd (lN x) sg th) := by rw [hz0]
    exact W.vret hx hb hr (fun t9 ht hW => ⟨rfl, by rw [ht, ← hw9]; exact hP, by rw [← hw9]; exact hD, hS.F ht⟩) hS.2.2 dX5_abort_86
  · have hnz : ¬ t.2.1 = 0 := by rcases hw1 with ⟨_, h9⟩ | ⟨_, h9⟩ <;> rw [h9] <;> decide
    have hft := x_fit e hN.1
    have he22 := hN.1
    refine lv_aload_n hx hb dX5_abort_0 rfl (lv_at hl 0 rfl) ?_
    refine va_get (D := D) (ci := 5) (v := .long (lN x)) (fs := [.int th, .int N, .ref (b 1), .ref (b 2), .ref (b 3), .ref (b 4), .ref (b 5), .ref (b 6), .int 22, .int 95, .int nd.1, .int nd.2.2.1, .int nd.2.1, .long nd.2.2.2, .int t.2.1, .int t.2.2.1, .int t.2.2.2.1, .int t.2.2.2.2.1, .int t.2.2.2.2.2, .ref (b 7), .long (lN x), .int sg, .ref (b 8), .ref (b 9), .ref (b 10), .int ((ro z ob).2.2.2.1), .int ((ro z ob).2.2.2.2)]) (C := RX5) (T := TX5) (N := 27) hx hb htb inX5 hown hK hP 0 rfl rfl 20 (by decide) (htb _ kF_X5_123) (fun _ h9 => h9) rfl dX5_abort_1 ?_
    refine lv_bipush (v := 8) hx hb dX5_abort_4 (by decide) ?_
    refine lv_lshr hx hb dX5_abort_6 rfl ?_
    refine lv_ldc2 (v := 65535) hx hb hown (htb _ kQ_X5_126) dX5_abort_7 ?_
    refine lv_land hx hb dX5_abort_10 ?_
    refine lv_l2i hx hb dX5_abort_11 rfl ?_
    refine zb_ti (y := nI (x / 256 % 65536)) (sar_16 x) ?_
    refine lv_istore_n hx hb dX5_abort_12 rfl hl (by decide) rfl (fun ls hl => ?_)
    have hl : lv_has ls 5 [(3, .int (nI (x / 256 % 65536))), (0, .ref (b 0)), (1, .int (nI cd)), (2, .int 1)] := hl
    refine lv_aload_n hx hb dX5_abort_13 rfl (lv_at hl 1 rfl) ?_
    refine va_get (D := D) (ci := 5) (v := .long (lN x)) (fs := [.int th, .int N, .ref (b 1), .ref (b 2), .ref (b 3), .ref (b 4), .ref (b 5), .ref (b 6), .int 22, .int 95, .int nd.1, .int nd.2.2.1, .int nd.2.1, .long nd.2.2.2, .int t.2.1, .int t.2.2.1, .int t.2.2.2.1, .int t.2.2.2.2.1, .int t.2.2.2.2.2, .ref (b 7), .long (lN x), .int sg, .ref (b 8), .ref (b 9), .ref (b 10), .int ((ro z ob).2.2.2.1), .int ((ro z ob).2.2.2.2)]) (C := RX5) (T := TX5) (N := 27) hx hb htb inX5 hown hK hP 0 rfl rfl 20 (by decide) (htb _ kF_X5_123) (fun _ h9 => h9) rfl dX5_abort_14 ?_
    refine lv_iconst (v := 3) hx hb dX5_abort_17 (by decide) ?_
    refine zb_ci (va_runS (As := [.long (lN x), .int 3]) (rest := []) ⟨hx, hb, hml, hown, htb⟩ (r_byteOf l D b cA cJ N f (ro z ob) t nd (lN x) sg th x 3 (by omega)) (va_cwS 2 htb (wb_S kM_X5_119 kZ_X5_byteOf kN_X5 kD_X5_byteOf) rfl rfl rfl (by decide +kernel) ⟨Nat.le_of_ble_eq_true rfl, Nat.le_of_ble_eq_true rfl⟩) (zp_S hP hK hSt hS hnw) rfl rfl hl.1 rfl (lv_room (Nat.le_of_ble_eq_true rfl)) dX5_abort_18 ⟨Nat.le_of_ble_eq_true rfl, Nat.le_of_ble_eq_true rfl⟩) ?_
    refine lv_istore hx hb dX5_abort_21 hl (by decide) rfl (fun ls hl => ?_)
    have hl : lv_has ls 5 [(4, .int (nI (bN x 3))), (3, .int (nI (x / 256 % 65536))), (0, .ref (b 0)), (1, .int (nI cd)), (2, .int 1)] := hl
    refine lv_iload_n hx hb dX5_abort_23 rfl (lv_at hl 4 rfl) ?_
    refine lv_if_eq (tgt := 70) hx hb dX5_abort_24 (by decide) (fun hno => absurd hno (by decide)) (fun _ => ?_)
    refine lv_aload_n hx hb dX5_abort_27 rfl (lv_at hl 2 rfl) ?_
    refine va_get (D := D) (ci := 5) (v := .int t.2.1) (fs := [.int th, .int N, .ref (b 1), .ref (b 2), .ref (b 3), .ref (b 4), .ref (b 5), .ref (b 6), .int 22, .int 95, .int nd.1, .int nd.2.2.1, .int nd.2.1, .long nd.2.2.2, .int t.2.1, .int t.2.2.1, .int t.2.2.2.1, .int t.2.2.2.2.1, .int t.2.2.2.2.2, .ref (b 7), .long (lN x), .int sg, .ref (b 8), .ref (b 9), .ref (b 10), .int ((ro z ob).2.2.2.1), .int ((ro z ob).2.2.2.2)]) (C := RX5) (T := TX5) (N := 27) hx hb htb inX5 hown hK hP 0 rfl rfl 14 (by decide) (htb _ kF_X5_85) (fun _ h9 => h9) rfl dX5_abort_28 ?_
    refine lv_if_ne (tgt := 38) hx hb dX5_abort_31 (by decide) (fun _ => ?_) (fun hno => absurd hno hnz)
    refine lv_aload_n hx hb dX5_abort_38 rfl (lv_at hl 2 rfl) ?_
    refine va_get (D := D) (ci := 5) (v := .ref (b 1)) (fs := [.int th, .int N, .ref (b 1), .ref (b 2), .ref (b 3), .ref (b 4), .ref (b 5), .ref (b 6), .int 22, .int 95, .int nd.1, .int nd.2.2.1, .int nd.2.1, .long nd.2.2.2, .int t.2.1, .int t.2.2.1, .int t.2.2.2.1, .int t.2.2.2.2.1, .int t.2.2.2.2.2, .ref (b 7), .long (lN x), .int sg, .ref (b 8), .ref (b 9), .ref (b 10), .int ((ro z ob).2.2.2.1), .int ((ro z ob).2.2.2.2)]) (C := RX5) (T := TX5) (N := 27) hx hb htb inX5 hown hK hP 0 rfl rfl 2 (by decide) (htb _ kF_X5_7) (fun _ h9 => h9) rfl dX5_abort_39 ?_
    refine lv_aload_n hx hb dX5_abort_42 rfl (lv_at hl 2 rfl) ?_
    refine va_get (D := D) (ci := 5) (v := .int t.2.2.1) (fs := [.int th, .int N, .ref (b 1), .ref (b 2), .ref (b 3), .ref (b 4), .ref (b 5), .ref (b 6), .int 22, .int 95, .int nd.1, .int nd.2.2.1, .int nd.2.1, .long nd.2.2.2, .int t.2.1, .int t.2.2.1, .int t.2.2.2.1, .int t.2.2.2.2.1, .int t.2.2.2.2.2, .ref (b 7), .long (lN x), .int sg, .ref (b 8), .ref (b 9), .ref (b 10), .int ((ro z ob).2.2.2.1), .int ((ro z ob).2.2.2.2)]) (C := RX5) (T := TX5) (N := 27) hx hb htb inX5 hown hK hP 0 rfl rfl 15 (by decide) (htb _ kF_X5_128) (fun _ h9 => h9) rfl dX5_abort_43 ?_
    refine zb_ti (y := nI e) (hen) ?_
    refine va_iald (i := nI e) hx hb hK hP 1 0 rfl rfl (vp_in_nI (by omega) (by decide)) dX5_abort_46 ?_
    refine zb_ti (y := nI (xI e)) (by rw [nI_clamp (by omega)]) ?_
    refine lv_istore_n hx hb dX5_abort_47 rfl hl (by decide) rfl (fun ls hl => ?_)
    have hl : lv_has ls 5 [(3, .int (nI (xI e))), (4, .int (nI (bN x 3))), (0, .ref (b 0)), (1, .int (nI cd)), (2, .int 1)] := hl
    refine lv_aload_n hx hb dX5_abort_48 rfl (lv_at hl 2 rfl) ?_
    refine va_get (D := D) (ci := 5) (v := .int t.2.1) (fs := [.int th, .int N, .ref (b 1), .ref (b 2), .ref (b 3), .ref (b 4), .ref (b 5), .ref (b 6), .int 22, .int 95, .int nd.1, .int nd.2.2.1, .int nd.2.1, .long nd.2.2.2, .int t.2.1, .int t.2.2.1, .int t.2.2.2.1, .int t.2.2.2.2.1, .int t.2.2.2.2.2, .ref (b 7), .long (lN x), .int sg, .ref (b 8), .ref (b 9), .ref (b 10), .int ((ro z ob).2.2.2.1), .int ((ro z ob).2.2.2.2)]) (C := RX5) (T := TX5) (N := 27) hx hb htb inX5 hown hK hP 0 rfl rfl 14 (by decide) (htb _ kF_X5_85) (fun _ h9 => h9) rfl dX5_abort_49 ?_
    refine lv_if_ne (tgt := 59) hx hb dX5_abort_52 (by decide) (fun _ => ?_) (fun hno => absurd hno hnz)
    refine lv_aload_n hx hb dX5_abort_59 rfl (lv_at hl 2 rfl) ?_
    refine va_get (D := D) (ci := 5) (v := .ref (b 2)) (fs := [.int th, .int N, .ref (b 1), .ref (b 2), .ref (b 3), .ref (b 4), .ref (b 5), .ref (b 6), .int 22, .int 95, .int nd.1, .int nd.2.2.1, .int nd.2.1, .long nd.2.2.2, .int t.2.1, .int t.2.2.1, .int t.2.2.2.1, .int t.2.2.2.2.1, .int t.2.2.2.2.2, .ref (b 7), .long (lN x), .int sg, .ref (b 8), .ref (b 9), .ref (b 10), .int ((ro z ob).2.2.2.1), .int ((ro z ob).2.2.2.2)]) (C := RX5) (T := TX5) (N := 27) hx hb htb inX5 hown hK hP 0 rfl rfl 3 (by decide) (htb _ kF_X5_13) (fun _ h9 => h9) rfl dX5_abort_60 ?_
    refine lv_aload_n hx hb dX5_abort_63 rfl (lv_at hl 2 rfl) ?_
    refine va_get (D := D) (ci := 5) (v := .int t.2.2.1) (fs := [.int th, .int N, .ref (b 1), .ref (b 2), .ref (b 3), .ref (b 4), .ref (b 5), .ref (b 6), .int 22, .int 95, .int nd.1, .int nd.2.2.1, .int nd.2.1, .long nd.2.2.2, .int t.2.1, .int t.2.2.1, .int t.2.2.2.1, .int t.2.2.2.2.1, .int t.2.2.2.2.2, .ref (b 7), .long (lN x), .int sg, .ref (b 8), .ref (b 9), .ref (b 10), .int ((ro z ob).2.2.2.1), .int ((ro z ob).2.2.2.2)]) (C := RX5) (T := TX5) (N := 27) hx hb htb inX5 hown hK hP 0 rfl rfl 15 (by decide) (htb _ kF_X5_128) (fun _ h9 => h9) rfl dX5_abort_64 ?_
    refine zb_ti (y := nI e) (hen) ?_
    refine va_iald (i := nI e) hx hb hK hP 2 0 rfl rfl (vp_in_nI (by omega) (by decide)) dX5_abort_67 ?_
    refine zb_ti (y := nI (xS e)) (by rw [nI_clamp (by omega)]) ?_
    refine lv_istore hx hb dX5_abort_68 hl (by decide) rfl (fun ls hl => ?_)
    have hl : lv_has ls 5 [(4, .int (nI (xS e))), (3, .int (nI (xI e))), (0, .ref (b 0)), (1, .int (nI cd)), (2, .int 1)] := hl
    refine lv_aload_n hx hb dX5_abort_70 rfl (lv_at hl 2 rfl) ?_
    refine lv_iconst (v := 0) hx hb dX5_abort_71 (by decide) ?_
    refine va_put (D := D) (ci := 5) (v := .int 0) (fs := [.int th, .int N, .ref (b 1), .ref (b 2), .ref (b 3), .ref (b 4), .ref (b 5), .ref (b 6), .int 22, .int 95, .int nd.1, .int nd.2.2.1, .int nd.2.1, .long nd.2.2.2, .int t.2.1, .int t.2.2.1, .int t.2.2.2.1, .int t.2.2.2.2.1, .int t.2.2.2.2.2, .ref (b 7), .long (lN x), .int sg, .ref (b 8), .ref (b 9), .ref (b 10), .int ((ro z ob).2.2.2.1), .int ((ro z ob).2.2.2.2)]) (ty := .int) (C := RX5) (T := TX5) (N := 27) hx hb htb inX5 tyX5 tyX5_ok nmX5 hown hK hP hD hS 0 rfl rfl 14 (by decide) (htb _ kF_X5_85) (fun _ h9 => h9) rfl (by decide +kernel) rfl rfl (Nat.le_of_ble_eq_true rfl) dX5_abort_72 (fun H locs hP hD hS => ?_)
    have hP : va_P D vwCl (rw0 b cA cJ N f (ro z ob) (t.1, 0, t.2.2.1, t.2.2.2.1, t.2.2.2.2.1, t.2.2.2.2.2) nd (lN x) sg th) H := hP
    have hD : va_D A (rw0 b cA cJ N f (ro z ob) (t.1, 0, t.2.2.1, t.2.2.2.1, t.2.2.2.2.1, t.2.2.2.2.2) nd (lN x) sg th) := hD
    refine lv_aload_n hx hb dX5_abort_75 rfl (lv_at hl 2 rfl) ?_
    refine lv_sipush (v := 128) hx hb dX5_abort_76 (by decide) ?_
    refine lv_iload_n hx hb dX5_abort_79 rfl (lv_at hl 1 rfl) ?_
    refine lv_iload hx hb dX5_abort_80 (lv_at hl 0 rfl) ?_
    refine lv_iload_n hx hb dX5_abort_82 rfl (lv_at hl 3 rfl) ?_
    refine zb_cv (va_runV (As := [.int 128, .int (nI (xI e)), .int (nI (xS e)), .int (nI cd)]) (rest := []) ⟨hx, hb, hml, hown, htb⟩ (r_answer l D b cA cJ N f z ob (t.1, 0, t.2.2.1, t.2.2.2.1, t.2.2.2.2.1, t.2.2.2.2.2) nd (lN x) sg th _ 128 (xI e) (xS e) cd ho (by decide) (by omega) (by omega) hcd) (cwV 4 htb (wb_V kM_X5_131 kI_X5_answer kS_X5_answer kN_X5 kD_X5_answer) rfl rfl rfl (by decide +kernel) ⟨Nat.le_of_ble_eq_true rfl, Nat.le_of_ble_eq_true rfl⟩) (zp_VW 0 rfl rfl hP hD hK hSt hS hA hnw) rfl rfl hl.1 rfl (lv_room (Nat.le_of_ble_eq_true rfl)) dX5_abort_83 ⟨Nat.le_of_ble_eq_true rfl, Nat.le_of_ble_eq_true rfl⟩) hD hS hA (fun H locs hP hD hS => ?_)
    have hP : va_P D vwCl (rw0 b cA cJ N f (ro z (kAns N ob 128 ((xI e) + 65536 * (xS e)) cd)) (t.1, 0, t.2.2.1, t.2.2.2.1, t.2.2.2.2.1, t.2.2.2.2.2) nd (lN x) sg th) H := hP
    have hD : va_D A (rw0 b cA cJ N f (ro z (kAns N ob 128 ((xI e) + 65536 * (xS e)) cd)) (t.1, 0, t.2.2.1, t.2.2.2.1, t.2.2.2.2.1, t.2.2.2.2.2) nd (lN x) sg th) := hD
    rw [hQ]
    have hw9 : (rw0 b cA cJ N f (ro z (kAns N ob 128 ((xI e) + 65536 * (xS e)) cd)) (t.1, 0, t.2.2.1, t.2.2.2.1, t.2.2.2.2.1, t.2.2.2.2.2) nd (lN x) sg th) = (rw0 b cA cJ N f (ro z (kAns N ob 128 ad cd)) (t.1, 0, t.2.2) nd (lN x) sg th) := by rw [hadd]
    exact W.vret hx hb hr (fun t9 ht hW => ⟨rfl, by rw [ht, ← hw9]; exact hP, by rw [← hw9]; exact hD, hS.F ht⟩) hS.2.2 dX5_abort_86
set_option maxHeartbeats 4000000 in
set_option maxRecDepth 100000 in
theorem r_begin (l : Launch) (D : va_G) (b : Nat → Nat) (cA cJ : ClassId) (N : Int32) (f : Nat → Int32) (z : Int32) (ob : OB) (t : RT) (nd : ND) (q : Int64) (sg th : Int32) (sz : Nat) (tn en : Int32)  : Met l yX5_begin (wX5_begin :: wb) ({ frames := 0, cells := 0, slots := 0, locals := 0 } : Room) (va_Pc [.ref (b 0), .int tn, .int en] (zPre D [(cA, .int), (cJ, .long)] (rw0 b cA cJ N f (ro z ob) t nd q sg th) sz)) (zb_Vv D vwCl (rw0 b cA cJ N f (ro z ob) (t.1, tn, en, 0, 0, 0) nd q sg th) (va_A (rw0 b cA cJ N f (ro z ob) t nd q sg th) sz)) 0 0 (va_A (rw0 b cA cJ N f (ro z ob) t nd q sg th) sz) := by
  refine Met.ofW (cc := cX5_begin) (maxL := 3) (ret := none) (by decide) rfl ?_
  intro p ev s m args below meth c s₁ B hml hv
  obtain ⟨rfl, hsz, hP, hK, hD0, hSt, hnw⟩ := hv
  have hx := B.exec
  have hb := B.bytes
  have hr := B.returns
  have hts := atoms_spec (ws := wX5_begin :: wb) B.pre
  have htb : ∀ w ∈ wb, w.before ([.ref (b 0), .int tn, .int en]).toArray s = true := fun w h => hts w (List.mem_cons_of_mem _ h)
  have hown : s.vm.findClass RX5 = some m.cls := findClass_of_methodNamed B.named
  have hlocks := B.notSynchronized
  subst hsz
  have hD := hD0.self (sz := s.heap.size)
  clear hD0
  generalize hAe : va_A (rw0 b cA cJ N f (ro z ob) t nd q sg th) s.heap.size = A at hD hSt ⊢
  have hA : ∀ q : Nat, s.heap.size ≤ q → A q := fun q h => by rw [← hAe]; exact Or.inr h
  have hS : va_S A s.heap s.heap [] := va_S.rf
  obtain ⟨⟨tt, ff, hZT, hTT, hZF, hTF⟩, hXS⟩ := id hSt
  have hl := lv_entry ([.ref (b 0), .int tn, .int en]) (n := 3) (Nat.le_of_ble_eq_true rfl)
  rw [lg_entry_eq]
  generalize (lg_sl ([.ref (b 0), .int tn, .int en]) ++ List.replicate (3 - (lg_sl ([.ref (b 0), .int tn, .int en])).length) Slot.unset).toArray = ls at hl ⊢
  have hl : lv_has ls 3 [(0, .ref (b 0)), (1, .int tn), (2, .int en)] := hl
  refine zb_abs (fun Q hQ => ?_)
  refine lv_aload_n hx hb dX5_begin_0 rfl (lv_at hl 0 rfl) ?_
  refine lv_iload_n hx hb dX5_begin_1 rfl (lv_at hl 1 rfl) ?_
  refine va_put (D := D) (ci := 5) (v := .int tn) (fs := [.int th, .int N, .ref (b 1), .ref (b 2), .ref (b 3), .ref (b 4), .ref (b 5), .ref (b 6), .int 22, .int 95, .int nd.1, .int nd.2.2.1, .int nd.2.1, .long nd.2.2.2, .int t.2.1, .int t.2.2.1, .int t.2.2.2.1, .int t.2.2.2.2.1, .int t.2.2.2.2.2, .ref (b 7), .long q, .int sg, .ref (b 8), .ref (b 9), .ref (b 10), .int ((ro z ob).2.2.2.1), .int ((ro z ob).2.2.2.2)]) (ty := .int) (C := RX5) (T := TX5) (N := 27) hx hb htb inX5 tyX5 tyX5_ok nmX5 hown hK hP hD hS 0 rfl rfl 14 (by decide) (htb _ kF_X5_85) (fun _ h9 => h9) rfl (by decide +kernel) rfl rfl (Nat.le_of_ble_eq_true rfl) dX5_begin_2 (fun H locs hP hD hS => ?_)
  have hP : va_P D vwCl (rw0 b cA cJ N f (ro z ob) (t.1, tn, t.2.2.1, t.2.2.2.1, t.2.2.2.2.1, t.2.2.2.2.2) nd q sg th) H := hP
  have hD : va_D A (rw0 b cA cJ N f (ro z ob) (t.1, tn, t.2.2.1, t.2.2.2.1, t.2.2.2.2.1, t.2.2.2.2.2) nd q sg th) := hD
  refine lv_aload_n hx hb dX5_begin_5 rfl (lv_at hl 0 rfl) ?_
  refine lv_iload_n hx hb dX5_begin_6 rfl (lv_at hl 2 rfl) ?_
  refine va_put (D := D) (ci := 5) (v := .int en) (fs := [.int th, .int N, .ref (b 1), .ref (b 2), .ref (b 3), .ref (b 4), .ref (b 5), .ref (b 6), .int 22, .int 95, .int nd.1, .int nd.2.2.1, .int nd.2.1, .long nd.2.2.2, .int tn, .int t.2.2.1, .int t.2.2.2.1, .int t.2.2.2.2.1, .int t.2.2.2.2.2, .ref (b 7), .long q, .int sg, .ref (b 8), .ref (b 9), .ref (b 10), .int ((ro z ob).2.2.2.1), .int ((ro z ob).2.2.2.2)]) (ty := .int) (C := RX5) (T := TX5) (N := 27) hx hb htb inX5 tyX5 tyX5_ok nmX5 hown hK hP hD hS 0 rfl rfl 15 (by decide) (htb _ kF_X5_128) (fun _ h9 => h9) rfl (by decide +kernel) rfl rfl (Nat.le_of_ble_eq_true rfl) dX5_begin_7 (fun H locs hP hD hS => ?_)
  have hP : va_P D vwCl (rw0 b cA cJ N f (ro z ob) (t.1, tn, en, t.2.2.2.1, t.2.2.2.2.1, t.2.2.2.2.2) nd q sg th) H := hP
  have hD : va_D A (rw0 b cA cJ N f (ro z ob) (t.1, tn, en, t.2.2.2.1, t.2.2.2.2.1, t.2.2.2.2.2) nd q sg th) := hD
  refine lv_aload_n hx hb dX5_begin_10 rfl (lv_at hl 0 rfl) ?_
  refine lv_iconst (v := 0) hx hb dX5_begin_11 (by decide) ?_
  refine va_put (D := D) (ci := 5) (v := .int 0) (fs := [.int th, .int N, .ref (b 1), .ref (b 2), .ref (b 3), .ref (b 4), .ref (b 5), .ref (b 6), .int 22, .int 95, .int nd.1, .int nd.2.2.1, .int nd.2.1, .long nd.2.2.2, .int tn, .int en, .int t.2.2.2.1, .int t.2.2.2.2.1, .int t.2.2.2.2.2, .ref (b 7), .long q, .int sg, .ref (b 8), .ref (b 9), .ref (b 10), .int ((ro z ob).2.2.2.1), .int ((ro z ob).2.2.2.2)]) (ty := .int) (C := RX5) (T := TX5) (N := 27) hx hb htb inX5 tyX5 tyX5_ok nmX5 hown hK hP hD hS 0 rfl rfl 16 (by decide) (htb _ kF_X5_134) (fun _ h9 => h9) rfl (by decide +kernel) rfl rfl (Nat.le_of_ble_eq_true rfl) dX5_begin_12 (fun H locs hP hD hS => ?_)
  have hP : va_P D vwCl (rw0 b cA cJ N f (ro z ob) (t.1, tn, en, 0, t.2.2.2.2.1, t.2.2.2.2.2) nd q sg th) H := hP
  have hD : va_D A (rw0 b cA cJ N f (ro z ob) (t.1, tn, en, 0, t.2.2.2.2.1, t.2.2.2.2.2) nd q sg th) := hD
  refine lv_aload_n hx hb dX5_begin_15 rfl (lv_at hl 0 rfl) ?_
  refine lv_iconst (v := 0) hx hb dX5_begin_16 (by decide) ?_
  refine va_put (D := D) (ci := 5) (v := .int 0) (fs := [.int th, .int N, .ref (b 1), .ref (b 2), .ref (b 3), .ref (b 4), .ref (b 5), .ref (b 6), .int 22, .int 95, .int nd.1, .int nd.2.2.1, .int nd.2.1, .long nd.2.2.2, .int tn, .int en, .int 0, .int t.2.2.2.2.1, .int t.2.2.2.2.2, .ref (b 7), .long q, .int sg, .ref (b 8), .ref (b 9), .ref (b 10), .int ((ro z ob).2.2.2.1), .int ((ro z ob).2.2.2.2)]) (ty := .int) (C := RX5) (T := TX5) (N := 27) hx hb htb inX5 tyX5 tyX5_ok nmX5 hown hK hP hD hS 0 rfl rfl 17 (by decide) (htb _ kF_X5_137) (fun _ h9 => h9) rfl (by decide +kernel) rfl rfl (Nat.le_of_ble_eq_true rfl) dX5_begin_17 (fun H locs hP hD hS => ?_)
  have hP : va_P D vwCl (rw0 b cA cJ N f (ro z ob) (t.1, tn, en, 0, 0, t.2.2.2.2.2) nd q sg th) H := hP
  have hD : va_D A (rw0 b cA cJ N f (ro z ob) (t.1, tn, en, 0, 0, t.2.2.2.2.2) nd q sg th) := hD
  refine lv_aload_n hx hb dX5_begin_20 rfl (lv_at hl 0 rfl) ?_
  refine lv_iconst (v := 0) hx hb dX5_begin_21 (by decide) ?_
  refine va_put (D := D) (ci := 5) (v := .int 0) (fs := [.int th, .int N, .ref (b 1), .ref (b 2), .ref (b 3), .ref (b 4), .ref (b 5), .ref (b 6), .int 22, .int 95, .int nd.1, .int nd.2.2.1, .int nd.2.1, .long nd.2.2.2, .int tn, .int en, .int 0, .int 0, .int t.2.2.2.2.2, .ref (b 7), .long q, .int sg, .ref (b 8), .ref (b 9), .ref (b 10), .int ((ro z ob).2.2.2.1), .int ((ro z ob).2.2.2.2)]) (ty := .int) (C := RX5) (T := TX5) (N := 27) hx hb htb inX5 tyX5 tyX5_ok nmX5 hown hK hP hD hS 0 rfl rfl 18 (by decide) (htb _ kF_X5_94) (fun _ h9 => h9) rfl (by decide +kernel) rfl rfl (Nat.le_of_ble_eq_true rfl) dX5_begin_22 (fun H locs hP hD hS => ?_)
  have hP : va_P D vwCl (rw0 b cA cJ N f (ro z ob) (t.1, tn, en, 0, 0, 0) nd q sg th) H := hP
  have hD : va_D A (rw0 b cA cJ N f (ro z ob) (t.1, tn, en, 0, 0, 0) nd q sg th) := hD
  rw [hQ]
  have hw9 : (rw0 b cA cJ N f (ro z ob) (t.1, tn, en, 0, 0, 0) nd q sg th) = (rw0 b cA cJ N f (ro z ob) (t.1, tn, en, 0, 0, 0) nd q sg th) := rfl
  exact W.vret hx hb hr (fun t9 ht hW => ⟨rfl, by rw [ht, ← hw9]; exact hP, by rw [← hw9]; exact hD, hS.F ht⟩) hS.2.2 dX5_begin_25
set_option maxHeartbeats 4000000 in
set_option maxRecDepth 100000 in
theorem r_boot (l : Launch) (D : va_G) (b : Nat → Nat) (cA cJ : ClassId) (N : Int32) (f : Nat → Int32) (z : Int32) (ob : OB) (t : RT) (nd : ND) (q : Int64) (sg th : Int32) (sz : Nat)  (ho : obK ob) : Met l yX5_boot (wX5_boot :: wb) ({ frames := 1, cells := 0, slots := 0, locals := 24 } : Room) (va_Pc [.ref (b 0)] (zPre D [(cA, .int), (cJ, .long)] (rw0 b cA cJ N f (ro z ob) t nd q sg th) sz)) (zb_Vv D vwCl (rw0 b cA cJ N f (ro z (kBoot N ob)) (t.1, 0, t.2.2.1, t.2.2.2.1, t.2.2.2.2.1, 0) (nBoot nd) q sg th) (va_A (rw0 b cA cJ N f (ro z ob) t nd q sg th) sz)) 0 0 (va_A (rw0 b cA cJ N f (ro z ob) t nd q sg th) sz) := by
  refine Met.ofW (cc := cX5_boot) (maxL := 1) (ret := none) (by decide) rfl ?_
  intro p ev s m args below meth c s₁ B hml hv
  obtain ⟨rfl, hsz, hP, hK, hD0, hSt, hnw⟩ := hv
  have hx := B.exec
  have hb := B.bytes
  have hr := B.returns
  have hts := atoms_spec (ws := wX5_boot :: wb) B.pre
  have htb : ∀ w ∈ wb, w.before ([.ref (b 0)]).toArray s = true := fun w h => hts w (List.mem_cons_of_mem _ h)
  have hown : s.vm.findClass RX5 = some m.cls := findClass_of_methodNamed B.named
  have hlocks := B.notSynchronized
  subst hsz
  have hD := hD0.self (sz := s.heap.size)
  clear hD0
  generalize hAe : va_A (rw0 b cA cJ N f (ro z ob) t nd q sg th) s.heap.size = A at hD hSt ⊢
  have hA : ∀ q : Nat, s.heap.size ≤ q → A q := fun q h => by rw [← hAe]; exact Or.inr h
  have hS : va_S A s.heap s.heap [] := va_S.rf
  obtain ⟨⟨tt, ff, hZT, hTT, hZF, hTF⟩, hXS⟩ := id hSt
  have hl := lv_entry ([.ref (b 0)]) (n := 1) (Nat.le_of_ble_eq_true rfl)
  rw [lg_entry_eq]
  generalize (lg_sl ([.ref (b 0)]) ++ List.replicate (1 - (lg_sl ([.ref (b 0)])).length) Slot.unset).toArray = ls at hl ⊢
  have hl : lv_has ls 1 [(0, .ref (b 0))] := hl
  refine zb_abs (fun Q hQ => ?_)
  obtain ⟨kp, hkp32, hkp⟩ := ho
  refine lv_aload_n hx hb dX5_boot_0 rfl (lv_at hl 0 rfl) ?_
  refine lv_sipush (v := 1792) hx hb dX5_boot_1 (by decide) ?_
  refine lv_aload_n hx hb dX5_boot_4 rfl (lv_at hl 0 rfl) ?_
  refine va_get (D := D) (ci := 5) (v := .int N) (fs := [.int th, .int N, .ref (b 1), .ref (b 2), .ref (b 3), .ref (b 4), .ref (b 5), .ref (b 6), .int 22, .int 95, .int nd.1, .int nd.2.2.1, .int nd.2.1, .long nd.2.2.2, .int t.2.1, .int t.2.2.1, .int t.2.2.2.1, .int t.2.2.2.2.1, .int t.2.2.2.2.2, .ref (b 7), .long q, .int sg, .ref (b 8), .ref (b 9), .ref (b 10), .int ((ro z ob).2.2.2.1), .int ((ro z ob).2.2.2.2)]) (C := RX5) (T := TX5) (N := 27) hx hb htb inX5 hown hK hP 0 rfl rfl 1 (by decide) (htb _ kF_X5_41) (fun _ h9 => h9) rfl dX5_boot_5 ?_
  refine lv_iadd hx hb dX5_boot_8 ?_
  refine lv_iconst (v := 1) hx hb dX5_boot_9 (by decide) ?_
  refine lv_lconst (v := 0) hx hb dX5_boot_10 (by decide) ?_
  refine zb_cv (va_runV (As := [.int (1792 + N), .int 1, .long 0]) (rest := []) ⟨hx, hb, hml, hown, htb⟩ (r_send l D b cA cJ N f z ob t nd q sg th _ kp (1792 + N) 1 0 hkp hkp32 (by decide)) (cwV 3 htb (wb_V kM_X5_78 kI_X5_send kS_X5_send kN_X5 kD_X5_send) rfl rfl rfl (by decide +kernel) ⟨Nat.le_of_ble_eq_true rfl, Nat.le_of_ble_eq_true rfl⟩) (zp_VW 0 rfl rfl hP hD hK hSt hS hA hnw) rfl rfl hl.1 rfl (lv_room (Nat.le_of_ble_eq_true rfl)) dX5_boot_11 ⟨Nat.le_of_ble_eq_true rfl, Nat.le_of_ble_eq_true rfl⟩) hD hS hA (fun H locs hP hD hS => ?_)
  have hP : va_P D vwCl (rw0 b cA cJ N f (ro z (ob_send ob (1792 + N) 1 0)) t nd q sg th) H := hP
  have hD : va_D A (rw0 b cA cJ N f (ro z (ob_send ob (1792 + N) 1 0)) t nd q sg th) := hD
  refine lv_aload_n hx hb dX5_boot_14 rfl (lv_at hl 0 rfl) ?_
  refine lv_bipush (v := 127) hx hb dX5_boot_15 (by decide) ?_
  refine va_put (D := D) (ci := 5) (v := .int 127) (fs := [.int th, .int N, .ref (b 1), .ref (b 2), .ref (b 3), .ref (b 4), .ref (b 5), .ref (b 6), .int 22, .int 95, .int nd.1, .int nd.2.2.1, .int nd.2.1, .long nd.2.2.2, .int t.2.1, .int t.2.2.1, .int t.2.2.2.1, .int t.2.2.2.2.1, .int t.2.2.2.2.2, .ref (b 7), .long q, .int sg, .ref (b 8), .ref (b 9), .ref (b 10), .int ((ro z (ob_send ob (1792 + N) 1 0)).2.2.2.1), .int ((ro z (ob_send ob (1792 + N) 1 0)).2.2.2.2)]) (ty := .int) (C := RX5) (T := TX5) (N := 27) hx hb htb inX5 tyX5 tyX5_ok nmX5 hown hK hP hD hS 0 rfl rfl 10 (by decide) (htb _ kF_X5_82) (fun _ h9 => h9) rfl (by decide +kernel) rfl rfl (Nat.le_of_ble_eq_true rfl) dX5_boot_17 (fun H locs hP hD hS => ?_)
  have hP : va_P D vwCl (rw0 b cA cJ N f (ro z (ob_send ob (1792 + N) 1 0)) t (127, nd.2.1, nd.2.2.1, nd.2.2.2) q sg th) H := hP
  have hD : va_D A (rw0 b cA cJ N f (ro z (ob_send ob (1792 + N) 1 0)) t (127, nd.2.1, nd.2.2.1, nd.2.2.2) q sg th) := hD
  refine lv_aload_n hx hb dX5_boot_20 rfl (lv_at hl 0 rfl) ?_
  refine lv_iconst (v := 0) hx hb dX5_boot_21 (by decide) ?_
  refine va_put (D := D) (ci := 5) (v := .int 0) (fs := [.int th, .int N, .ref (b 1), .ref (b 2), .ref (b 3), .ref (b 4), .ref (b 5), .ref (b 6), .int 22, .int 95, .int 127, .int nd.2.2.1, .int nd.2.1, .long nd.2.2.2, .int t.2.1, .int t.2.2.1, .int t.2.2.2.1, .int t.2.2.2.2.1, .int t.2.2.2.2.2, .ref (b 7), .long q, .int sg, .ref (b 8), .ref (b 9), .ref (b 10), .int ((ro z (ob_send ob (1792 + N) 1 0)).2.2.2.1), .int ((ro z (ob_send ob (1792 + N) 1 0)).2.2.2.2)]) (ty := .int) (C := RX5) (T := TX5) (N := 27) hx hb htb inX5 tyX5 tyX5_ok nmX5 hown hK hP hD hS 0 rfl rfl 14 (by decide) (htb _ kF_X5_85) (fun _ h9 => h9) rfl (by decide +kernel) rfl rfl (Nat.le_of_ble_eq_true rfl) dX5_boot_22 (fun H locs hP hD hS => ?_)
  have hP : va_P D vwCl (rw0 b cA cJ N f (ro z (ob_send ob (1792 + N) 1 0)) (t.1, 0, t.2.2.1, t.2.2.2.1, t.2.2.2.2.1, t.2.2.2.2.2) (127, nd.2.1, nd.2.2.1, nd.2.2.2) q sg th) H := hP
  have hD : va_D A (rw0 b cA cJ N f (ro z (ob_send ob (1792 + N) 1 0)) (t.1, 0, t.2.2.1, t.2.2.2.1, t.2.2.2.2.1, t.2.2.2.2.2) (127, nd.2.1, nd.2.2.1, nd.2.2.2) q sg th) := hD
  refine lv_aload_n hx hb dX5_boot_25 rfl (lv_at hl 0 rfl) ?_
  refine lv_iconst (v := 0) hx hb dX5_boot_26 (by decide) ?_
  refine va_put (D := D) (ci := 5) (v := .int 0) (fs := [.int th, .int N, .ref (b 1), .ref (b 2), .ref (b 3), .ref (b 4), .ref (b 5), .ref (b 6), .int 22, .int 95, .int 127, .int nd.2.2.1, .int nd.2.1, .long nd.2.2.2, .int 0, .int t.2.2.1, .int t.2.2.2.1, .int t.2.2.2.2.1, .int t.2.2.2.2.2, .ref (b 7), .long q, .int sg, .ref (b 8), .ref (b 9), .ref (b 10), .int ((ro z (ob_send ob (1792 + N) 1 0)).2.2.2.1), .int ((ro z (ob_send ob (1792 + N) 1 0)).2.2.2.2)]) (ty := .int) (C := RX5) (T := TX5) (N := 27) hx hb htb inX5 tyX5 tyX5_ok nmX5 hown hK hP hD hS 0 rfl rfl 11 (by decide) (htb _ kF_X5_88) (fun _ h9 => h9) rfl (by decide +kernel) rfl rfl (Nat.le_of_ble_eq_true rfl) dX5_boot_27 (fun H locs hP hD hS => ?_)
  have hP : va_P D vwCl (rw0 b cA cJ N f (ro z (ob_send ob (1792 + N) 1 0)) (t.1, 0, t.2.2.1, t.2.2.2.1, t.2.2.2.2.1, t.2.2.2.2.2) (127, nd.2.1, 0, nd.2.2.2) q sg th) H := hP
  have hD : va_D A (rw0 b cA cJ N f (ro z (ob_send ob (1792 + N) 1 0)) (t.1, 0, t.2.2.1, t.2.2.2.1, t.2.2.2.2.1, t.2.2.2.2.2) (127, nd.2.1, 0, nd.2.2.2) q sg th) := hD
  refine lv_aload_n hx hb dX5_boot_30 rfl (lv_at hl 0 rfl) ?_
  refine lv_iconst (v := 0) hx hb dX5_boot_31 (by decide) ?_
  refine va_put (D := D) (ci := 5) (v := .int 0) (fs := [.int th, .int N, .ref (b 1), .ref (b 2), .ref (b 3), .ref (b 4), .ref (b 5), .ref (b 6), .int 22, .int 95, .int 127, .int 0, .int nd.2.1, .long nd.2.2.2, .int 0, .int t.2.2.1, .int t.2.2.2.1, .int t.2.2.2.2.1, .int t.2.2.2.2.2, .ref (b 7), .long q, .int sg, .ref (b 8), .ref (b 9), .ref (b 10), .int ((ro z (ob_send ob (1792 + N) 1 0)).2.2.2.1), .int ((ro z (ob_send ob (1792 + N) 1 0)).2.2.2.2)]) (ty := .int) (C := RX5) (T := TX5) (N := 27) hx hb htb inX5 tyX5 tyX5_ok nmX5 hown hK hP hD hS 0 rfl rfl 12 (by decide) (htb _ kF_X5_91) (fun _ h9 => h9) rfl (by decide +kernel) rfl rfl (Nat.le_of_ble_eq_true rfl) dX5_boot_32 (fun H locs hP hD hS => ?_)
  have hP : va_P D vwCl (rw0 b cA cJ N f (ro z (ob_send ob (1792 + N) 1 0)) (t.1, 0, t.2.2.1, t.2.2.2.1, t.2.2.2.2.1, t.2.2.2.2.2) (127, 0, 0, nd.2.2.2) q sg th) H := hP
  have hD : va_D A (rw0 b cA cJ N f (ro z (ob_send ob (1792 + N) 1 0)) (t.1, 0, t.2.2.1, t.2.2.2.1, t.2.2.2.2.1, t.2.2.2.2.2) (127, 0, 0, nd.2.2.2) q sg th) := hD
  refine lv_aload_n hx hb dX5_boot_35 rfl (lv_at hl 0 rfl) ?_
  refine lv_iconst (v := 0) hx hb dX5_boot_36 (by decide) ?_
  refine va_put (D := D) (ci := 5) (v := .int 0) (fs := [.int th, .int N, .ref (b 1), .ref (b 2), .ref (b 3), .ref (b 4), .ref (b 5), .ref (b 6), .int 22, .int 95, .int 127, .int 0, .int 0, .long nd.2.2.2, .int 0, .int t.2.2.1, .int t.2.2.2.1, .int t.2.2.2.2.1, .int t.2.2.2.2.2, .ref (b 7), .long q, .int sg, .ref (b 8), .ref (b 9), .ref (b 10), .int ((ro z (ob_send ob (1792 + N) 1 0)).2.2.2.1), .int ((ro z (ob_send ob (1792 + N) 1 0)).2.2.2.2)]) (ty := .int) (C := RX5) (T := TX5) (N := 27) hx hb htb inX5 tyX5 tyX5_ok nmX5 hown hK hP hD hS 0 rfl rfl 18 (by decide) (htb _ kF_X5_94) (fun _ h9 => h9) rfl (by decide +kernel) rfl rfl (Nat.le_of_ble_eq_true rfl) dX5_boot_37 (fun H locs hP hD hS => ?_)
  have hP : va_P D vwCl (rw0 b cA cJ N f (ro z (ob_send ob (1792 + N) 1 0)) (t.1, 0, t.2.2.1, t.2.2.2.1, t.2.2.2.2.1, 0) (127, 0, 0, nd.2.2.2) q sg th) H := hP
  have hD : va_D A (rw0 b cA cJ N f (ro z (ob_send ob (1792 + N) 1 0)) (t.1, 0, t.2.2.1, t.2.2.2.1, t.2.2.2.2.1, 0) (127, 0, 0, nd.2.2.2) q sg th) := hD
  rw [hQ]
  have hw9 : (rw0 b cA cJ N f (ro z (ob_send ob (1792 + N) 1 0)) (t.1, 0, t.2.2.1, t.2.2.2.1, t.2.2.2.2.1, 0) (127, 0, 0, nd.2.2.2) q sg th) = (rw0 b cA cJ N f (ro z (kBoot N ob)) (t.1, 0, t.2.2.1, t.2.2.2.1, t.2.2.2.2.1, 0) (nBoot nd) q sg th) := rfl
  exact W.vret hx hb hr (fun t9 ht hW => ⟨rfl, by rw [ht, ← hw9]; exact hP, by rw [← hw9]; exact hD, hS.F ht⟩) hS.2.2 dX5_boot_40
set_option maxHeartbeats 4000000 in
set_option maxRecDepth 100000 in
theorem r_give (l : Launch) (D : va_G) (b : Nat → Nat) (cA cJ : ClassId) (N : Int32) (f : Nat → Int32) (z : Int32) (ob : OB) (t : RT) (nd : ND) (q : Int64) (sg th : Int32) (sz : Nat)  (hB : isB f) (hG : mapK f 9 5) (ho : obK ob) : Met l yX5_give (wX5_give :: wb) ({ frames := 2, cells := 0, slots := 0, locals := 50 } : Room) (va_Pc [.ref (b 0)] (zPre D [(cA, .int), (cJ, .long)] (rw0 b cA cJ N f (ro z ob) t nd q sg th) sz)) (zb_Vv D vwCl (rw0 b cA cJ N f (ro z (kGive N f ob)) t (nGive f nd) q sg th) (va_A (rw0 b cA cJ N f (ro z ob) t nd q sg th) sz)) 0 0 (va_A (rw0 b cA cJ N f (ro z ob) t nd q sg th) sz) := by
  refine Met.ofW (cc := cX5_give) (maxL := 1) (ret := none) (by decide) rfl ?_
  intro p ev s m args below meth c s₁ B hml hv
  obtain ⟨rfl, hsz, hP, hK, hD0, hSt, hnw⟩ := hv
  have hx := B.exec
  have hb := B.bytes
  have hr := B.returns
  have hts := atoms_spec (ws := wX5_give :: wb) B.pre
  have htb : ∀ w ∈ wb, w.before ([.ref (b 0)]).toArray s = true := fun w h => hts w (List.mem_cons_of_mem _ h)
  have hown : s.vm.findClass RX5 = some m.cls := findClass_of_methodNamed B.named
  have hlocks := B.notSynchronized
  subst hsz
  have hD := hD0.self (sz := s.heap.size)
  clear hD0
  generalize hAe : va_A (rw0 b cA cJ N f (ro z ob) t nd q sg th) s.heap.size = A at hD hSt ⊢
  have hA : ∀ q : Nat, s.heap.size ≤ q → A q := fun q h => by rw [← hAe]; exact Or.inr h
  have hS : va_S A s.heap s.heap [] := va_S.rf
  obtain ⟨⟨tt, ff, hZT, hTT, hZF, hTF⟩, hXS⟩ := id hSt
  have hl := lv_entry ([.ref (b 0)]) (n := 1) (Nat.le_of_ble_eq_true rfl)
  rw [lg_entry_eq]
  generalize (lg_sl ([.ref (b 0)]) ++ List.replicate (1 - (lg_sl ([.ref (b 0)])).length) Slot.unset).toArray = ls at hl ⊢
  have hl : lv_has ls 1 [(0, .ref (b 0))] := hl
  refine zb_abs (fun Q hQ => ?_)
  obtain ⟨kp, hkp32, hkp⟩ := ho
  refine lv_aload_n hx hb dX5_give_0 rfl (lv_at hl 0 rfl) ?_
  refine lv_aload_n hx hb dX5_give_1 rfl (lv_at hl 0 rfl) ?_
  refine zb_cl (va_runV (As := []) (rest := [.ref (b 0)]) ⟨hx, hb, hml, hown, htb⟩ (r_content l D b cA cJ N f (ro z ob) t nd q sg th hB hG) (cwV 0 htb (wb_V kM_X5_108 kI_X5_content kS_X5_content kN_X5 kD_X5_content) rfl rfl rfl (by decide +kernel) ⟨Nat.le_of_ble_eq_true rfl, Nat.le_of_ble_eq_true rfl⟩) (zp_V 0 rfl rfl hP hK hSt hS hnw) rfl rfl hl.1 rfl (lv_room (Nat.le_of_ble_eq_true rfl)) dX5_give_2 ⟨Nat.le_of_ble_eq_true rfl, Nat.le_of_ble_eq_true rfl⟩) ?_
  refine va_put (D := D) (ci := 5) (v := .long (lN (gC f))) (fs := [.int th, .int N, .ref (b 1), .ref (b 2), .ref (b 3), .ref (b 4), .ref (b 5), .ref (b 6), .int 22, .int 95, .int nd.1, .int nd.2.2.1, .int nd.2.1, .long nd.2.2.2, .int t.2.1, .int t.2.2.1, .int t.2.2.2.1, .int t.2.2.2.2.1, .int t.2.2.2.2.2, .ref (b 7), .long q, .int sg, .ref (b 8), .ref (b 9), .ref (b 10), .int ((ro z ob).2.2.2.1), .int ((ro z ob).2.2.2.2)]) (ty := .long) (C := RX5) (T := TX5) (N := 27) hx hb htb inX5 tyX5 tyX5_ok nmX5 hown hK hP hD hS 0 rfl rfl 13 (by decide) (htb _ kF_X5_112) (fun _ h9 => h9) rfl (by decide +kernel) rfl rfl (Nat.le_of_ble_eq_true rfl) dX5_give_5 (fun H locs hP hD hS => ?_)
  have hP : va_P D vwCl (rw0 b cA cJ N f (ro z ob) t (nd.1, nd.2.1, nd.2.2.1, lN (gC f)) q sg th) H := hP
  have hD : va_D A (rw0 b cA cJ N f (ro z ob) t (nd.1, nd.2.1, nd.2.2.1, lN (gC f)) q sg th) := hD
  refine lv_aload_n hx hb dX5_give_8 rfl (lv_at hl 0 rfl) ?_
  refine lv_sipush (v := 384) hx hb dX5_give_9 (by decide) ?_
  refine lv_aload_n hx hb dX5_give_12 rfl (lv_at hl 0 rfl) ?_
  refine va_get (D := D) (ci := 5) (v := .int N) (fs := [.int th, .int N, .ref (b 1), .ref (b 2), .ref (b 3), .ref (b 4), .ref (b 5), .ref (b 6), .int 22, .int 95, .int nd.1, .int nd.2.2.1, .int nd.2.1, .long (lN (gC f)), .int t.2.1, .int t.2.2.1, .int t.2.2.2.1, .int t.2.2.2.2.1, .int t.2.2.2.2.2, .ref (b 7), .long q, .int sg, .ref (b 8), .ref (b 9), .ref (b 10), .int ((ro z ob).2.2.2.1), .int ((ro z ob).2.2.2.2)]) (C := RX5) (T := TX5) (N := 27) hx hb htb inX5 hown hK hP 0 rfl rfl 1 (by decide) (htb _ kF_X5_41) (fun _ h9 => h9) rfl dX5_give_13 ?_
  refine lv_iadd hx hb dX5_give_16 ?_
  refine lv_aload_n hx hb dX5_give_17 rfl (lv_at hl 0 rfl) ?_
  refine lv_bipush (v := 9) hx hb dX5_give_18 (by decide) ?_
  refine lv_aload_n hx hb dX5_give_20 rfl (lv_at hl 0 rfl) ?_
  refine lv_bipush (v := 9) hx hb dX5_give_21 (by decide) ?_
  refine zb_ci (va_runV (As := [.int 9]) (rest := [.int 9, .ref (b 0), .int (384 + N), .ref (b 0)]) ⟨hx, hb, hml, hown, htb⟩ (r_number l D b cA cJ N f (ro z ob) t (nd.1, nd.2.1, nd.2.2.1, lN (gC f)) q sg th 9 hB (by omega)) (cwV 1 htb (wb_V kM_X5_97 kI_X5_number kS_X5_number kN_X5 kD_X5_number) rfl rfl rfl (by decide +kernel) ⟨Nat.le_of_ble_eq_true rfl, Nat.le_of_ble_eq_true rfl⟩) (zp_V 0 rfl rfl hP hK hSt hS hnw) rfl rfl hl.1 rfl (lv_room (Nat.le_of_ble_eq_true rfl)) dX5_give_23 ⟨Nat.le_of_ble_eq_true rfl, Nat.le_of_ble_eq_true rfl⟩) ?_
  refine zb_ti (y := nI (cG f)) (cnt_r 9 rfl) ?_
  refine zb_ci (va_runV (As := [.int 9, .int (nI (cG f))]) (rest := [.int (384 + N), .ref (b 0)]) ⟨hx, hb, hml, hown, htb⟩ (r_lengthG l D b cA cJ N f (ro z ob) t (nd.1, nd.2.1, nd.2.2.1, lN (gC f)) q sg th (cG f) hB hG.1) (cwV 2 htb (wb_V kM_X5_116 kI_X5_lengthOf kS_X5_lengthOf kN_X5 kD_X5_lengthOf) rfl rfl rfl (by decide +kernel) ⟨Nat.le_of_ble_eq_true rfl, Nat.le_of_ble_eq_true rfl⟩) (zp_V 0 rfl rfl hP hK hSt hS hnw) rfl rfl hl.1 rfl (lv_room (Nat.le_of_ble_eq_true rfl)) dX5_give_26 ⟨Nat.le_of_ble_eq_true rfl, Nat.le_of_ble_eq_true rfl⟩) ?_
  refine zb_ti (y := nI (gL f)) (if_pos hG.2.1) ?_
  refine lv_aload_n hx hb dX5_give_29 rfl (lv_at hl 0 rfl) ?_
  refine va_get (D := D) (ci := 5) (v := .long (lN (gC f))) (fs := [.int th, .int N, .ref (b 1), .ref (b 2), .ref (b 3), .ref (b 4), .ref (b 5), .ref (b 6), .int 22, .int 95, .int nd.1, .int nd.2.2.1, .int nd.2.1, .long (lN (gC f)), .int t.2.1, .int t.2.2.1, .int t.2.2.2.1, .int t.2.2.2.2.1, .int t.2.2.2.2.2, .ref (b 7), .long q, .int sg, .ref (b 8), .ref (b 9), .ref (b 10), .int ((ro z ob).2.2.2.1), .int ((ro z ob).2.2.2.2)]) (C := RX5) (T := TX5) (N := 27) hx hb htb inX5 hown hK hP 0 rfl rfl 13 (by decide) (htb _ kF_X5_112) (fun _ h9 => h9) rfl dX5_give_30 ?_
  refine zb_cv (va_runV (As := [.int (384 + N), .int (nI (gL f)), .long (lN (gC f))]) (rest := []) ⟨hx, hb, hml, hown, htb⟩ (r_send l D b cA cJ N f z ob t (nd.1, nd.2.1, nd.2.2.1, lN (gC f)) q sg th _ kp (384 + N) (nI (gL f)) (gC f) hkp hkp32 (gC_lt hB hG)) (cwV 3 htb (wb_V kM_X5_78 kI_X5_send kS_X5_send kN_X5 kD_X5_send) rfl rfl rfl (by decide +kernel) ⟨Nat.le_of_ble_eq_true rfl, Nat.le_of_ble_eq_true rfl⟩) (zp_VW 0 rfl rfl hP hD hK hSt hS hA hnw) rfl rfl hl.1 rfl (lv_room (Nat.le_of_ble_eq_true rfl)) dX5_give_33 ⟨Nat.le_of_ble_eq_true rfl, Nat.le_of_ble_eq_true rfl⟩) hD hS hA (fun H locs hP hD hS => ?_)
  have hP : va_P D vwCl (rw0 b cA cJ N f (ro z (ob_send ob (384 + N) (nI (gL f)) (gC f))) t (nd.1, nd.2.1, nd.2.2.1, lN (gC f)) q sg th) H := hP
  have hD : va_D A (rw0 b cA cJ N f (ro z (ob_send ob (384 + N) (nI (gL f)) (gC f))) t (nd.1, nd.2.1, nd.2.2.1, lN (gC f)) q sg th) := hD
  rw [hQ]
  have hw9 : (rw0 b cA cJ N f (ro z (ob_send ob (384 + N) (nI (gL f)) (gC f))) t (nd.1, nd.2.1, nd.2.2.1, lN (gC f)) q sg th) = (rw0 b cA cJ N f (ro z (kGive N f ob)) t (nGive f nd) q sg th) := rfl
  exact W.vret hx hb hr (fun t9 ht hW => ⟨rfl, by rw [ht, ← hw9]; exact hP, by rw [← hw9]; exact hD, hS.F ht⟩) hS.2.2 dX5_give_36
set_option maxHeartbeats 4000000 in
set_option maxRecDepth 100000 in
theorem r_end (l : Launch) (D : va_G) (b : Nat → Nat) (cA cJ : ClassId) (N : Int32) (f : Nat → Int32) (z : Int32) (ob : OB) (t : RT) (nd : ND) (q : Int64) (sg th : Int32) (sz : Nat)  (hB : isB f) (hG : mapK f 9 5) (ho : obK ob) : Met l yX5_end (wX5_end :: wb) ({ frames := 3, cells := 0, slots := 0, locals := 70 } : Room) (va_Pc [.ref (b 0)] (zPre D [(cA, .int), (cJ, .long)] (rw0 b cA cJ N f (ro z ob) t nd q sg th) sz)) (zb_Vv D vwCl (rw0 b cA cJ N f (ro z (kEv N f ob nd)) t (nEv f nd) q sg th) (va_A (rw0 b cA cJ N f (ro z ob) t nd q sg th) sz)) 0 0 (va_A (rw0 b cA cJ N f (ro z ob) t nd q sg th) sz) := by
  refine Met.ofW (cc := cX5_end) (maxL := 1) (ret := none) (by decide) rfl ?_
  intro p ev s m args below meth c s₁ B hml hv
  obtain ⟨rfl, hsz, hP, hK, hD0, hSt, hnw⟩ := hv
  have hx := B.exec
  have hb := B.bytes
  have hr := B.returns
  have hts := atoms_spec (ws := wX5_end :: wb) B.pre
  have htb : ∀ w ∈ wb, w.before ([.ref (b 0)]).toArray s = true := fun w h => hts w (List.mem_cons_of_mem _ h)
  have hown : s.vm.findClass RX5 = some m.cls := findClass_of_methodNamed B.named
  have hlocks := B.notSynchronized
  subst hsz
  have hD := hD0.self (sz := s.heap.size)
  clear hD0
  generalize hAe : va_A (rw0 b cA cJ N f (ro z ob) t nd q sg th) s.heap.size = A at hD hSt ⊢
  have hA : ∀ q : Nat, s.heap.size ≤ q → A q := fun q h => by rw [← hAe]; exact Or.inr h
  have hS : va_S A s.heap s.heap [] := va_S.rf
  obtain ⟨⟨tt, ff, hZT, hTT, hZF, hTF⟩, hXS⟩ := id hSt
  have hl := lv_entry ([.ref (b 0)]) (n := 1) (Nat.le_of_ble_eq_true rfl)
  rw [lg_entry_eq]
  generalize (lg_sl ([.ref (b 0)]) ++ List.replicate (1 - (lg_sl ([.ref (b 0)])).length) Slot.unset).toArray = ls at hl ⊢
  have hl : lv_has ls 1 [(0, .ref (b 0))] := hl
  refine zb_abs (fun Q hQ => ?_)
  refine lv_aload_n hx hb dX5_end_0 rfl (lv_at hl 0 rfl) ?_
  refine va_get (D := D) (ci := 5) (v := .int nd.1) (fs := [.int th, .int N, .ref (b 1), .ref (b 2), .ref (b 3), .ref (b 4), .ref (b 5), .ref (b 6), .int 22, .int 95, .int nd.1, .int nd.2.2.1, .int nd.2.1, .long nd.2.2.2, .int t.2.1, .int t.2.2.1, .int t.2.2.2.1, .int t.2.2.2.2.1, .int t.2.2.2.2.2, .ref (b 7), .long q, .int sg, .ref (b 8), .ref (b 9), .ref (b 10), .int ((ro z ob).2.2.2.1), .int ((ro z ob).2.2.2.2)]) (C := RX5) (T := TX5) (N := 27) hx hb htb inX5 hown hK hP 0 rfl rfl 10 (by decide) (htb _ kF_X5_82) (fun _ h9 => h9) rfl dX5_end_1 ?_
  refine lv_iconst (v := 5) hx hb dX5_end_4 (by decide) ?_
  refine lv_icmp_ne (tgt := 45) hx hb dX5_end_5 (by decide) (fun hc1 => ?_) (fun hc1 => ?_)
  · rw [hQ]
    have hw9 : (rw0 b cA cJ N f (ro z ob) t nd q sg th) = (rw0 b cA cJ N f (ro z (kEv N f ob nd)) t (nEv f nd) q sg th) := by simp only [kEv, nEv, kNew, nNew, if_neg hc1, ite_self]
    exact W.vret hx hb hr (fun t9 ht hW => ⟨rfl, by rw [ht, ← hw9]; exact hP, by rw [← hw9]; exact hD, hS.F ht⟩) hS.2.2 dX5_end_45
  refine lv_aload_n hx hb dX5_end_8 rfl (lv_at hl 0 rfl) ?_
  refine lv_bipush (v := 8) hx hb dX5_end_9 (by decide) ?_
  refine zb_ci (va_runV (As := [.int 8]) (rest := []) ⟨hx, hb, hml, hown, htb⟩ (r_number l D b cA cJ N f (ro z ob) t nd q sg th 8 hB (by omega)) (cwV 1 htb (wb_V kM_X5_97 kI_X5_number kS_X5_number kN_X5 kD_X5_number) rfl rfl rfl (by decide +kernel) ⟨Nat.le_of_ble_eq_true rfl, Nat.le_of_ble_eq_true rfl⟩) (zp_V 0 rfl rfl hP hK hSt hS hnw) rfl rfl hl.1 rfl (lv_room (Nat.le_of_ble_eq_true rfl)) dX5_end_11 ⟨Nat.le_of_ble_eq_true rfl, Nat.le_of_ble_eq_true rfl⟩) ?_
  refine zb_ti (y := nI (bv f (xP 8))) (cnt_r 8 rfl) ?_
  refine lv_sipush (v := 254) hx hb dX5_end_14 (by decide) ?_
  refine lv_icmp_lt (tgt := 45) hx hb dX5_end_17 (by decide) (fun hc2 => ?_) (fun hc2 => ?_)
  · rw [hQ]
    have hw9 : (rw0 b cA cJ N f (ro z ob) t nd q sg th) = (rw0 b cA cJ N f (ro z (kEv N f ob nd)) t (nEv f nd) q sg th) := by simp only [kEv, nEv, kNew, nNew, if_pos hc1, if_pos hc2, ite_self]
    exact W.vret hx hb hr (fun t9 ht hW => ⟨rfl, by rw [ht, ← hw9]; exact hP, by rw [← hw9]; exact hD, hS.F ht⟩) hS.2.2 dX5_end_45
  refine lv_aload_n hx hb dX5_end_20 rfl (lv_at hl 0 rfl) ?_
  refine lv_bipush (v := 9) hx hb dX5_end_21 (by decide) ?_
  refine zb_ci (va_runV (As := [.int 9]) (rest := []) ⟨hx, hb, hml, hown, htb⟩ (r_number l D b cA cJ N f (ro z ob) t nd q sg th 9 hB (by omega)) (cwV 1 htb (wb_V kM_X5_97 kI_X5_number kS_X5_number kN_X5 kD_X5_number) rfl rfl rfl (by decide +kernel) ⟨Nat.le_of_ble_eq_true rfl, Nat.le_of_ble_eq_true rfl⟩) (zp_V 0 rfl rfl hP hK hSt hS hnw) rfl rfl hl.1 rfl (lv_room (Nat.le_of_ble_eq_true rfl)) dX5_end_23 ⟨Nat.le_of_ble_eq_true rfl, Nat.le_of_ble_eq_true rfl⟩) ?_
  refine zb_ti (y := nI (cG f)) (cnt_r 9 rfl) ?_
  refine lv_if_eq (tgt := 45) hx hb dX5_end_26 (by decide) (fun hc3 => ?_) (fun hc3 => ?_)
  · rw [hQ]
    have hw9 : (rw0 b cA cJ N f (ro z ob) t nd q sg th) = (rw0 b cA cJ N f (ro z (kEv N f ob nd)) t (nEv f nd) q sg th) := by simp only [kEv, nEv, kNew, nNew, if_pos hc1, if_neg hc2, if_pos hc3, ite_self]
    exact W.vret hx hb hr (fun t9 ht hW => ⟨rfl, by rw [ht, ← hw9]; exact hP, by rw [← hw9]; exact hD, hS.F ht⟩) hS.2.2 dX5_end_45
  refine lv_aload_n hx hb dX5_end_29 rfl (lv_at hl 0 rfl) ?_
  refine zb_cl (va_runV (As := []) (rest := []) ⟨hx, hb, hml, hown, htb⟩ (r_content l D b cA cJ N f (ro z ob) t nd q sg th hB hG) (cwV 0 htb (wb_V kM_X5_108 kI_X5_content kS_X5_content kN_X5 kD_X5_content) rfl rfl rfl (by decide +kernel) ⟨Nat.le_of_ble_eq_true rfl, Nat.le_of_ble_eq_true rfl⟩) (zp_V 0 rfl rfl hP hK hSt hS hnw) rfl rfl hl.1 rfl (lv_room (Nat.le_of_ble_eq_true rfl)) dX5_end_30 ⟨Nat.le_of_ble_eq_true rfl, Nat.le_of_ble_eq_true rfl⟩) ?_
  refine lv_aload_n hx hb dX5_end_33 rfl (lv_at hl 0 rfl) ?_
  refine va_get (D := D) (ci := 5) (v := .long nd.2.2.2) (fs := [.int th, .int N, .ref (b 1), .ref (b 2), .ref (b 3), .ref (b 4), .ref (b 5), .ref (b 6), .int 22, .int 95, .int nd.1, .int nd.2.2.1, .int nd.2.1, .long nd.2.2.2, .int t.2.1, .int t.2.2.1, .int t.2.2.2.1, .int t.2.2.2.2.1, .int t.2.2.2.2.2, .ref (b 7), .long q, .int sg, .ref (b 8), .ref (b 9), .ref (b 10), .int ((ro z ob).2.2.2.1), .int ((ro z ob).2.2.2.2)]) (C := RX5) (T := TX5) (N := 27) hx hb htb inX5 hown hK hP 0 rfl rfl 13 (by decide) (htb _ kF_X5_112) (fun _ h9 => h9) rfl dX5_end_34 ?_
  refine W.lcmp hx hb dX5_end_37 ?_
  refine lv_if_eq (tgt := 45) hx hb dX5_end_38 (by decide) (fun hc4 => ?_) (fun hc4 => ?_)
  · rw [hQ]
    have hw9 : (rw0 b cA cJ N f (ro z ob) t nd q sg th) = (rw0 b cA cJ N f (ro z (kEv N f ob nd)) t (nEv f nd) q sg th) := by simp only [kEv, nEv, kNew, nNew, if_pos hc1, if_neg hc2, if_neg hc3, if_pos ((lg_cmp_eq _ _).mp hc4), ite_self]
    exact W.vret hx hb hr (fun t9 ht hW => ⟨rfl, by rw [ht, ← hw9]; exact hP, by rw [← hw9]; exact hD, hS.F ht⟩) hS.2.2 dX5_end_45
  refine lv_aload_n hx hb dX5_end_41 rfl (lv_at hl 0 rfl) ?_
  refine zb_cv (va_runV (As := []) (rest := []) ⟨hx, hb, hml, hown, htb⟩ (r_give l D b cA cJ N f z ob t nd q sg th _ hB hG ho) (cwV 0 htb (wb_V kM_X5_187 kI_X5_give kS_X5_give kN_X5 kD_X5_give) rfl rfl rfl (by decide +kernel) ⟨Nat.le_of_ble_eq_true rfl, Nat.le_of_ble_eq_true rfl⟩) (zp_VW 0 rfl rfl hP hD hK hSt hS hA hnw) rfl rfl hl.1 rfl (lv_room (Nat.le_of_ble_eq_true rfl)) dX5_end_42 ⟨Nat.le_of_ble_eq_true rfl, Nat.le_of_ble_eq_true rfl⟩) hD hS hA (fun H locs hP hD hS => ?_)
  have hP : va_P D vwCl (rw0 b cA cJ N f (ro z (kGive N f ob)) t (nGive f nd) q sg th) H := hP
  have hD : va_D A (rw0 b cA cJ N f (ro z (kGive N f ob)) t (nGive f nd) q sg th) := hD
  rw [hQ]
  have hw9 : (rw0 b cA cJ N f (ro z (kGive N f ob)) t (nGive f nd) q sg th) = (rw0 b cA cJ N f (ro z (kEv N f ob nd)) t (nEv f nd) q sg th) := by simp only [kEv, nEv, kNew, nNew, if_pos hc1, if_neg hc2, if_neg hc3, if_neg (fun h => hc4 ((lg_cmp_eq _ _).mpr h)), ite_self]
  exact W.vret hx hb hr (fun t9 ht hW => ⟨rfl, by rw [ht, ← hw9]; exact hP, by rw [← hw9]; exact hD, hS.F ht⟩) hS.2.2 dX5_end_45
set_option maxHeartbeats 4000000 in
set_option maxRecDepth 100000 in
theorem r_sync (l : Launch) (D : va_G) (b : Nat → Nat) (cA cJ : ClassId) (N : Int32) (f : Nat → Int32) (z : Int32) (ob : OB) (t : RT) (nd : ND) (q : Int64) (sg th : Int32) (sz : Nat)  (hB : isB f) (hG : mapK f 9 5) (ho : obK ob) (h5 : nd.1 = 5) : Met l yX5_sync (wX5_sync :: wb) ({ frames := 3, cells := 0, slots := 0, locals := 70 } : Room) (va_Pc [.ref (b 0)] (zPre D [(cA, .int), (cJ, .long)] (rw0 b cA cJ N f (ro z ob) t nd q sg th) sz)) (zb_Vv D vwCl (rw0 b cA cJ N f (ro z (kSync N f ob nd)) t (nSync f nd) q sg th) (va_A (rw0 b cA cJ N f (ro z ob) t nd q sg th) sz)) 0 0 (va_A (rw0 b cA cJ N f (ro z ob) t nd q sg th) sz) := by
  refine Met.ofW (cc := cX5_sync) (maxL := 2) (ret := none) (by decide) rfl ?_
  intro p ev s m args below meth c s₁ B hml hv
  obtain ⟨rfl, hsz, hP, hK, hD0, hSt, hnw⟩ := hv
  have hx := B.exec
  have hb := B.bytes
  have hr := B.returns
  have hts := atoms_spec (ws := wX5_sync :: wb) B.pre
  have htb : ∀ w ∈ wb, w.before ([.ref (b 0)]).toArray s = true := fun w h => hts w (List.mem_cons_of_mem _ h)
  have hown : s.vm.findClass RX5 = some m.cls := findClass_of_methodNamed B.named
  have hlocks := B.notSynchronized
  subst hsz
  have hD := hD0.self (sz := s.heap.size)
  clear hD0
  generalize hAe : va_A (rw0 b cA cJ N f (ro z ob) t nd q sg th) s.heap.size = A at hD hSt ⊢
  have hA : ∀ q : Nat, s.heap.size ≤ q → A q := fun q h => by rw [← hAe]; exact Or.inr h
  have hS : va_S A s.heap s.heap [] := va_S.rf
  obtain ⟨⟨tt, ff, hZT, hTT, hZF, hTF⟩, hXS⟩ := id hSt
  have hl := lv_entry ([.ref (b 0)]) (n := 2) (Nat.le_of_ble_eq_true rfl)
  rw [lg_entry_eq]
  generalize (lg_sl ([.ref (b 0)]) ++ List.replicate (2 - (lg_sl ([.ref (b 0)])).length) Slot.unset).toArray = ls at hl ⊢
  have hl : lv_has ls 2 [(0, .ref (b 0))] := hl
  refine zb_abs (fun Q hQ => ?_)
  refine lv_aload_n hx hb dX5_sync_0 rfl (lv_at hl 0 rfl) ?_
  refine lv_bipush (v := 8) hx hb dX5_sync_1 (by decide) ?_
  refine zb_ci (va_runV (As := [.int 8]) (rest := []) ⟨hx, hb, hml, hown, htb⟩ (r_number l D b cA cJ N f (ro z ob) t nd q sg th 8 hB (by omega)) (cwV 1 htb (wb_V kM_X5_97 kI_X5_number kS_X5_number kN_X5 kD_X5_number) rfl rfl rfl (by decide +kernel) ⟨Nat.le_of_ble_eq_true rfl, Nat.le_of_ble_eq_true rfl⟩) (zp_V 0 rfl rfl hP hK hSt hS hnw) rfl rfl hl.1 rfl (lv_room (Nat.le_of_ble_eq_true rfl)) dX5_sync_3 ⟨Nat.le_of_ble_eq_true rfl, Nat.le_of_ble_eq_true rfl⟩) ?_
  refine zb_ti (y := nI (bv f (xP 8))) (cnt_r 8 rfl) ?_
  refine lv_istore_n hx hb dX5_sync_6 rfl hl (by decide) rfl (fun ls hl => ?_)
  have hl : lv_has ls 2 [(1, .int (nI (bv f (xP 8)))), (0, .ref (b 0))] := hl
  refine lv_aload_n hx hb dX5_sync_7 rfl (lv_at hl 1 rfl) ?_
  refine lv_bipush (v := 9) hx hb dX5_sync_8 (by decide) ?_
  refine zb_ci (va_runV (As := [.int 9]) (rest := []) ⟨hx, hb, hml, hown, htb⟩ (r_number l D b cA cJ N f (ro z ob) t nd q sg th 9 hB (by omega)) (cwV 1 htb (wb_V kM_X5_97 kI_X5_number kS_X5_number kN_X5 kD_X5_number) rfl rfl rfl (by decide +kernel) ⟨Nat.le_of_ble_eq_true rfl, Nat.le_of_ble_eq_true rfl⟩) (zp_V 0 rfl rfl hP hK hSt hS hnw) rfl rfl hl.1 rfl (lv_room (Nat.le_of_ble_eq_true rfl)) dX5_sync_10 ⟨Nat.le_of_ble_eq_true rfl, Nat.le_of_ble_eq_true rfl⟩) ?_
  refine zb_ti (y := nI (cG f)) (cnt_r 9 rfl) ?_
  refine lv_if_eq (tgt := 23) hx hb dX5_sync_13 (by decide) (fun hc1 => ?_) (fun hc1 => ?_)
  · rw [hQ]
    have hw9 : (rw0 b cA cJ N f (ro z ob) t nd q sg th) = (rw0 b cA cJ N f (ro z (kSync N f ob nd)) t (nSync f nd) q sg th) := by first | (simp only [kSync, nSync, kNew, nNew, if_pos h5, if_pos hc1]; done) | (simp only [kSync, nSync, kNew, nNew, if_pos h5, if_pos hc1]; rfl)
    exact W.vret hx hb hr (fun t9 ht hW => ⟨rfl, by rw [ht, ← hw9]; exact hP, by rw [← hw9]; exact hD, hS.F ht⟩) hS.2.2 dX5_sync_23
  refine lv_iload_n hx hb dX5_sync_16 rfl (lv_at hl 0 rfl) ?_
  refine lv_sipush (v := 240) hx hb dX5_sync_17 (by decide) ?_
  refine lv_icmp_le (tgt := 24) hx hb dX5_sync_20 (by decide) (fun hc2 => ?_) (fun hc2 => ?_)
  · refine lv_iload_n hx hb dX5_sync_24 rfl (lv_at hl 0 rfl) ?_
    refine lv_if_ne (tgt := 45) hx hb dX5_sync_25 (by decide) (fun hc3 => ?_) (fun hc3 => ?_)
    · refine lv_aload_n hx hb dX5_sync_45 rfl (lv_at hl 1 rfl) ?_
      refine lv_dup hx hb dX5_sync_46 rfl ?_
      refine va_get (D := D) (ci := 5) (v := .int nd.2.1) (fs := [.int th, .int N, .ref (b 1), .ref (b 2), .ref (b 3), .ref (b 4), .ref (b 5), .ref (b 6), .int 22, .int 95, .int nd.1, .int nd.2.2.1, .int nd.2.1, .long nd.2.2.2, .int t.2.1, .int t.2.2.1, .int t.2.2.2.1, .int t.2.2.2.2.1, .int t.2.2.2.2.2, .ref (b 7), .long q, .int sg, .ref (b 8), .ref (b 9), .ref (b 10), .int ((ro z ob).2.2.2.1), .int ((ro z ob).2.2.2.2)]) (C := RX5) (T := TX5) (N := 27) hx hb htb inX5 hown hK hP 0 rfl rfl 12 (by decide) (htb _ kF_X5_91) (fun _ h9 => h9) rfl dX5_sync_47 ?_
      refine lv_iconst (v := 1) hx hb dX5_sync_50 (by decide) ?_
      refine lv_iadd hx hb dX5_sync_51 ?_
      refine va_put (D := D) (ci := 5) (v := .int (nd.2.1 + 1)) (fs := [.int th, .int N, .ref (b 1), .ref (b 2), .ref (b 3), .ref (b 4), .ref (b 5), .ref (b 6), .int 22, .int 95, .int nd.1, .int nd.2.2.1, .int nd.2.1, .long nd.2.2.2, .int t.2.1, .int t.2.2.1, .int t.2.2.2.1, .int t.2.2.2.2.1, .int t.2.2.2.2.2, .ref (b 7), .long q, .int sg, .ref (b 8), .ref (b 9), .ref (b 10), .int ((ro z ob).2.2.2.1), .int ((ro z ob).2.2.2.2)]) (ty := .int) (C := RX5) (T := TX5) (N := 27) hx hb htb inX5 tyX5 tyX5_ok nmX5 hown hK hP hD hS 0 rfl rfl 12 (by decide) (htb _ kF_X5_91) (fun _ h9 => h9) rfl (by decide +kernel) rfl rfl (Nat.le_of_ble_eq_true rfl) dX5_sync_52 (fun H locs hP hD hS => ?_)
      have hP : va_P D vwCl (rw0 b cA cJ N f (ro z ob) t (nd.1, nd.2.1 + 1, nd.2.2.1, nd.2.2.2) q sg th) H := hP
      have hD : va_D A (rw0 b cA cJ N f (ro z ob) t (nd.1, nd.2.1 + 1, nd.2.2.1, nd.2.2.2) q sg th) := hD
      refine lv_aload_n hx hb dX5_sync_55 rfl (lv_at hl 1 rfl) ?_
      refine va_get (D := D) (ci := 5) (v := .int (nd.2.1 + 1)) (fs := [.int th, .int N, .ref (b 1), .ref (b 2), .ref (b 3), .ref (b 4), .ref (b 5), .ref (b 6), .int 22, .int 95, .int nd.1, .int nd.2.2.1, .int (nd.2.1 + 1), .long nd.2.2.2, .int t.2.1, .int t.2.2.1, .int t.2.2.2.1, .int t.2.2.2.2.1, .int t.2.2.2.2.2, .ref (b 7), .long q, .int sg, .ref (b 8), .ref (b 9), .ref (b 10), .int ((ro z ob).2.2.2.1), .int ((ro z ob).2.2.2.2)]) (C := RX5) (T := TX5) (N := 27) hx hb htb inX5 hown hK hP 0 rfl rfl 12 (by decide) (htb _ kF_X5_91) (fun _ h9 => h9) rfl dX5_sync_56 ?_
      refine lv_iload_n hx hb dX5_sync_59 rfl (lv_at hl 0 rfl) ?_
      refine lv_icmp_lt (tgt := 72) hx hb dX5_sync_60 (by decide) (fun hc4 => ?_) (fun hc4 => ?_)
      · rw [hQ]
        have hw9 : (rw0 b cA cJ N f (ro z ob) t (nd.1, nd.2.1 + 1, nd.2.2.1, nd.2.2.2) q sg th) = (rw0 b cA cJ N f (ro z (kSync N f ob nd)) t (nSync f nd) q sg th) := by first | (simp only [kSync, nSync, kNew, nNew, if_pos h5, if_neg hc1, if_neg (fun h => absurd h (Int32.not_lt.mpr hc2)), if_neg hc3, if_pos hc4]; done) | (simp only [kSync, nSync, kNew, nNew, if_pos h5, if_neg hc1, if_neg (fun h => absurd h (Int32.not_lt.mpr hc2)), if_neg hc3, if_pos hc4]; rfl)
        exact W.vret hx hb hr (fun t9 ht hW => ⟨rfl, by rw [ht, ← hw9]; exact hP, by rw [← hw9]; exact hD, hS.F ht⟩) hS.2.2 dX5_sync_72
      refine lv_aload_n hx hb dX5_sync_63 rfl (lv_at hl 1 rfl) ?_
      refine lv_iconst (v := 0) hx hb dX5_sync_64 (by decide) ?_
      refine va_put (D := D) (ci := 5) (v := .int 0) (fs := [.int th, .int N, .ref (b 1), .ref (b 2), .ref (b 3), .ref (b 4), .ref (b 5), .ref (b 6), .int 22, .int 95, .int nd.1, .int nd.2.2.1, .int (nd.2.1 + 1), .long nd.2.2.2, .int t.2.1, .int t.2.2.1, .int t.2.2.2.1, .int t.2.2.2.2.1, .int t.2.2.2.2.2, .ref (b 7), .long q, .int sg, .ref (b 8), .ref (b 9), .ref (b 10), .int ((ro z ob).2.2.2.1), .int ((ro z ob).2.2.2.2)]) (ty := .int) (C := RX5) (T := TX5) (N := 27) hx hb htb inX5 tyX5 tyX5_ok nmX5 hown hK hP hD hS 0 rfl rfl 12 (by decide) (htb _ kF_X5_91) (fun _ h9 => h9) rfl (by decide +kernel) rfl rfl (Nat.le_of_ble_eq_true rfl) dX5_sync_65 (fun H locs hP hD hS => ?_)
      have hP : va_P D vwCl (rw0 b cA cJ N f (ro z ob) t (nd.1, 0, nd.2.2.1, nd.2.2.2) q sg th) H := hP
      have hD : va_D A (rw0 b cA cJ N f (ro z ob) t (nd.1, 0, nd.2.2.1, nd.2.2.2) q sg th) := hD
      refine lv_aload_n hx hb dX5_sync_68 rfl (lv_at hl 1 rfl) ?_
      refine zb_cv (va_runV (As := []) (rest := []) ⟨hx, hb, hml, hown, htb⟩ (r_give l D b cA cJ N f z ob t (nd.1, 0, nd.2.2.1, nd.2.2.2) q sg th _ hB hG ho) (cwV 0 htb (wb_V kM_X5_187 kI_X5_give kS_X5_give kN_X5 kD_X5_give) rfl rfl rfl (by decide +kernel) ⟨Nat.le_of_ble_eq_true rfl, Nat.le_of_ble_eq_true rfl⟩) (zp_VW 0 rfl rfl hP hD hK hSt hS hA hnw) rfl rfl hl.1 rfl (lv_room (Nat.le_of_ble_eq_true rfl)) dX5_sync_69 ⟨Nat.le_of_ble_eq_true rfl, Nat.le_of_ble_eq_true rfl⟩) hD hS hA (fun H locs hP hD hS => ?_)
      have hP : va_P D vwCl (rw0 b cA cJ N f (ro z (kGive N f ob)) t (nGive f (nd.1, 0, nd.2.2.1, nd.2.2.2)) q sg th) H := hP
      have hD : va_D A (rw0 b cA cJ N f (ro z (kGive N f ob)) t (nGive f (nd.1, 0, nd.2.2.1, nd.2.2.2)) q sg th) := hD
      rw [hQ]
      have hw9 : (rw0 b cA cJ N f (ro z (kGive N f ob)) t (nGive f (nd.1, 0, nd.2.2.1, nd.2.2.2)) q sg th) = (rw0 b cA cJ N f (ro z (kSync N f ob nd)) t (nSync f nd) q sg th) := by first | (simp only [kSync, nSync, kNew, nNew, if_pos h5, if_neg hc1, if_neg (fun h => absurd h (Int32.not_lt.mpr hc2)), if_neg hc3, if_neg hc4]; done) | (simp only [kSync, nSync, kNew, nNew, if_pos h5, if_neg hc1, if_neg (fun h => absurd h (Int32.not_lt.mpr hc2)), if_neg hc3, if_neg hc4]; rfl)
      exact W.vret hx hb hr (fun t9 ht hW => ⟨rfl, by rw [ht, ← hw9]; exact hP, by rw [← hw9]; exact hD, hS.F ht⟩) hS.2.2 dX5_sync_72
    refine lv_aload_n hx hb dX5_sync_28 rfl (lv_at hl 1 rfl) ?_
    refine zb_cl (va_runV (As := []) (rest := []) ⟨hx, hb, hml, hown, htb⟩ (r_content l D b cA cJ N f (ro z ob) t nd q sg th hB hG) (cwV 0 htb (wb_V kM_X5_108 kI_X5_content kS_X5_content kN_X5 kD_X5_content) rfl rfl rfl (by decide +kernel) ⟨Nat.le_of_ble_eq_true rfl, Nat.le_of_ble_eq_true rfl⟩) (zp_V 0 rfl rfl hP hK hSt hS hnw) rfl rfl hl.1 rfl (lv_room (Nat.le_of_ble_eq_true rfl)) dX5_sync_29 ⟨Nat.le_of_ble_eq_true rfl, Nat.le_of_ble_eq_true rfl⟩) ?_
    refine lv_aload_n hx hb dX5_sync_32 rfl (lv_at hl 1 rfl) ?_
    refine va_get (D := D) (ci := 5) (v := .long nd.2.2.2) (fs := [.int th, .int N, .ref (b 1), .ref (b 2), .ref (b 3), .ref (b 4), .ref (b 5), .ref (b 6), .int 22, .int 95, .int nd.1, .int nd.2.2.1, .int nd.2.1, .long nd.2.2.2, .int t.2.1, .int t.2.2.1, .int t.2.2.2.1, .int t.2.2.2.2.1, .int t.2.2.2.2.2, .ref (b 7), .long q, .int sg, .ref (b 8), .ref (b 9), .ref (b 10), .int ((ro z ob).2.2.2.1), .int ((ro z ob).2.2.2.2)]) (C := RX5) (T := TX5) (N := 27) hx hb htb inX5 hown hK hP 0 rfl rfl 13 (by decide) (htb _ kF_X5_112) (fun _ h9 => h9) rfl dX5_sync_33 ?_
    refine W.lcmp hx hb dX5_sync_36 ?_
    refine lv_if_eq (tgt := 44) hx hb dX5_sync_37 (by decide) (fun hc5 => ?_) (fun hc5 => ?_)
    · rw [hQ]
      have hw9 : (rw0 b cA cJ N f (ro z ob) t nd q sg th) = (rw0 b cA cJ N f (ro z (kSync N f ob nd)) t (nSync f nd) q sg th) := by first | (simp only [kSync, nSync, kNew, nNew, if_pos h5, if_neg hc1, if_neg (fun h => absurd h (Int32.not_lt.mpr hc2)), if_pos hc3, if_pos ((lg_cmp_eq _ _).mp hc5)]; done) | (simp only [kSync, nSync, kNew, nNew, if_pos h5, if_neg hc1, if_neg (fun h => absurd h (Int32.not_lt.mpr hc2)), if_pos hc3, if_pos ((lg_cmp_eq _ _).mp hc5)]; rfl)
      exact W.vret hx hb hr (fun t9 ht hW => ⟨rfl, by rw [ht, ← hw9]; exact hP, by rw [← hw9]; exact hD, hS.F ht⟩) hS.2.2 dX5_sync_44
    refine lv_aload_n hx hb dX5_sync_40 rfl (lv_at hl 1 rfl) ?_
    refine zb_cv (va_runV (As := []) (rest := []) ⟨hx, hb, hml, hown, htb⟩ (r_give l D b cA cJ N f z ob t nd q sg th _ hB hG ho) (cwV 0 htb (wb_V kM_X5_187 kI_X5_give kS_X5_give kN_X5 kD_X5_give) rfl rfl rfl (by decide +kernel) ⟨Nat.le_of_ble_eq_true rfl, Nat.le_of_ble_eq_true rfl⟩) (zp_VW 0 rfl rfl hP hD hK hSt hS hA hnw) rfl rfl hl.1 rfl (lv_room (Nat.le_of_ble_eq_true rfl)) dX5_sync_41 ⟨Nat.le_of_ble_eq_true rfl, Nat.le_of_ble_eq_true rfl⟩) hD hS hA (fun H locs hP hD hS => ?_)
    have hP : va_P D vwCl (rw0 b cA cJ N f (ro z (kGive N f ob)) t (nGive f nd) q sg th) H := hP
    have hD : va_D A (rw0 b cA cJ N f (ro z (kGive N f ob)) t (nGive f nd) q sg th) := hD
    rw [hQ]
    have hw9 : (rw0 b cA cJ N f (ro z (kGive N f ob)) t (nGive f nd) q sg th) = (rw0 b cA cJ N f (ro z (kSync N f ob nd)) t (nSync f nd) q sg th) := by first | (simp only [kSync, nSync, kNew, nNew, if_pos h5, if_neg hc1, if_neg (fun h => absurd h (Int32.not_lt.mpr hc2)), if_pos hc3, if_neg (fun h => hc5 ((lg_cmp_eq _ _).mpr h))]; done) | (simp only [kSync, nSync, kNew, nNew, if_pos h5, if_neg hc1, if_neg (fun h => absurd h (Int32.not_lt.mpr hc2)), if_pos hc3, if_neg (fun h => hc5 ((lg_cmp_eq _ _).mpr h))]; rfl)
    exact W.vret hx hb hr (fun t9 ht hW => ⟨rfl, by rw [ht, ← hw9]; exact hP, by rw [← hw9]; exact hD, hS.F ht⟩) hS.2.2 dX5_sync_44
  rw [hQ]
  have hw9 : (rw0 b cA cJ N f (ro z ob) t nd q sg th) = (rw0 b cA cJ N f (ro z (kSync N f ob nd)) t (nSync f nd) q sg th) := by first | (simp only [kSync, nSync, kNew, nNew, if_pos h5, if_neg hc1, if_pos (Int32.not_le.mp hc2), if_neg (fun h : nI (bv f (xP 8)) = 0 => hc2 (by rw [h]; decide))]; done) | (simp only [kSync, nSync, kNew, nNew, if_pos h5, if_neg hc1, if_pos (Int32.not_le.mp hc2), if_neg (fun h : nI (bv f (xP 8)) = 0 => hc2 (by rw [h]; decide))]; rfl)
  exact W.vret hx hb hr (fun t9 ht hW => ⟨rfl, by rw [ht, ← hw9]; exact hP, by rw [← hw9]; exact hD, hS.F ht⟩) hS.2.2 dX5_sync_23
