def tq (x : Nat → Nat) (n : Nat) : Nat → Int32 := fun j => if j < n then nI (x j) else 0
def pE (n : Nat) : Nat := if n < 22 then xP n else 95
theorem tq_up (x : Nat → Nat) (n : Nat) : upd (tq x n) n (nI (x n)) = tq x (n + 1) := by
  funext j
  unfold upd tq
  by_cases h : j = n
  · subst h
    rw [if_pos rfl, if_pos (Nat.lt_succ_self _)]
  · rw [if_neg h]
    by_cases h2 : j < n
    · rw [if_pos h2, if_pos (by omega)]
    · rw [if_neg h2, if_neg (by omega)]
theorem tq_0 (x : Nat → Nat) : tq x 0 = f00 := by
  funext j
  exact if_neg (Nat.not_lt_zero j)
theorem pE_n : ∀ n, n < 22 → pE n = xP n ∧ pE n + xZ n = pE (n + 1) := by decide
def o00 : RO := (f00, f00, fun _ => 0, 0, 0)
def t00 : RT := (f00, 0, 0, 0, 0, 0)
def rwT (b : Nat → Nat) (cA cJ : ClassId) (N : Int32) (n : Nat) : va_W := rwG b cA cJ N (tq xI n) (tq xS n) (tq xZ n) (tq xR n) (tq xP n) (nI n) (nI (pE n)) f00 o00 t00 (0, 0, 0, 0) 0 0 0
theorem tq_22 (x : Nat → Nat) (h : ∀ j, 22 ≤ j → x j = 0) : tq x 22 = fun e => nI (x e) := by
  funext j
  unfold tq
  by_cases h2 : j < 22
  · rw [if_pos h2]
  · rw [if_neg h2, h j (by omega)]
    rfl
theorem gd0 (l : List Nat) (hl : l.length = 22) : ∀ j, 22 ≤ j → l.getD j 0 = 0 := by
  intro j hj
  show (l[j]?).getD 0 = 0
  rw [List.getElem?_eq_none (by omega)]
  rfl
theorem rwT_22 (b : Nat → Nat) (cA cJ : ClassId) (N : Int32) : rwT b cA cJ N 22 = rw0 b cA cJ N f00 (ro 0 ob0) t00 (0, 0, 0, 0) 0 0 0 := by
  unfold rwT
  rw [tq_22 xI (gd0 tbI rfl), tq_22 xS (gd0 tbS rfl), tq_22 xZ (gd0 tbZ rfl), tq_22 xR (gd0 tbR rfl), tq_22 xP (gd0 tbP rfl)]
  rfl
theorem nN_1 {n : Int32} (h : ¬ 1 ≤ n) : 1 = nN n := by
  unfold nN
  have h1 : n < 15 := by rw [Int32.lt_iff_toInt_lt]; rw [Int32.le_iff_toInt_le] at h; have e1 : (1 : Int32).toInt = 1 := rfl; have e2 : (15 : Int32).toInt = 15 := rfl; omega
  rw [if_pos h1, if_neg (by rw [Int32.lt_iff_toInt_lt]; rw [Int32.le_iff_toInt_le] at h; omega)]
theorem nN_15 {n : Int32} (h : ¬ n ≤ 15) : 15 = nN n := by
  unfold nN
  rw [if_neg (fun h2 => h (Int32.le_of_lt h2))]
  rfl
theorem nN_m {n : Int32} (h1 : 1 ≤ n) (h2 : n ≤ 15) : n = nN n := by
  unfold nN
  have e : (if n < 15 then n else 15) = n := by
    split
    · rfl
    · rename_i h3
      exact Int32.le_antisymm (Int32.not_lt.mp h3) h2
  rw [e]
  split
  · rfl
  · rename_i h3
    exact Int32.le_antisymm (Int32.not_lt.mp h3) h1
theorem nN_nat (n : Int32) : ∃ k, 1 ≤ k ∧ k ≤ 15 ∧ nN n = nI k := by
  by_cases h1 : 1 ≤ n
  · by_cases h2 : n ≤ 15
    · rw [← nN_m h1 h2]
      have a1 := Int32.le_iff_toInt_le.mp h1
      have a2 := Int32.le_iff_toInt_le.mp h2
      have e1 : (1 : Int32).toInt = 1 := rfl
      have e2 : (15 : Int32).toInt = 15 := rfl
      refine ⟨n.toInt.toNat, by omega, by omega, Int32.toInt_inj.mp ?_⟩
      rw [nI_toInt (by omega)]
      omega
    · exact ⟨15, by decide, by decide, (nN_15 h2).symm⟩
  · exact ⟨1, by decide, by decide, (nN_1 h1).symm⟩
set_option maxHeartbeats 4000000 in
set_option maxRecDepth 100000 in
theorem r_add (l : Launch) (D : va_G) (b : Nat → Nat) (cA cJ : ClassId) (N : Int32) (n : Nat) (sz : Nat) (i s9 z r : Int32) (hn : n < 22) (hi : i = nI (xI n)) (hs : s9 = nI (xS n)) (hz : z = nI (xZ n)) (hr9 : r = nI (xR n)) : Met l yX5_add (wX5_add :: wb) ({ frames := 0, cells := 0, slots := 0, locals := 0 } : Room) (va_Pc [.ref (b 0), .int i, .int s9, .int z, .int r] (zPre D [(cA, .int), (cJ, .long)] (rwG b cA cJ N (tq xI n) (tq xS n) (tq xZ n) (tq xR n) (tq xP n) (nI n) (nI (pE n)) f00 o00 t00 (0, 0, 0, 0) 0 0 0) sz)) (zb_Vv D vwCl (rwT b cA cJ N (n + 1)) (va_A (rwG b cA cJ N (tq xI n) (tq xS n) (tq xZ n) (tq xR n) (tq xP n) (nI n) (nI (pE n)) f00 o00 t00 (0, 0, 0, 0) 0 0 0) sz)) 0 0 (va_A (rwG b cA cJ N (tq xI n) (tq xS n) (tq xZ n) (tq xR n) (tq xP n) (nI n) (nI (pE n)) f00 o00 t00 (0, 0, 0, 0) 0 0 0) sz) := by
  refine Met.ofW (cc := cX5_add) (maxL := 5) (ret := none) (by decide) rfl ?_
  intro p ev s m args below meth c s₁ B hml hv
  obtain ⟨rfl, hsz, hP, hK, hD0, hSt, hnw⟩ := hv
  have hx := B.exec
  have hb := B.bytes
  have hr := B.returns
  have hts := atoms_spec (ws := wX5_add :: wb) B.pre
  have htb : ∀ w ∈ wb, w.before ([.ref (b 0), .int i, .int s9, .int z, .int r]).toArray s = true := fun w h => hts w (List.mem_cons_of_mem _ h)
  have hown : s.vm.findClass RX5 = some m.cls := findClass_of_methodNamed B.named
  have hlocks := B.notSynchronized
  subst hsz
  have hD := hD0.self (sz := s.heap.size)
  clear hD0
  generalize hAe : va_A (rwG b cA cJ N (tq xI n) (tq xS n) (tq xZ n) (tq xR n) (tq xP n) (nI n) (nI (pE n)) f00 o00 t00 (0, 0, 0, 0) 0 0 0) s.heap.size = A at hD hSt ⊢
  have hA : ∀ q : Nat, s.heap.size ≤ q → A q := fun q h => by rw [← hAe]; exact Or.inr h
  have hS : va_S A s.heap s.heap [] := va_S.rf
  obtain ⟨⟨tt, ff, hZT, hTT, hZF, hTF⟩, hXS⟩ := id hSt
  have hl := lv_entry ([.ref (b 0), .int i, .int s9, .int z, .int r]) (n := 5) (Nat.le_of_ble_eq_true rfl)
  rw [lg_entry_eq]
  generalize (lg_sl ([.ref (b 0), .int i, .int s9, .int z, .int r]) ++ List.replicate (5 - (lg_sl ([.ref (b 0), .int i, .int s9, .int z, .int r])).length) Slot.unset).toArray = ls at hl ⊢
  have hl : lv_has ls 5 [(0, .ref (b 0)), (1, .int i), (2, .int s9), (3, .int z), (4, .int r)] := hl
  refine zb_abs (fun Q hQ => ?_)
  subst hi hs hz hr9
  have hpn := pE_n n hn
  refine lv_aload_n hx hb dX5_add_0 rfl (lv_at hl 0 rfl) ?_
  refine va_get (D := D) (ci := 5) (v := .ref (b 1)) (fs := [.int 0, .int N, .ref (b 1), .ref (b 2), .ref (b 3), .ref (b 4), .ref (b 5), .ref (b 6), .int (nI n), .int (nI (pE n)), .int 0, .int 0, .int 0, .long 0, .int 0, .int 0, .int 0, .int 0, .int 0, .ref (b 7), .long 0, .int 0, .ref (b 8), .ref (b 9), .ref (b 10), .int 0, .int 0]) (C := RX5) (T := TX5) (N := 27) hx hb htb inX5 hown hK hP 0 rfl rfl 2 (by decide) (htb _ kF_X5_7) (fun _ h9 => h9) rfl dX5_add_1 ?_
  refine lv_aload_n hx hb dX5_add_4 rfl (lv_at hl 0 rfl) ?_
  refine va_get (D := D) (ci := 5) (v := .int (nI n)) (fs := [.int 0, .int N, .ref (b 1), .ref (b 2), .ref (b 3), .ref (b 4), .ref (b 5), .ref (b 6), .int (nI n), .int (nI (pE n)), .int 0, .int 0, .int 0, .long 0, .int 0, .int 0, .int 0, .int 0, .int 0, .ref (b 7), .long 0, .int 0, .ref (b 8), .ref (b 9), .ref (b 10), .int 0, .int 0]) (C := RX5) (T := TX5) (N := 27) hx hb htb inX5 hown hK hP 0 rfl rfl 8 (by decide) (htb _ kF_X5_60) (fun _ h9 => h9) rfl dX5_add_5 ?_
  refine lv_iload_n hx hb dX5_add_8 rfl (lv_at hl 1 rfl) ?_
  refine va_iast (i := nI n) (x := nI (xI n)) hx hb hK hP hD hS 1 0 rfl rfl (vp_in_nI (by omega) (by decide)) dX5_add_9 (fun H locs hP hD hS => ?_)
  rw [nI_clamp (by omega)] at hP hD
  have hP : va_P D vwCl (rwG b cA cJ N (upd (tq xI n) n (nI (xI n))) (tq xS n) (tq xZ n) (tq xR n) (tq xP n) (nI n) (nI (pE n)) f00 o00 t00 (0, 0, 0, 0) 0 0 0) H := hP
  have hD : va_D A (rwG b cA cJ N (upd (tq xI n) n (nI (xI n))) (tq xS n) (tq xZ n) (tq xR n) (tq xP n) (nI n) (nI (pE n)) f00 o00 t00 (0, 0, 0, 0) 0 0 0) := hD
  refine lv_aload_n hx hb dX5_add_10 rfl (lv_at hl 0 rfl) ?_
  refine va_get (D := D) (ci := 5) (v := .ref (b 2)) (fs := [.int 0, .int N, .ref (b 1), .ref (b 2), .ref (b 3), .ref (b 4), .ref (b 5), .ref (b 6), .int (nI n), .int (nI (pE n)), .int 0, .int 0, .int 0, .long 0, .int 0, .int 0, .int 0, .int 0, .int 0, .ref (b 7), .long 0, .int 0, .ref (b 8), .ref (b 9), .ref (b 10), .int 0, .int 0]) (C := RX5) (T := TX5) (N := 27) hx hb htb inX5 hown hK hP 0 rfl rfl 3 (by decide) (htb _ kF_X5_13) (fun _ h9 => h9) rfl dX5_add_11 ?_
  refine lv_aload_n hx hb dX5_add_14 rfl (lv_at hl 0 rfl) ?_
  refine va_get (D := D) (ci := 5) (v := .int (nI n)) (fs := [.int 0, .int N, .ref (b 1), .ref (b 2), .ref (b 3), .ref (b 4), .ref (b 5), .ref (b 6), .int (nI n), .int (nI (pE n)), .int 0, .int 0, .int 0, .long 0, .int 0, .int 0, .int 0, .int 0, .int 0, .ref (b 7), .long 0, .int 0, .ref (b 8), .ref (b 9), .ref (b 10), .int 0, .int 0]) (C := RX5) (T := TX5) (N := 27) hx hb htb inX5 hown hK hP 0 rfl rfl 8 (by decide) (htb _ kF_X5_60) (fun _ h9 => h9) rfl dX5_add_15 ?_
  refine lv_iload_n hx hb dX5_add_18 rfl (lv_at hl 2 rfl) ?_
  refine va_iast (i := nI n) (x := nI (xS n)) hx hb hK hP hD hS 2 0 rfl rfl (vp_in_nI (by omega) (by decide)) dX5_add_19 (fun H locs hP hD hS => ?_)
  rw [nI_clamp (by omega)] at hP hD
  have hP : va_P D vwCl (rwG b cA cJ N (upd (tq xI n) n (nI (xI n))) (upd (tq xS n) n (nI (xS n))) (tq xZ n) (tq xR n) (tq xP n) (nI n) (nI (pE n)) f00 o00 t00 (0, 0, 0, 0) 0 0 0) H := hP
  have hD : va_D A (rwG b cA cJ N (upd (tq xI n) n (nI (xI n))) (upd (tq xS n) n (nI (xS n))) (tq xZ n) (tq xR n) (tq xP n) (nI n) (nI (pE n)) f00 o00 t00 (0, 0, 0, 0) 0 0 0) := hD
  refine lv_aload_n hx hb dX5_add_20 rfl (lv_at hl 0 rfl) ?_
  refine va_get (D := D) (ci := 5) (v := .ref (b 3)) (fs := [.int 0, .int N, .ref (b 1), .ref (b 2), .ref (b 3), .ref (b 4), .ref (b 5), .ref (b 6), .int (nI n), .int (nI (pE n)), .int 0, .int 0, .int 0, .long 0, .int 0, .int 0, .int 0, .int 0, .int 0, .ref (b 7), .long 0, .int 0, .ref (b 8), .ref (b 9), .ref (b 10), .int 0, .int 0]) (C := RX5) (T := TX5) (N := 27) hx hb htb inX5 hown hK hP 0 rfl rfl 4 (by decide) (htb _ kF_X5_16) (fun _ h9 => h9) rfl dX5_add_21 ?_
  refine lv_aload_n hx hb dX5_add_24 rfl (lv_at hl 0 rfl) ?_
  refine va_get (D := D) (ci := 5) (v := .int (nI n)) (fs := [.int 0, .int N, .ref (b 1), .ref (b 2), .ref (b 3), .ref (b 4), .ref (b 5), .ref (b 6), .int (nI n), .int (nI (pE n)), .int 0, .int 0, .int 0, .long 0, .int 0, .int 0, .int 0, .int 0, .int 0, .ref (b 7), .long 0, .int 0, .ref (b 8), .ref (b 9), .ref (b 10), .int 0, .int 0]) (C := RX5) (T := TX5) (N := 27) hx hb htb inX5 hown hK hP 0 rfl rfl 8 (by decide) (htb _ kF_X5_60) (fun _ h9 => h9) rfl dX5_add_25 ?_
  refine lv_iload_n hx hb dX5_add_28 rfl (lv_at hl 3 rfl) ?_
  refine va_iast (i := nI n) (x := nI (xZ n)) hx hb hK hP hD hS 3 0 rfl rfl (vp_in_nI (by omega) (by decide)) dX5_add_29 (fun H locs hP hD hS => ?_)
  rw [nI_clamp (by omega)] at hP hD
  have hP : va_P D vwCl (rwG b cA cJ N (upd (tq xI n) n (nI (xI n))) (upd (tq xS n) n (nI (xS n))) (upd (tq xZ n) n (nI (xZ n))) (tq xR n) (tq xP n) (nI n) (nI (pE n)) f00 o00 t00 (0, 0, 0, 0) 0 0 0) H := hP
  have hD : va_D A (rwG b cA cJ N (upd (tq xI n) n (nI (xI n))) (upd (tq xS n) n (nI (xS n))) (upd (tq xZ n) n (nI (xZ n))) (tq xR n) (tq xP n) (nI n) (nI (pE n)) f00 o00 t00 (0, 0, 0, 0) 0 0 0) := hD
  refine lv_aload_n hx hb dX5_add_30 rfl (lv_at hl 0 rfl) ?_
  refine va_get (D := D) (ci := 5) (v := .ref (b 4)) (fs := [.int 0, .int N, .ref (b 1), .ref (b 2), .ref (b 3), .ref (b 4), .ref (b 5), .ref (b 6), .int (nI n), .int (nI (pE n)), .int 0, .int 0, .int 0, .long 0, .int 0, .int 0, .int 0, .int 0, .int 0, .ref (b 7), .long 0, .int 0, .ref (b 8), .ref (b 9), .ref (b 10), .int 0, .int 0]) (C := RX5) (T := TX5) (N := 27) hx hb htb inX5 hown hK hP 0 rfl rfl 5 (by decide) (htb _ kF_X5_19) (fun _ h9 => h9) rfl dX5_add_31 ?_
  refine lv_aload_n hx hb dX5_add_34 rfl (lv_at hl 0 rfl) ?_
  refine va_get (D := D) (ci := 5) (v := .int (nI n)) (fs := [.int 0, .int N, .ref (b 1), .ref (b 2), .ref (b 3), .ref (b 4), .ref (b 5), .ref (b 6), .int (nI n), .int (nI (pE n)), .int 0, .int 0, .int 0, .long 0, .int 0, .int 0, .int 0, .int 0, .int 0, .ref (b 7), .long 0, .int 0, .ref (b 8), .ref (b 9), .ref (b 10), .int 0, .int 0]) (C := RX5) (T := TX5) (N := 27) hx hb htb inX5 hown hK hP 0 rfl rfl 8 (by decide) (htb _ kF_X5_60) (fun _ h9 => h9) rfl dX5_add_35 ?_
  refine lv_iload hx hb dX5_add_38 (lv_at hl 4 rfl) ?_
  refine va_iast (i := nI n) (x := nI (xR n)) hx hb hK hP hD hS 4 0 rfl rfl (vp_in_nI (by omega) (by decide)) dX5_add_40 (fun H locs hP hD hS => ?_)
  rw [nI_clamp (by omega)] at hP hD
  have hP : va_P D vwCl (rwG b cA cJ N (upd (tq xI n) n (nI (xI n))) (upd (tq xS n) n (nI (xS n))) (upd (tq xZ n) n (nI (xZ n))) (upd (tq xR n) n (nI (xR n))) (tq xP n) (nI n) (nI (pE n)) f00 o00 t00 (0, 0, 0, 0) 0 0 0) H := hP
  have hD : va_D A (rwG b cA cJ N (upd (tq xI n) n (nI (xI n))) (upd (tq xS n) n (nI (xS n))) (upd (tq xZ n) n (nI (xZ n))) (upd (tq xR n) n (nI (xR n))) (tq xP n) (nI n) (nI (pE n)) f00 o00 t00 (0, 0, 0, 0) 0 0 0) := hD
  refine lv_aload_n hx hb dX5_add_41 rfl (lv_at hl 0 rfl) ?_
  refine va_get (D := D) (ci := 5) (v := .ref (b 5)) (fs := [.int 0, .int N, .ref (b 1), .ref (b 2), .ref (b 3), .ref (b 4), .ref (b 5), .ref (b 6), .int (nI n), .int (nI (pE n)), .int 0, .int 0, .int 0, .long 0, .int 0, .int 0, .int 0, .int 0, .int 0, .ref (b 7), .long 0, .int 0, .ref (b 8), .ref (b 9), .ref (b 10), .int 0, .int 0]) (C := RX5) (T := TX5) (N := 27) hx hb htb inX5 hown hK hP 0 rfl rfl 6 (by decide) (htb _ kF_X5_22) (fun _ h9 => h9) rfl dX5_add_42 ?_
  refine lv_aload_n hx hb dX5_add_45 rfl (lv_at hl 0 rfl) ?_
  refine va_get (D := D) (ci := 5) (v := .int (nI n)) (fs := [.int 0, .int N, .ref (b 1), .ref (b 2), .ref (b 3), .ref (b 4), .ref (b 5), .ref (b 6), .int (nI n), .int (nI (pE n)), .int 0, .int 0, .int 0, .long 0, .int 0, .int 0, .int 0, .int 0, .int 0, .ref (b 7), .long 0, .int 0, .ref (b 8), .ref (b 9), .ref (b 10), .int 0, .int 0]) (C := RX5) (T := TX5) (N := 27) hx hb htb inX5 hown hK hP 0 rfl rfl 8 (by decide) (htb _ kF_X5_60) (fun _ h9 => h9) rfl dX5_add_46 ?_
  refine lv_aload_n hx hb dX5_add_49 rfl (lv_at hl 0 rfl) ?_
  refine va_get (D := D) (ci := 5) (v := .int (nI (pE n))) (fs := [.int 0, .int N, .ref (b 1), .ref (b 2), .ref (b 3), .ref (b 4), .ref (b 5), .ref (b 6), .int (nI n), .int (nI (pE n)), .int 0, .int 0, .int 0, .long 0, .int 0, .int 0, .int 0, .int 0, .int 0, .ref (b 7), .long 0, .int 0, .ref (b 8), .ref (b 9), .ref (b 10), .int 0, .int 0]) (C := RX5) (T := TX5) (N := 27) hx hb htb inX5 hown hK hP 0 rfl rfl 9 (by decide) (htb _ kF_X5_63) (fun _ h9 => h9) rfl dX5_add_50 ?_
  refine zb_ti (y := nI (xP n)) (by rw [hpn.1]) ?_
  refine va_iast (i := nI n) (x := nI (xP n)) hx hb hK hP hD hS 5 0 rfl rfl (vp_in_nI (by omega) (by decide)) dX5_add_53 (fun H locs hP hD hS => ?_)
  rw [nI_clamp (by omega)] at hP hD
  have hP : va_P D vwCl (rwG b cA cJ N (upd (tq xI n) n (nI (xI n))) (upd (tq xS n) n (nI (xS n))) (upd (tq xZ n) n (nI (xZ n))) (upd (tq xR n) n (nI (xR n))) (upd (tq xP n) n (nI (xP n))) (nI n) (nI (pE n)) f00 o00 t00 (0, 0, 0, 0) 0 0 0) H := hP
  have hD : va_D A (rwG b cA cJ N (upd (tq xI n) n (nI (xI n))) (upd (tq xS n) n (nI (xS n))) (upd (tq xZ n) n (nI (xZ n))) (upd (tq xR n) n (nI (xR n))) (upd (tq xP n) n (nI (xP n))) (nI n) (nI (pE n)) f00 o00 t00 (0, 0, 0, 0) 0 0 0) := hD
  refine lv_aload_n hx hb dX5_add_54 rfl (lv_at hl 0 rfl) ?_
  refine lv_dup hx hb dX5_add_55 rfl ?_
  refine va_get (D := D) (ci := 5) (v := .int (nI (pE n))) (fs := [.int 0, .int N, .ref (b 1), .ref (b 2), .ref (b 3), .ref (b 4), .ref (b 5), .ref (b 6), .int (nI n), .int (nI (pE n)), .int 0, .int 0, .int 0, .long 0, .int 0, .int 0, .int 0, .int 0, .int 0, .ref (b 7), .long 0, .int 0, .ref (b 8), .ref (b 9), .ref (b 10), .int 0, .int 0]) (C := RX5) (T := TX5) (N := 27) hx hb htb inX5 hown hK hP 0 rfl rfl 9 (by decide) (htb _ kF_X5_63) (fun _ h9 => h9) rfl dX5_add_56 ?_
  refine lv_iload_n hx hb dX5_add_59 rfl (lv_at hl 3 rfl) ?_
  refine lv_iadd hx hb dX5_add_60 ?_
  refine zb_ti (nI_add (pE n) (xZ n)) ?_
  refine va_put (D := D) (ci := 5) (v := .int (nI ((pE n) + (xZ n)))) (fs := [.int 0, .int N, .ref (b 1), .ref (b 2), .ref (b 3), .ref (b 4), .ref (b 5), .ref (b 6), .int (nI n), .int (nI (pE n)), .int 0, .int 0, .int 0, .long 0, .int 0, .int 0, .int 0, .int 0, .int 0, .ref (b 7), .long 0, .int 0, .ref (b 8), .ref (b 9), .ref (b 10), .int 0, .int 0]) (ty := .int) (C := RX5) (T := TX5) (N := 27) hx hb htb inX5 tyX5 tyX5_ok nmX5 hown hK hP hD hS 0 rfl rfl 9 (by decide) (htb _ kF_X5_63) (fun _ h9 => h9) rfl (by decide +kernel) rfl rfl (Nat.le_of_ble_eq_true rfl) dX5_add_61 (fun H locs hP hD hS => ?_)
  have hP : va_P D vwCl (rwG b cA cJ N (upd (tq xI n) n (nI (xI n))) (upd (tq xS n) n (nI (xS n))) (upd (tq xZ n) n (nI (xZ n))) (upd (tq xR n) n (nI (xR n))) (upd (tq xP n) n (nI (xP n))) (nI n) (nI ((pE n) + (xZ n))) f00 o00 t00 (0, 0, 0, 0) 0 0 0) H := hP
  have hD : va_D A (rwG b cA cJ N (upd (tq xI n) n (nI (xI n))) (upd (tq xS n) n (nI (xS n))) (upd (tq xZ n) n (nI (xZ n))) (upd (tq xR n) n (nI (xR n))) (upd (tq xP n) n (nI (xP n))) (nI n) (nI ((pE n) + (xZ n))) f00 o00 t00 (0, 0, 0, 0) 0 0 0) := hD
  refine lv_aload_n hx hb dX5_add_64 rfl (lv_at hl 0 rfl) ?_
  refine lv_dup hx hb dX5_add_65 rfl ?_
  refine va_get (D := D) (ci := 5) (v := .int (nI n)) (fs := [.int 0, .int N, .ref (b 1), .ref (b 2), .ref (b 3), .ref (b 4), .ref (b 5), .ref (b 6), .int (nI n), .int (nI ((pE n) + (xZ n))), .int 0, .int 0, .int 0, .long 0, .int 0, .int 0, .int 0, .int 0, .int 0, .ref (b 7), .long 0, .int 0, .ref (b 8), .ref (b 9), .ref (b 10), .int 0, .int 0]) (C := RX5) (T := TX5) (N := 27) hx hb htb inX5 hown hK hP 0 rfl rfl 8 (by decide) (htb _ kF_X5_60) (fun _ h9 => h9) rfl dX5_add_66 ?_
  refine lv_iconst (v := 1) hx hb dX5_add_69 (by decide) ?_
  refine lv_iadd hx hb dX5_add_70 ?_
  refine zb_ti (nI_add n 1) ?_
  refine va_put (D := D) (ci := 5) (v := .int (nI (n + 1))) (fs := [.int 0, .int N, .ref (b 1), .ref (b 2), .ref (b 3), .ref (b 4), .ref (b 5), .ref (b 6), .int (nI n), .int (nI ((pE n) + (xZ n))), .int 0, .int 0, .int 0, .long 0, .int 0, .int 0, .int 0, .int 0, .int 0, .ref (b 7), .long 0, .int 0, .ref (b 8), .ref (b 9), .ref (b 10), .int 0, .int 0]) (ty := .int) (C := RX5) (T := TX5) (N := 27) hx hb htb inX5 tyX5 tyX5_ok nmX5 hown hK hP hD hS 0 rfl rfl 8 (by decide) (htb _ kF_X5_60) (fun _ h9 => h9) rfl (by decide +kernel) rfl rfl (Nat.le_of_ble_eq_true rfl) dX5_add_71 (fun H locs hP hD hS => ?_)
  have hP : va_P D vwCl (rwG b cA cJ N (upd (tq xI n) n (nI (xI n))) (upd (tq xS n) n (nI (xS n))) (upd (tq xZ n) n (nI (xZ n))) (upd (tq xR n) n (nI (xR n))) (upd (tq xP n) n (nI (xP n))) (nI (n + 1)) (nI ((pE n) + (xZ n))) f00 o00 t00 (0, 0, 0, 0) 0 0 0) H := hP
  have hD : va_D A (rwG b cA cJ N (upd (tq xI n) n (nI (xI n))) (upd (tq xS n) n (nI (xS n))) (upd (tq xZ n) n (nI (xZ n))) (upd (tq xR n) n (nI (xR n))) (upd (tq xP n) n (nI (xP n))) (nI (n + 1)) (nI ((pE n) + (xZ n))) f00 o00 t00 (0, 0, 0, 0) 0 0 0) := hD
  rw [hQ]
  have hw9 : ((rwG b cA cJ N (upd (tq xI n) n (nI (xI n))) (upd (tq xS n) n (nI (xS n))) (upd (tq xZ n) n (nI (xZ n))) (upd (tq xR n) n (nI (xR n))) (upd (tq xP n) n (nI (xP n))) (nI (n + 1)) (nI ((pE n) + (xZ n))) f00 o00 t00 (0, 0, 0, 0) 0 0 0) : va_W) = (rwT b cA cJ N (n + 1)) := by rw [tq_up, tq_up, tq_up, tq_up, tq_up, hpn.2]; rfl
  exact W.vret hx hb hr (fun t9 ht hW => ⟨rfl, by rw [ht, ← hw9]; exact hP, by rw [← hw9]; exact hD, hS.F ht⟩) hS.2.2 dX5_add_74
set_option maxHeartbeats 4000000 in
set_option maxRecDepth 100000 in
theorem r_addMap3 (l : Launch) (D : va_G) (b : Nat → Nat) (cA cJ : ClassId) (N : Int32) (sz : Nat)   : Met l yX5_addMap (wX5_addMap :: wb) ({ frames := 1, cells := 0, slots := 0, locals := 24 } : Room) (va_Pc [.ref (b 0), .int 5632] (zPre D [(cA, .int), (cJ, .long)] (rwT b cA cJ N 3) sz)) (zb_Vv D vwCl (rwT b cA cJ N 8) (va_A (rwT b cA cJ N 3) sz)) 0 0 (va_A (rwT b cA cJ N 3) sz) := by
  refine Met.ofW (cc := cX5_addMap) (maxL := 3) (ret := none) (by decide) rfl ?_
  intro p ev s m args below meth c s₁ B hml hv
  obtain ⟨rfl, hsz, hP, hK, hD0, hSt, hnw⟩ := hv
  have hx := B.exec
  have hb := B.bytes
  have hr := B.returns
  have hts := atoms_spec (ws := wX5_addMap :: wb) B.pre
  have htb : ∀ w ∈ wb, w.before ([.ref (b 0), .int 5632]).toArray s = true := fun w h => hts w (List.mem_cons_of_mem _ h)
  have hown : s.vm.findClass RX5 = some m.cls := findClass_of_methodNamed B.named
  have hlocks := B.notSynchronized
  subst hsz
  have hD := hD0.self (sz := s.heap.size)
  clear hD0
  generalize hAe : va_A (rwT b cA cJ N 3) s.heap.size = A at hD hSt ⊢
  have hA : ∀ q : Nat, s.heap.size ≤ q → A q := fun q h => by rw [← hAe]; exact Or.inr h
  have hS : va_S A s.heap s.heap [] := va_S.rf
  obtain ⟨⟨tt, ff, hZT, hTT, hZF, hTF⟩, hXS⟩ := id hSt
  have hl := lv_entry ([.ref (b 0), .int 5632]) (n := 3) (Nat.le_of_ble_eq_true rfl)
  rw [lg_entry_eq]
  generalize (lg_sl ([.ref (b 0), .int 5632]) ++ List.replicate (3 - (lg_sl ([.ref (b 0), .int 5632])).length) Slot.unset).toArray = ls at hl ⊢
  have hl : lv_has ls 3 [(0, .ref (b 0)), (1, .int 5632)] := hl
  refine zb_abs (fun Q hQ => ?_)
  refine lv_aload_n hx hb dX5_addMap_0 rfl (lv_at hl 0 rfl) ?_
  refine lv_iload_n hx hb dX5_addMap_1 rfl (lv_at hl 1 rfl) ?_
  refine lv_iconst (v := 0) hx hb dX5_addMap_2 (by decide) ?_
  refine lv_iconst (v := 1) hx hb dX5_addMap_3 (by decide) ?_
  refine lv_iconst (v := 3) hx hb dX5_addMap_4 (by decide) ?_
  refine zb_cv (va_runV (As := [.int 5632, .int 0, .int 1, .int 3]) (rest := []) ⟨hx, hb, hml, hown, htb⟩ (r_add l D b cA cJ N 3 _ 5632 0 1 3 (by decide) rfl rfl rfl rfl) (cwV 4 htb (wb_V kM_X5_45 kI_X5_add kS_X5_add kN_X5 kD_X5_add) rfl rfl rfl (by decide +kernel) ⟨Nat.le_of_ble_eq_true rfl, Nat.le_of_ble_eq_true rfl⟩) (zp_VW 0 rfl rfl hP hD hK hSt hS hA hnw) rfl rfl hl.1 rfl (lv_room (Nat.le_of_ble_eq_true rfl)) dX5_addMap_5 ⟨Nat.le_of_ble_eq_true rfl, Nat.le_of_ble_eq_true rfl⟩) hD hS hA (fun H locs hP hD hS => ?_)
  have hP : va_P D vwCl (rwT b cA cJ N (3 + (1))) H := hP
  have hD : va_D A (rwT b cA cJ N (3 + (1))) := hD
  refine lv_iconst (v := 1) hx hb dX5_addMap_8 (by decide) ?_
  refine lv_istore_n hx hb dX5_addMap_9 rfl hl (by decide) rfl (fun ls hl => ?_)
  have hl : lv_has ls 3 [(2, .int 1), (0, .ref (b 0)), (1, .int 5632)] := hl
  have lp : ∀ (nn k : Nat) (ls : Array Slot) (H : Heap) (locs : List Loc), va_P D vwCl (rwT b cA cJ N (3 + (k))) H → va_D A (rwT b cA cJ N (3 + (k))) → va_S A s.heap H locs → k + nn = 5 → (1 ≤ k) → lv_has ls 3 [(0, .ref (b 0)), (1, .int 5632), (2, .int (nI (k)))] → W p l ev ({ frames := 1, cells := 0, slots := 0, locals := 24 } : Room) s m ([.ref (b 0), .int 5632]).toArray below meth c H locs 0 0 Q (F0 m 10 ls []) := by
    intro nn
    induction nn with
    | zero =>
      intro k ls H locs hP hD hS hk_lp hk1 hl
      have hk0_lp : k = 5 := by omega
      refine lv_iload_n hx hb dX5_addMap_10 rfl (lv_at hl 2 rfl) ?_
      refine lv_iconst (v := 5) hx hb dX5_addMap_11 (by decide) ?_
      refine lv_icmp_ge (tgt := 29) hx hb dX5_addMap_12 (by decide) (fun _ => ?_) (fun hno => absurd (by rw [hk0_lp]; decide) hno)
      rw [hQ]
      have hw9 : ((rwT b cA cJ N (3 + (k))) : va_W) = (rwT b cA cJ N 8) := by rw [hk0_lp]
      exact W.vret hx hb hr (fun t9 ht hW => ⟨rfl, by rw [ht, ← hw9]; exact hP, by rw [← hw9]; exact hD, hS.F ht⟩) hS.2.2 dX5_addMap_29
    | succ nn ih_lp =>
      intro k ls H locs hP hD hS hk_lp hk1 hl
      have hk1_lp : k < 5 := by omega
      refine lv_iload_n hx hb dX5_addMap_10 rfl (lv_at hl 2 rfl) ?_
      refine lv_iconst (v := 5) hx hb dX5_addMap_11 (by decide) ?_
      refine lv_icmp_ge (tgt := 29) hx hb dX5_addMap_12 (by decide) (fun hno => absurd hno (nI_ge (a := k) (b := 5) hk1_lp (by decide))) (fun _ => ?_)
      refine lv_aload_n hx hb dX5_addMap_15 rfl (lv_at hl 0 rfl) ?_
      refine lv_iload_n hx hb dX5_addMap_16 rfl (lv_at hl 1 rfl) ?_
      refine lv_iload_n hx hb dX5_addMap_17 rfl (lv_at hl 2 rfl) ?_
      refine lv_iconst (v := 4) hx hb dX5_addMap_18 (by decide) ?_
      refine lv_iconst (v := 3) hx hb dX5_addMap_19 (by decide) ?_
      have hx4 := (by decide : ∀ k, k < 5 → 1 ≤ k → xI (3 + k) = 5632 ∧ xS (3 + k) = k ∧ xZ (3 + k) = 4 ∧ xR (3 + k) = 3) k hk1_lp hk1
      refine zb_cv (va_runV (As := [.int 5632, .int (nI (k)), .int 4, .int 3]) (rest := []) ⟨hx, hb, hml, hown, htb⟩ (r_add l D b cA cJ N (3 + (k)) _ 5632 (nI (k)) 4 3 (by omega) (by rw [hx4.1]; rfl) (by rw [hx4.2.1]) (by rw [hx4.2.2.1]; rfl) (by rw [hx4.2.2.2]; rfl)) (cwV 4 htb (wb_V kM_X5_45 kI_X5_add kS_X5_add kN_X5 kD_X5_add) rfl rfl rfl (by decide +kernel) ⟨Nat.le_of_ble_eq_true rfl, Nat.le_of_ble_eq_true rfl⟩) (zp_VW 0 rfl rfl hP hD hK hSt hS hA hnw) rfl rfl hl.1 rfl (lv_room (Nat.le_of_ble_eq_true rfl)) dX5_addMap_20 ⟨Nat.le_of_ble_eq_true rfl, Nat.le_of_ble_eq_true rfl⟩) hD hS hA (fun H locs hP hD hS => ?_)
      have hP : va_P D vwCl (rwT b cA cJ N (3 + (k + 1))) H := hP
      have hD : va_D A (rwT b cA cJ N (3 + (k + 1))) := hD
      refine lv_iinc (k := 2) (v := nI ((k) + 1)) hx hb dX5_addMap_23 hl rfl (nI_1 (k)) (by decide) rfl (fun ls hl => ?_)
      have hl : lv_has ls 3 [(2, .int (nI ((k) + 1))), (0, .ref (b 0)), (1, .int 5632)] := hl
      refine lv_goto (tgt := 10) hx hb dX5_addMap_26 (by decide) ?_
      exact ih_lp (k + 1) ls _ _ hP hD hS (by omega) (by omega) (lv_sub hl [1, 2, 0] rfl)
  exact lp (5 - 1) (1) ls _ _ hP hD hS (by omega) (Nat.le_refl 1) (lv_sub hl [1, 2, 0] rfl)
set_option maxHeartbeats 4000000 in
set_option maxRecDepth 100000 in
theorem r_addMap9 (l : Launch) (D : va_G) (b : Nat → Nat) (cA cJ : ClassId) (N : Int32) (sz : Nat)   : Met l yX5_addMap (wX5_addMap :: wb) ({ frames := 1, cells := 0, slots := 0, locals := 24 } : Room) (va_Pc [.ref (b 0), .int 6656] (zPre D [(cA, .int), (cJ, .long)] (rwT b cA cJ N 9) sz)) (zb_Vv D vwCl (rwT b cA cJ N 14) (va_A (rwT b cA cJ N 9) sz)) 0 0 (va_A (rwT b cA cJ N 9) sz) := by
  refine Met.ofW (cc := cX5_addMap) (maxL := 3) (ret := none) (by decide) rfl ?_
  intro p ev s m args below meth c s₁ B hml hv
  obtain ⟨rfl, hsz, hP, hK, hD0, hSt, hnw⟩ := hv
  have hx := B.exec
  have hb := B.bytes
  have hr := B.returns
  have hts := atoms_spec (ws := wX5_addMap :: wb) B.pre
  have htb : ∀ w ∈ wb, w.before ([.ref (b 0), .int 6656]).toArray s = true := fun w h => hts w (List.mem_cons_of_mem _ h)
  have hown : s.vm.findClass RX5 = some m.cls := findClass_of_methodNamed B.named
  have hlocks := B.notSynchronized
  subst hsz
  have hD := hD0.self (sz := s.heap.size)
  clear hD0
  generalize hAe : va_A (rwT b cA cJ N 9) s.heap.size = A at hD hSt ⊢
  have hA : ∀ q : Nat, s.heap.size ≤ q → A q := fun q h => by rw [← hAe]; exact Or.inr h
  have hS : va_S A s.heap s.heap [] := va_S.rf
  obtain ⟨⟨tt, ff, hZT, hTT, hZF, hTF⟩, hXS⟩ := id hSt
  have hl := lv_entry ([.ref (b 0), .int 6656]) (n := 3) (Nat.le_of_ble_eq_true rfl)
  rw [lg_entry_eq]
  generalize (lg_sl ([.ref (b 0), .int 6656]) ++ List.replicate (3 - (lg_sl ([.ref (b 0), .int 6656])).length) Slot.unset).toArray = ls at hl ⊢
  have hl : lv_has ls 3 [(0, .ref (b 0)), (1, .int 6656)] := hl
  refine zb_abs (fun Q hQ => ?_)
  refine lv_aload_n hx hb dX5_addMap_0 rfl (lv_at hl 0 rfl) ?_
  refine lv_iload_n hx hb dX5_addMap_1 rfl (lv_at hl 1 rfl) ?_
  refine lv_iconst (v := 0) hx hb dX5_addMap_2 (by decide) ?_
  refine lv_iconst (v := 1) hx hb dX5_addMap_3 (by decide) ?_
  refine lv_iconst (v := 3) hx hb dX5_addMap_4 (by decide) ?_
  refine zb_cv (va_runV (As := [.int 6656, .int 0, .int 1, .int 3]) (rest := []) ⟨hx, hb, hml, hown, htb⟩ (r_add l D b cA cJ N 9 _ 6656 0 1 3 (by decide) rfl rfl rfl rfl) (cwV 4 htb (wb_V kM_X5_45 kI_X5_add kS_X5_add kN_X5 kD_X5_add) rfl rfl rfl (by decide +kernel) ⟨Nat.le_of_ble_eq_true rfl, Nat.le_of_ble_eq_true rfl⟩) (zp_VW 0 rfl rfl hP hD hK hSt hS hA hnw) rfl rfl hl.1 rfl (lv_room (Nat.le_of_ble_eq_true rfl)) dX5_addMap_5 ⟨Nat.le_of_ble_eq_true rfl, Nat.le_of_ble_eq_true rfl⟩) hD hS hA (fun H locs hP hD hS => ?_)
  have hP : va_P D vwCl (rwT b cA cJ N (9 + (1))) H := hP
  have hD : va_D A (rwT b cA cJ N (9 + (1))) := hD
  refine lv_iconst (v := 1) hx hb dX5_addMap_8 (by decide) ?_
  refine lv_istore_n hx hb dX5_addMap_9 rfl hl (by decide) rfl (fun ls hl => ?_)
  have hl : lv_has ls 3 [(2, .int 1), (0, .ref (b 0)), (1, .int 6656)] := hl
  have lp : ∀ (nn k : Nat) (ls : Array Slot) (H : Heap) (locs : List Loc), va_P D vwCl (rwT b cA cJ N (9 + (k))) H → va_D A (rwT b cA cJ N (9 + (k))) → va_S A s.heap H locs → k + nn = 5 → (1 ≤ k) → lv_has ls 3 [(0, .ref (b 0)), (1, .int 6656), (2, .int (nI (k)))] → W p l ev ({ frames := 1, cells := 0, slots := 0, locals := 24 } : Room) s m ([.ref (b 0), .int 6656]).toArray below meth c H locs 0 0 Q (F0 m 10 ls []) := by
    intro nn
    induction nn with
    | zero =>
      intro k ls H locs hP hD hS hk_lp hk1 hl
      have hk0_lp : k = 5 := by omega
      refine lv_iload_n hx hb dX5_addMap_10 rfl (lv_at hl 2 rfl) ?_
      refine lv_iconst (v := 5) hx hb dX5_addMap_11 (by decide) ?_
      refine lv_icmp_ge (tgt := 29) hx hb dX5_addMap_12 (by decide) (fun _ => ?_) (fun hno => absurd (by rw [hk0_lp]; decide) hno)
      rw [hQ]
      have hw9 : ((rwT b cA cJ N (9 + (k))) : va_W) = (rwT b cA cJ N 14) := by rw [hk0_lp]
      exact W.vret hx hb hr (fun t9 ht hW => ⟨rfl, by rw [ht, ← hw9]; exact hP, by rw [← hw9]; exact hD, hS.F ht⟩) hS.2.2 dX5_addMap_29
    | succ nn ih_lp =>
      intro k ls H locs hP hD hS hk_lp hk1 hl
      have hk1_lp : k < 5 := by omega
      refine lv_iload_n hx hb dX5_addMap_10 rfl (lv_at hl 2 rfl) ?_
      refine lv_iconst (v := 5) hx hb dX5_addMap_11 (by decide) ?_
      refine lv_icmp_ge (tgt := 29) hx hb dX5_addMap_12 (by decide) (fun hno => absurd hno (nI_ge (a := k) (b := 5) hk1_lp (by decide))) (fun _ => ?_)
      refine lv_aload_n hx hb dX5_addMap_15 rfl (lv_at hl 0 rfl) ?_
      refine lv_iload_n hx hb dX5_addMap_16 rfl (lv_at hl 1 rfl) ?_
      refine lv_iload_n hx hb dX5_addMap_17 rfl (lv_at hl 2 rfl) ?_
      refine lv_iconst (v := 4) hx hb dX5_addMap_18 (by decide) ?_
      refine lv_iconst (v := 3) hx hb dX5_addMap_19 (by decide) ?_
      have hx4 := (by decide : ∀ k, k < 5 → 1 ≤ k → xI (9 + k) = 6656 ∧ xS (9 + k) = k ∧ xZ (9 + k) = 4 ∧ xR (9 + k) = 3) k hk1_lp hk1
      refine zb_cv (va_runV (As := [.int 6656, .int (nI (k)), .int 4, .int 3]) (rest := []) ⟨hx, hb, hml, hown, htb⟩ (r_add l D b cA cJ N (9 + (k)) _ 6656 (nI (k)) 4 3 (by omega) (by rw [hx4.1]; rfl) (by rw [hx4.2.1]) (by rw [hx4.2.2.1]; rfl) (by rw [hx4.2.2.2]; rfl)) (cwV 4 htb (wb_V kM_X5_45 kI_X5_add kS_X5_add kN_X5 kD_X5_add) rfl rfl rfl (by decide +kernel) ⟨Nat.le_of_ble_eq_true rfl, Nat.le_of_ble_eq_true rfl⟩) (zp_VW 0 rfl rfl hP hD hK hSt hS hA hnw) rfl rfl hl.1 rfl (lv_room (Nat.le_of_ble_eq_true rfl)) dX5_addMap_20 ⟨Nat.le_of_ble_eq_true rfl, Nat.le_of_ble_eq_true rfl⟩) hD hS hA (fun H locs hP hD hS => ?_)
      have hP : va_P D vwCl (rwT b cA cJ N (9 + (k + 1))) H := hP
      have hD : va_D A (rwT b cA cJ N (9 + (k + 1))) := hD
      refine lv_iinc (k := 2) (v := nI ((k) + 1)) hx hb dX5_addMap_23 hl rfl (nI_1 (k)) (by decide) rfl (fun ls hl => ?_)
      have hl : lv_has ls 3 [(2, .int (nI ((k) + 1))), (0, .ref (b 0)), (1, .int 6656)] := hl
      refine lv_goto (tgt := 10) hx hb dX5_addMap_26 (by decide) ?_
      exact ih_lp (k + 1) ls _ _ hP hD hS (by omega) (by omega) (lv_sub hl [1, 2, 0] rfl)
  exact lp (5 - 1) (1) ls _ _ hP hD hS (by omega) (Nat.le_refl 1) (lv_sub hl [1, 2, 0] rfl)
set_option maxHeartbeats 4000000 in
set_option maxRecDepth 100000 in
theorem c_X5_init (l : Launch) (D : va_G) (cA cJ : ClassId) (sz : Nat) (b0 : Nat) (n0 : Int32) : Met l yX5_init (wX5_init :: wb) ({ frames := 2, cells := 10, slots := 321, locals := 46 } : Room) (va_Pc [.ref b0, .int n0] (zPc D [(cA, .int), (cJ, .long)] [(b0, .inr (5, [.int 0, .int 0, .null, .null, .null, .null, .null, .null, .int 0, .int 0, .int 0, .int 0, .int 0, .long 0, .int 0, .int 0, .int 0, .int 0, .int 0, .null, .long 0, .int 0, .null, .null, .null, .int 0, .int 0]))] sz cA cJ)) (zb_G (X := (Nat → Nat)) (fun _ => none) D vwCl (fun b => rw0 b cA cJ (nN n0) fI (ro 0 (kBoot (nN n0) ob0)) t00 (nBoot (0, 0, 0, 0)) 0 0 0) (fun b => b 0 = b0) (va_A [(b0, .inr (5, [.int 0, .int 0, .null, .null, .null, .null, .null, .null, .int 0, .int 0, .int 0, .int 0, .int 0, .long 0, .int 0, .int 0, .int 0, .int 0, .int 0, .null, .long 0, .int 0, .null, .null, .null, .int 0, .int 0]))] sz)) 10 321 (va_A [(b0, .inr (5, [.int 0, .int 0, .null, .null, .null, .null, .null, .null, .int 0, .int 0, .int 0, .int 0, .int 0, .long 0, .int 0, .int 0, .int 0, .int 0, .int 0, .null, .long 0, .int 0, .null, .null, .null, .int 0, .int 0]))] sz) := by
  refine Met.ofW (cc := cX5_init) (maxL := 2) (ret := none) (by decide) rfl ?_
  intro p ev s m args below meth c s₁ B hml hv
  obtain ⟨rfl, ⟨hsz, hP, hK, hD0, hSt, hnw⟩, hfA, hfJ⟩ := hv
  have hx := B.exec
  have hb := B.bytes
  have hr := B.returns
  have hts := atoms_spec (ws := wX5_init :: wb) B.pre
  have htb : ∀ w ∈ wb, w.before ([.ref b0, .int n0]).toArray s = true := fun w h => hts w (List.mem_cons_of_mem _ h)
  have hown : s.vm.findClass RX5 = some m.cls := findClass_of_methodNamed B.named
  have hin : meth.name = "<init>" := (name_of_methodNamed B.named B.method).1
  subst hsz
  have hD := hD0.self (sz := s.heap.size)
  clear hD0
  generalize hAe : va_A [(b0, .inr (5, [.int 0, .int 0, .null, .null, .null, .null, .null, .null, .int 0, .int 0, .int 0, .int 0, .int 0, .long 0, .int 0, .int 0, .int 0, .int 0, .int 0, .null, .long 0, .int 0, .null, .null, .null, .int 0, .int 0]))] s.heap.size = A at hD hSt ⊢
  have hA : ∀ q : Nat, s.heap.size ≤ q → A q := fun q h => by rw [← hAe]; exact Or.inr h
  have hS : va_S A s.heap s.heap [] := va_S.rf
  obtain ⟨⟨tt, ff, hZT, hTT, hZF, hTF⟩, hXS⟩ := id hSt
  have hl := lv_entry ([.ref b0, .int n0]) (n := 2) (Nat.le_of_ble_eq_true rfl)
  rw [lg_entry_eq]
  generalize (lg_sl ([.ref b0, .int n0]) ++ List.replicate (2 - (lg_sl ([.ref b0, .int n0])).length) Slot.unset).toArray = ls at hl ⊢
  have hl : lv_has ls 2 [(0, .ref b0), (1, .int n0)] := hl
  refine zb_abs (fun Q hQ => ?_)
  refine lv_aload_n hx hb dX5_init_0 rfl (lv_at hl 0 rfl) ?_
  refine W.objInit hx hb hown (htb _ kM_X5_1) (htb _ kI_obj) (htb _ kD_obj) rfl (by rw [hml]; exact hl.1) rfl dX5_init_1 (Nat.le_of_ble_eq_true rfl) (Nat.le_of_ble_eq_true rfl) ?_
  refine W.eq (g2 := F0 m 4 ls []) rfl ?_
  refine lv_aload_n hx hb dX5_init_4 rfl (lv_at hl 0 rfl) ?_
  refine lv_bipush (v := 22) hx hb dX5_init_5 (by decide) ?_
  refine zb_newa (atype := .int) (ty := .int) (a0 := (22, .inl (fun _ => 0))) (N' := 22) (tys := []) hx hb (htb _ kA_int) rfl hfA hP hD hS hA (fun _ => rfl) (by decide) rfl (by decide) (Nat.le_of_ble_eq_true rfl) (Nat.le_of_ble_eq_true rfl) dX5_init_7 (fun q7 H hP hD hS => ?_)
  have hP : va_P D vwCl [(b0, .inr (5, [.int 0, .int 0, .null, .null, .null, .null, .null, .null, .int 0, .int 0, .int 0, .int 0, .int 0, .long 0, .int 0, .int 0, .int 0, .int 0, .int 0, .null, .long 0, .int 0, .null, .null, .null, .int 0, .int 0])), (q7, .inl (cA, 22, .inl (fun _ => 0)))] H := hP
  have hD : va_D A [(b0, .inr (5, [.int 0, .int 0, .null, .null, .null, .null, .null, .null, .int 0, .int 0, .int 0, .int 0, .int 0, .long 0, .int 0, .int 0, .int 0, .int 0, .int 0, .null, .long 0, .int 0, .null, .null, .null, .int 0, .int 0])), (q7, .inl (cA, 22, .inl (fun _ => 0)))] := hD
  refine W.widen (k := 1) (n := 22) (by omega) (by omega) ?_
  refine va_putF (D := D) (ci := 5) (v := .ref q7) (fs := [.int 0, .int 0, .null, .null, .null, .null, .null, .null, .int 0, .int 0, .int 0, .int 0, .int 0, .long 0, .int 0, .int 0, .int 0, .int 0, .int 0, .null, .long 0, .int 0, .null, .null, .null, .int 0, .int 0]) (ty := .array .int) (C := RX5) (T := TX5) (N := 27) hx hb htb inX5 tyX5 tyX5_ok nmX5 hown hK hP hD hS 0 rfl rfl 2 (by decide) (htb _ kF_X5_7) (fun _ h9 => h9) rfl hin rfl (by decide +kernel) rfl rfl (Nat.le_of_ble_eq_true rfl) dX5_init_9 (fun H locs hP hD hS => ?_)
  have hP : va_P D vwCl [(b0, .inr (5, [.int 0, .int 0, .ref q7, .null, .null, .null, .null, .null, .int 0, .int 0, .int 0, .int 0, .int 0, .long 0, .int 0, .int 0, .int 0, .int 0, .int 0, .null, .long 0, .int 0, .null, .null, .null, .int 0, .int 0])), (q7, .inl (cA, 22, .inl (fun _ => 0)))] H := hP
  have hD : va_D A [(b0, .inr (5, [.int 0, .int 0, .ref q7, .null, .null, .null, .null, .null, .int 0, .int 0, .int 0, .int 0, .int 0, .long 0, .int 0, .int 0, .int 0, .int 0, .int 0, .null, .long 0, .int 0, .null, .null, .null, .int 0, .int 0])), (q7, .inl (cA, 22, .inl (fun _ => 0)))] := hD
  refine lv_aload_n hx hb dX5_init_12 rfl (lv_at hl 0 rfl) ?_
  refine lv_bipush (v := 22) hx hb dX5_init_13 (by decide) ?_
  refine zb_newa (atype := .int) (ty := .int) (a0 := (22, .inl (fun _ => 0))) (N' := 22) (tys := []) hx hb (htb _ kA_int) rfl hfA hP hD hS hA (fun _ => rfl) (by decide) rfl (by decide) (Nat.le_of_ble_eq_true rfl) (Nat.le_of_ble_eq_true rfl) dX5_init_15 (fun q15 H hP hD hS => ?_)
  have hP : va_P D vwCl [(b0, .inr (5, [.int 0, .int 0, .ref q7, .null, .null, .null, .null, .null, .int 0, .int 0, .int 0, .int 0, .int 0, .long 0, .int 0, .int 0, .int 0, .int 0, .int 0, .null, .long 0, .int 0, .null, .null, .null, .int 0, .int 0])), (q7, .inl (cA, 22, .inl (fun _ => 0))), (q15, .inl (cA, 22, .inl (fun _ => 0)))] H := hP
  have hD : va_D A [(b0, .inr (5, [.int 0, .int 0, .ref q7, .null, .null, .null, .null, .null, .int 0, .int 0, .int 0, .int 0, .int 0, .long 0, .int 0, .int 0, .int 0, .int 0, .int 0, .null, .long 0, .int 0, .null, .null, .null, .int 0, .int 0])), (q7, .inl (cA, 22, .inl (fun _ => 0))), (q15, .inl (cA, 22, .inl (fun _ => 0)))] := hD
  refine W.widen (k := 2) (n := 44) (by omega) (by omega) ?_
  refine va_putF (D := D) (ci := 5) (v := .ref q15) (fs := [.int 0, .int 0, .ref q7, .null, .null, .null, .null, .null, .int 0, .int 0, .int 0, .int 0, .int 0, .long 0, .int 0, .int 0, .int 0, .int 0, .int 0, .null, .long 0, .int 0, .null, .null, .null, .int 0, .int 0]) (ty := .array .int) (C := RX5) (T := TX5) (N := 27) hx hb htb inX5 tyX5 tyX5_ok nmX5 hown hK hP hD hS 0 rfl rfl 3 (by decide) (htb _ kF_X5_13) (fun _ h9 => h9) rfl hin rfl (by decide +kernel) rfl rfl (Nat.le_of_ble_eq_true rfl) dX5_init_17 (fun H locs hP hD hS => ?_)
  have hP : va_P D vwCl [(b0, .inr (5, [.int 0, .int 0, .ref q7, .ref q15, .null, .null, .null, .null, .int 0, .int 0, .int 0, .int 0, .int 0, .long 0, .int 0, .int 0, .int 0, .int 0, .int 0, .null, .long 0, .int 0, .null, .null, .null, .int 0, .int 0])), (q7, .inl (cA, 22, .inl (fun _ => 0))), (q15, .inl (cA, 22, .inl (fun _ => 0)))] H := hP
  have hD : va_D A [(b0, .inr (5, [.int 0, .int 0, .ref q7, .ref q15, .null, .null, .null, .null, .int 0, .int 0, .int 0, .int 0, .int 0, .long 0, .int 0, .int 0, .int 0, .int 0, .int 0, .null, .long 0, .int 0, .null, .null, .null, .int 0, .int 0])), (q7, .inl (cA, 22, .inl (fun _ => 0))), (q15, .inl (cA, 22, .inl (fun _ => 0)))] := hD
  refine lv_aload_n hx hb dX5_init_20 rfl (lv_at hl 0 rfl) ?_
  refine lv_bipush (v := 22) hx hb dX5_init_21 (by decide) ?_
  refine zb_newa (atype := .int) (ty := .int) (a0 := (22, .inl (fun _ => 0))) (N' := 22) (tys := []) hx hb (htb _ kA_int) rfl hfA hP hD hS hA (fun _ => rfl) (by decide) rfl (by decide) (Nat.le_of_ble_eq_true rfl) (Nat.le_of_ble_eq_true rfl) dX5_init_23 (fun q23 H hP hD hS => ?_)
  have hP : va_P D vwCl [(b0, .inr (5, [.int 0, .int 0, .ref q7, .ref q15, .null, .null, .null, .null, .int 0, .int 0, .int 0, .int 0, .int 0, .long 0, .int 0, .int 0, .int 0, .int 0, .int 0, .null, .long 0, .int 0, .null, .null, .null, .int 0, .int 0])), (q7, .inl (cA, 22, .inl (fun _ => 0))), (q15, .inl (cA, 22, .inl (fun _ => 0))), (q23, .inl (cA, 22, .inl (fun _ => 0)))] H := hP
  have hD : va_D A [(b0, .inr (5, [.int 0, .int 0, .ref q7, .ref q15, .null, .null, .null, .null, .int 0, .int 0, .int 0, .int 0, .int 0, .long 0, .int 0, .int 0, .int 0, .int 0, .int 0, .null, .long 0, .int 0, .null, .null, .null, .int 0, .int 0])), (q7, .inl (cA, 22, .inl (fun _ => 0))), (q15, .inl (cA, 22, .inl (fun _ => 0))), (q23, .inl (cA, 22, .inl (fun _ => 0)))] := hD
  refine W.widen (k := 3) (n := 66) (by omega) (by omega) ?_
  refine va_putF (D := D) (ci := 5) (v := .ref q23) (fs := [.int 0, .int 0, .ref q7, .ref q15, .null, .null, .null, .null, .int 0, .int 0, .int 0, .int 0, .int 0, .long 0, .int 0, .int 0, .int 0, .int 0, .int 0, .null, .long 0, .int 0, .null, .null, .null, .int 0, .int 0]) (ty := .array .int) (C := RX5) (T := TX5) (N := 27) hx hb htb inX5 tyX5 tyX5_ok nmX5 hown hK hP hD hS 0 rfl rfl 4 (by decide) (htb _ kF_X5_16) (fun _ h9 => h9) rfl hin rfl (by decide +kernel) rfl rfl (Nat.le_of_ble_eq_true rfl) dX5_init_25 (fun H locs hP hD hS => ?_)
  have hP : va_P D vwCl [(b0, .inr (5, [.int 0, .int 0, .ref q7, .ref q15, .ref q23, .null, .null, .null, .int 0, .int 0, .int 0, .int 0, .int 0, .long 0, .int 0, .int 0, .int 0, .int 0, .int 0, .null, .long 0, .int 0, .null, .null, .null, .int 0, .int 0])), (q7, .inl (cA, 22, .inl (fun _ => 0))), (q15, .inl (cA, 22, .inl (fun _ => 0))), (q23, .inl (cA, 22, .inl (fun _ => 0)))] H := hP
  have hD : va_D A [(b0, .inr (5, [.int 0, .int 0, .ref q7, .ref q15, .ref q23, .null, .null, .null, .int 0, .int 0, .int 0, .int 0, .int 0, .long 0, .int 0, .int 0, .int 0, .int 0, .int 0, .null, .long 0, .int 0, .null, .null, .null, .int 0, .int 0])), (q7, .inl (cA, 22, .inl (fun _ => 0))), (q15, .inl (cA, 22, .inl (fun _ => 0))), (q23, .inl (cA, 22, .inl (fun _ => 0)))] := hD
  refine lv_aload_n hx hb dX5_init_28 rfl (lv_at hl 0 rfl) ?_
  refine lv_bipush (v := 22) hx hb dX5_init_29 (by decide) ?_
  refine zb_newa (atype := .int) (ty := .int) (a0 := (22, .inl (fun _ => 0))) (N' := 22) (tys := []) hx hb (htb _ kA_int) rfl hfA hP hD hS hA (fun _ => rfl) (by decide) rfl (by decide) (Nat.le_of_ble_eq_true rfl) (Nat.le_of_ble_eq_true rfl) dX5_init_31 (fun q31 H hP hD hS => ?_)
  have hP : va_P D vwCl [(b0, .inr (5, [.int 0, .int 0, .ref q7, .ref q15, .ref q23, .null, .null, .null, .int 0, .int 0, .int 0, .int 0, .int 0, .long 0, .int 0, .int 0, .int 0, .int 0, .int 0, .null, .long 0, .int 0, .null, .null, .null, .int 0, .int 0])), (q7, .inl (cA, 22, .inl (fun _ => 0))), (q15, .inl (cA, 22, .inl (fun _ => 0))), (q23, .inl (cA, 22, .inl (fun _ => 0))), (q31, .inl (cA, 22, .inl (fun _ => 0)))] H := hP
  have hD : va_D A [(b0, .inr (5, [.int 0, .int 0, .ref q7, .ref q15, .ref q23, .null, .null, .null, .int 0, .int 0, .int 0, .int 0, .int 0, .long 0, .int 0, .int 0, .int 0, .int 0, .int 0, .null, .long 0, .int 0, .null, .null, .null, .int 0, .int 0])), (q7, .inl (cA, 22, .inl (fun _ => 0))), (q15, .inl (cA, 22, .inl (fun _ => 0))), (q23, .inl (cA, 22, .inl (fun _ => 0))), (q31, .inl (cA, 22, .inl (fun _ => 0)))] := hD
  refine W.widen (k := 4) (n := 88) (by omega) (by omega) ?_
  refine va_putF (D := D) (ci := 5) (v := .ref q31) (fs := [.int 0, .int 0, .ref q7, .ref q15, .ref q23, .null, .null, .null, .int 0, .int 0, .int 0, .int 0, .int 0, .long 0, .int 0, .int 0, .int 0, .int 0, .int 0, .null, .long 0, .int 0, .null, .null, .null, .int 0, .int 0]) (ty := .array .int) (C := RX5) (T := TX5) (N := 27) hx hb htb inX5 tyX5 tyX5_ok nmX5 hown hK hP hD hS 0 rfl rfl 5 (by decide) (htb _ kF_X5_19) (fun _ h9 => h9) rfl hin rfl (by decide +kernel) rfl rfl (Nat.le_of_ble_eq_true rfl) dX5_init_33 (fun H locs hP hD hS => ?_)
  have hP : va_P D vwCl [(b0, .inr (5, [.int 0, .int 0, .ref q7, .ref q15, .ref q23, .ref q31, .null, .null, .int 0, .int 0, .int 0, .int 0, .int 0, .long 0, .int 0, .int 0, .int 0, .int 0, .int 0, .null, .long 0, .int 0, .null, .null, .null, .int 0, .int 0])), (q7, .inl (cA, 22, .inl (fun _ => 0))), (q15, .inl (cA, 22, .inl (fun _ => 0))), (q23, .inl (cA, 22, .inl (fun _ => 0))), (q31, .inl (cA, 22, .inl (fun _ => 0)))] H := hP
  have hD : va_D A [(b0, .inr (5, [.int 0, .int 0, .ref q7, .ref q15, .ref q23, .ref q31, .null, .null, .int 0, .int 0, .int 0, .int 0, .int 0, .long 0, .int 0, .int 0, .int 0, .int 0, .int 0, .null, .long 0, .int 0, .null, .null, .null, .int 0, .int 0])), (q7, .inl (cA, 22, .inl (fun _ => 0))), (q15, .inl (cA, 22, .inl (fun _ => 0))), (q23, .inl (cA, 22, .inl (fun _ => 0))), (q31, .inl (cA, 22, .inl (fun _ => 0)))] := hD
  refine lv_aload_n hx hb dX5_init_36 rfl (lv_at hl 0 rfl) ?_
  refine lv_bipush (v := 22) hx hb dX5_init_37 (by decide) ?_
  refine zb_newa (atype := .int) (ty := .int) (a0 := (22, .inl (fun _ => 0))) (N' := 22) (tys := []) hx hb (htb _ kA_int) rfl hfA hP hD hS hA (fun _ => rfl) (by decide) rfl (by decide) (Nat.le_of_ble_eq_true rfl) (Nat.le_of_ble_eq_true rfl) dX5_init_39 (fun q39 H hP hD hS => ?_)
  have hP : va_P D vwCl [(b0, .inr (5, [.int 0, .int 0, .ref q7, .ref q15, .ref q23, .ref q31, .null, .null, .int 0, .int 0, .int 0, .int 0, .int 0, .long 0, .int 0, .int 0, .int 0, .int 0, .int 0, .null, .long 0, .int 0, .null, .null, .null, .int 0, .int 0])), (q7, .inl (cA, 22, .inl (fun _ => 0))), (q15, .inl (cA, 22, .inl (fun _ => 0))), (q23, .inl (cA, 22, .inl (fun _ => 0))), (q31, .inl (cA, 22, .inl (fun _ => 0))), (q39, .inl (cA, 22, .inl (fun _ => 0)))] H := hP
  have hD : va_D A [(b0, .inr (5, [.int 0, .int 0, .ref q7, .ref q15, .ref q23, .ref q31, .null, .null, .int 0, .int 0, .int 0, .int 0, .int 0, .long 0, .int 0, .int 0, .int 0, .int 0, .int 0, .null, .long 0, .int 0, .null, .null, .null, .int 0, .int 0])), (q7, .inl (cA, 22, .inl (fun _ => 0))), (q15, .inl (cA, 22, .inl (fun _ => 0))), (q23, .inl (cA, 22, .inl (fun _ => 0))), (q31, .inl (cA, 22, .inl (fun _ => 0))), (q39, .inl (cA, 22, .inl (fun _ => 0)))] := hD
  refine W.widen (k := 5) (n := 110) (by omega) (by omega) ?_
  refine va_putF (D := D) (ci := 5) (v := .ref q39) (fs := [.int 0, .int 0, .ref q7, .ref q15, .ref q23, .ref q31, .null, .null, .int 0, .int 0, .int 0, .int 0, .int 0, .long 0, .int 0, .int 0, .int 0, .int 0, .int 0, .null, .long 0, .int 0, .null, .null, .null, .int 0, .int 0]) (ty := .array .int) (C := RX5) (T := TX5) (N := 27) hx hb htb inX5 tyX5 tyX5_ok nmX5 hown hK hP hD hS 0 rfl rfl 6 (by decide) (htb _ kF_X5_22) (fun _ h9 => h9) rfl hin rfl (by decide +kernel) rfl rfl (Nat.le_of_ble_eq_true rfl) dX5_init_41 (fun H locs hP hD hS => ?_)
  have hP : va_P D vwCl [(b0, .inr (5, [.int 0, .int 0, .ref q7, .ref q15, .ref q23, .ref q31, .ref q39, .null, .int 0, .int 0, .int 0, .int 0, .int 0, .long 0, .int 0, .int 0, .int 0, .int 0, .int 0, .null, .long 0, .int 0, .null, .null, .null, .int 0, .int 0])), (q7, .inl (cA, 22, .inl (fun _ => 0))), (q15, .inl (cA, 22, .inl (fun _ => 0))), (q23, .inl (cA, 22, .inl (fun _ => 0))), (q31, .inl (cA, 22, .inl (fun _ => 0))), (q39, .inl (cA, 22, .inl (fun _ => 0)))] H := hP
  have hD : va_D A [(b0, .inr (5, [.int 0, .int 0, .ref q7, .ref q15, .ref q23, .ref q31, .ref q39, .null, .int 0, .int 0, .int 0, .int 0, .int 0, .long 0, .int 0, .int 0, .int 0, .int 0, .int 0, .null, .long 0, .int 0, .null, .null, .null, .int 0, .int 0])), (q7, .inl (cA, 22, .inl (fun _ => 0))), (q15, .inl (cA, 22, .inl (fun _ => 0))), (q23, .inl (cA, 22, .inl (fun _ => 0))), (q31, .inl (cA, 22, .inl (fun _ => 0))), (q39, .inl (cA, 22, .inl (fun _ => 0)))] := hD
  refine lv_aload_n hx hb dX5_init_44 rfl (lv_at hl 0 rfl) ?_
  refine lv_bipush (v := 95) hx hb dX5_init_45 (by decide) ?_
  refine zb_newa (atype := .int) (ty := .int) (a0 := (95, .inl (fun _ => 0))) (N' := 95) (tys := []) hx hb (htb _ kA_int) rfl hfA hP hD hS hA (fun _ => rfl) (by decide) rfl (by decide) (Nat.le_of_ble_eq_true rfl) (Nat.le_of_ble_eq_true rfl) dX5_init_47 (fun q47 H hP hD hS => ?_)
  have hP : va_P D vwCl [(b0, .inr (5, [.int 0, .int 0, .ref q7, .ref q15, .ref q23, .ref q31, .ref q39, .null, .int 0, .int 0, .int 0, .int 0, .int 0, .long 0, .int 0, .int 0, .int 0, .int 0, .int 0, .null, .long 0, .int 0, .null, .null, .null, .int 0, .int 0])), (q7, .inl (cA, 22, .inl (fun _ => 0))), (q15, .inl (cA, 22, .inl (fun _ => 0))), (q23, .inl (cA, 22, .inl (fun _ => 0))), (q31, .inl (cA, 22, .inl (fun _ => 0))), (q39, .inl (cA, 22, .inl (fun _ => 0))), (q47, .inl (cA, 95, .inl (fun _ => 0)))] H := hP
  have hD : va_D A [(b0, .inr (5, [.int 0, .int 0, .ref q7, .ref q15, .ref q23, .ref q31, .ref q39, .null, .int 0, .int 0, .int 0, .int 0, .int 0, .long 0, .int 0, .int 0, .int 0, .int 0, .int 0, .null, .long 0, .int 0, .null, .null, .null, .int 0, .int 0])), (q7, .inl (cA, 22, .inl (fun _ => 0))), (q15, .inl (cA, 22, .inl (fun _ => 0))), (q23, .inl (cA, 22, .inl (fun _ => 0))), (q31, .inl (cA, 22, .inl (fun _ => 0))), (q39, .inl (cA, 22, .inl (fun _ => 0))), (q47, .inl (cA, 95, .inl (fun _ => 0)))] := hD
  refine W.widen (k := 6) (n := 205) (by omega) (by omega) ?_
  refine va_putF (D := D) (ci := 5) (v := .ref q47) (fs := [.int 0, .int 0, .ref q7, .ref q15, .ref q23, .ref q31, .ref q39, .null, .int 0, .int 0, .int 0, .int 0, .int 0, .long 0, .int 0, .int 0, .int 0, .int 0, .int 0, .null, .long 0, .int 0, .null, .null, .null, .int 0, .int 0]) (ty := .array .int) (C := RX5) (T := TX5) (N := 27) hx hb htb inX5 tyX5 tyX5_ok nmX5 hown hK hP hD hS 0 rfl rfl 7 (by decide) (htb _ kF_X5_25) (fun _ h9 => h9) rfl hin rfl (by decide +kernel) rfl rfl (Nat.le_of_ble_eq_true rfl) dX5_init_49 (fun H locs hP hD hS => ?_)
  have hP : va_P D vwCl [(b0, .inr (5, [.int 0, .int 0, .ref q7, .ref q15, .ref q23, .ref q31, .ref q39, .ref q47, .int 0, .int 0, .int 0, .int 0, .int 0, .long 0, .int 0, .int 0, .int 0, .int 0, .int 0, .null, .long 0, .int 0, .null, .null, .null, .int 0, .int 0])), (q7, .inl (cA, 22, .inl (fun _ => 0))), (q15, .inl (cA, 22, .inl (fun _ => 0))), (q23, .inl (cA, 22, .inl (fun _ => 0))), (q31, .inl (cA, 22, .inl (fun _ => 0))), (q39, .inl (cA, 22, .inl (fun _ => 0))), (q47, .inl (cA, 95, .inl (fun _ => 0)))] H := hP
  have hD : va_D A [(b0, .inr (5, [.int 0, .int 0, .ref q7, .ref q15, .ref q23, .ref q31, .ref q39, .ref q47, .int 0, .int 0, .int 0, .int 0, .int 0, .long 0, .int 0, .int 0, .int 0, .int 0, .int 0, .null, .long 0, .int 0, .null, .null, .null, .int 0, .int 0])), (q7, .inl (cA, 22, .inl (fun _ => 0))), (q15, .inl (cA, 22, .inl (fun _ => 0))), (q23, .inl (cA, 22, .inl (fun _ => 0))), (q31, .inl (cA, 22, .inl (fun _ => 0))), (q39, .inl (cA, 22, .inl (fun _ => 0))), (q47, .inl (cA, 95, .inl (fun _ => 0)))] := hD
  refine lv_aload_n hx hb dX5_init_52 rfl (lv_at hl 0 rfl) ?_
  refine lv_bipush (v := 20) hx hb dX5_init_53 (by decide) ?_
  refine zb_newa (atype := .int) (ty := .int) (a0 := (20, .inl (fun _ => 0))) (N' := 20) (tys := []) hx hb (htb _ kA_int) rfl hfA hP hD hS hA (fun _ => rfl) (by decide) rfl (by decide) (Nat.le_of_ble_eq_true rfl) (Nat.le_of_ble_eq_true rfl) dX5_init_55 (fun q55 H hP hD hS => ?_)
  have hP : va_P D vwCl [(b0, .inr (5, [.int 0, .int 0, .ref q7, .ref q15, .ref q23, .ref q31, .ref q39, .ref q47, .int 0, .int 0, .int 0, .int 0, .int 0, .long 0, .int 0, .int 0, .int 0, .int 0, .int 0, .null, .long 0, .int 0, .null, .null, .null, .int 0, .int 0])), (q7, .inl (cA, 22, .inl (fun _ => 0))), (q15, .inl (cA, 22, .inl (fun _ => 0))), (q23, .inl (cA, 22, .inl (fun _ => 0))), (q31, .inl (cA, 22, .inl (fun _ => 0))), (q39, .inl (cA, 22, .inl (fun _ => 0))), (q47, .inl (cA, 95, .inl (fun _ => 0))), (q55, .inl (cA, 20, .inl (fun _ => 0)))] H := hP
  have hD : va_D A [(b0, .inr (5, [.int 0, .int 0, .ref q7, .ref q15, .ref q23, .ref q31, .ref q39, .ref q47, .int 0, .int 0, .int 0, .int 0, .int 0, .long 0, .int 0, .int 0, .int 0, .int 0, .int 0, .null, .long 0, .int 0, .null, .null, .null, .int 0, .int 0])), (q7, .inl (cA, 22, .inl (fun _ => 0))), (q15, .inl (cA, 22, .inl (fun _ => 0))), (q23, .inl (cA, 22, .inl (fun _ => 0))), (q31, .inl (cA, 22, .inl (fun _ => 0))), (q39, .inl (cA, 22, .inl (fun _ => 0))), (q47, .inl (cA, 95, .inl (fun _ => 0))), (q55, .inl (cA, 20, .inl (fun _ => 0)))] := hD
  refine W.widen (k := 7) (n := 225) (by omega) (by omega) ?_
  refine va_putF (D := D) (ci := 5) (v := .ref q55) (fs := [.int 0, .int 0, .ref q7, .ref q15, .ref q23, .ref q31, .ref q39, .ref q47, .int 0, .int 0, .int 0, .int 0, .int 0, .long 0, .int 0, .int 0, .int 0, .int 0, .int 0, .null, .long 0, .int 0, .null, .null, .null, .int 0, .int 0]) (ty := .array .int) (C := RX5) (T := TX5) (N := 27) hx hb htb inX5 tyX5 tyX5_ok nmX5 hown hK hP hD hS 0 rfl rfl 19 (by decide) (htb _ kF_X5_28) (fun _ h9 => h9) rfl hin rfl (by decide +kernel) rfl rfl (Nat.le_of_ble_eq_true rfl) dX5_init_57 (fun H locs hP hD hS => ?_)
  have hP : va_P D vwCl [(b0, .inr (5, [.int 0, .int 0, .ref q7, .ref q15, .ref q23, .ref q31, .ref q39, .ref q47, .int 0, .int 0, .int 0, .int 0, .int 0, .long 0, .int 0, .int 0, .int 0, .int 0, .int 0, .ref q55, .long 0, .int 0, .null, .null, .null, .int 0, .int 0])), (q7, .inl (cA, 22, .inl (fun _ => 0))), (q15, .inl (cA, 22, .inl (fun _ => 0))), (q23, .inl (cA, 22, .inl (fun _ => 0))), (q31, .inl (cA, 22, .inl (fun _ => 0))), (q39, .inl (cA, 22, .inl (fun _ => 0))), (q47, .inl (cA, 95, .inl (fun _ => 0))), (q55, .inl (cA, 20, .inl (fun _ => 0)))] H := hP
  have hD : va_D A [(b0, .inr (5, [.int 0, .int 0, .ref q7, .ref q15, .ref q23, .ref q31, .ref q39, .ref q47, .int 0, .int 0, .int 0, .int 0, .int 0, .long 0, .int 0, .int 0, .int 0, .int 0, .int 0, .ref q55, .long 0, .int 0, .null, .null, .null, .int 0, .int 0])), (q7, .inl (cA, 22, .inl (fun _ => 0))), (q15, .inl (cA, 22, .inl (fun _ => 0))), (q23, .inl (cA, 22, .inl (fun _ => 0))), (q31, .inl (cA, 22, .inl (fun _ => 0))), (q39, .inl (cA, 22, .inl (fun _ => 0))), (q47, .inl (cA, 95, .inl (fun _ => 0))), (q55, .inl (cA, 20, .inl (fun _ => 0)))] := hD
  refine lv_aload_n hx hb dX5_init_60 rfl (lv_at hl 0 rfl) ?_
  refine lv_bipush (v := 32) hx hb dX5_init_61 (by decide) ?_
  refine zb_newa (atype := .int) (ty := .int) (a0 := (32, .inl (fun _ => 0))) (N' := 32) (tys := []) hx hb (htb _ kA_int) rfl hfA hP hD hS hA (fun _ => rfl) (by decide) rfl (by decide) (Nat.le_of_ble_eq_true rfl) (Nat.le_of_ble_eq_true rfl) dX5_init_63 (fun q63 H hP hD hS => ?_)
  have hP : va_P D vwCl [(b0, .inr (5, [.int 0, .int 0, .ref q7, .ref q15, .ref q23, .ref q31, .ref q39, .ref q47, .int 0, .int 0, .int 0, .int 0, .int 0, .long 0, .int 0, .int 0, .int 0, .int 0, .int 0, .ref q55, .long 0, .int 0, .null, .null, .null, .int 0, .int 0])), (q7, .inl (cA, 22, .inl (fun _ => 0))), (q15, .inl (cA, 22, .inl (fun _ => 0))), (q23, .inl (cA, 22, .inl (fun _ => 0))), (q31, .inl (cA, 22, .inl (fun _ => 0))), (q39, .inl (cA, 22, .inl (fun _ => 0))), (q47, .inl (cA, 95, .inl (fun _ => 0))), (q55, .inl (cA, 20, .inl (fun _ => 0))), (q63, .inl (cA, 32, .inl (fun _ => 0)))] H := hP
  have hD : va_D A [(b0, .inr (5, [.int 0, .int 0, .ref q7, .ref q15, .ref q23, .ref q31, .ref q39, .ref q47, .int 0, .int 0, .int 0, .int 0, .int 0, .long 0, .int 0, .int 0, .int 0, .int 0, .int 0, .ref q55, .long 0, .int 0, .null, .null, .null, .int 0, .int 0])), (q7, .inl (cA, 22, .inl (fun _ => 0))), (q15, .inl (cA, 22, .inl (fun _ => 0))), (q23, .inl (cA, 22, .inl (fun _ => 0))), (q31, .inl (cA, 22, .inl (fun _ => 0))), (q39, .inl (cA, 22, .inl (fun _ => 0))), (q47, .inl (cA, 95, .inl (fun _ => 0))), (q55, .inl (cA, 20, .inl (fun _ => 0))), (q63, .inl (cA, 32, .inl (fun _ => 0)))] := hD
  refine W.widen (k := 8) (n := 257) (by omega) (by omega) ?_
  refine va_putF (D := D) (ci := 5) (v := .ref q63) (fs := [.int 0, .int 0, .ref q7, .ref q15, .ref q23, .ref q31, .ref q39, .ref q47, .int 0, .int 0, .int 0, .int 0, .int 0, .long 0, .int 0, .int 0, .int 0, .int 0, .int 0, .ref q55, .long 0, .int 0, .null, .null, .null, .int 0, .int 0]) (ty := .array .int) (C := RX5) (T := TX5) (N := 27) hx hb htb inX5 tyX5 tyX5_ok nmX5 hown hK hP hD hS 0 rfl rfl 22 (by decide) (htb _ kF_X5_31) (fun _ h9 => h9) rfl hin rfl (by decide +kernel) rfl rfl (Nat.le_of_ble_eq_true rfl) dX5_init_65 (fun H locs hP hD hS => ?_)
  have hP : va_P D vwCl [(b0, .inr (5, [.int 0, .int 0, .ref q7, .ref q15, .ref q23, .ref q31, .ref q39, .ref q47, .int 0, .int 0, .int 0, .int 0, .int 0, .long 0, .int 0, .int 0, .int 0, .int 0, .int 0, .ref q55, .long 0, .int 0, .ref q63, .null, .null, .int 0, .int 0])), (q7, .inl (cA, 22, .inl (fun _ => 0))), (q15, .inl (cA, 22, .inl (fun _ => 0))), (q23, .inl (cA, 22, .inl (fun _ => 0))), (q31, .inl (cA, 22, .inl (fun _ => 0))), (q39, .inl (cA, 22, .inl (fun _ => 0))), (q47, .inl (cA, 95, .inl (fun _ => 0))), (q55, .inl (cA, 20, .inl (fun _ => 0))), (q63, .inl (cA, 32, .inl (fun _ => 0)))] H := hP
  have hD : va_D A [(b0, .inr (5, [.int 0, .int 0, .ref q7, .ref q15, .ref q23, .ref q31, .ref q39, .ref q47, .int 0, .int 0, .int 0, .int 0, .int 0, .long 0, .int 0, .int 0, .int 0, .int 0, .int 0, .ref q55, .long 0, .int 0, .ref q63, .null, .null, .int 0, .int 0])), (q7, .inl (cA, 22, .inl (fun _ => 0))), (q15, .inl (cA, 22, .inl (fun _ => 0))), (q23, .inl (cA, 22, .inl (fun _ => 0))), (q31, .inl (cA, 22, .inl (fun _ => 0))), (q39, .inl (cA, 22, .inl (fun _ => 0))), (q47, .inl (cA, 95, .inl (fun _ => 0))), (q55, .inl (cA, 20, .inl (fun _ => 0))), (q63, .inl (cA, 32, .inl (fun _ => 0)))] := hD
  refine lv_aload_n hx hb dX5_init_68 rfl (lv_at hl 0 rfl) ?_
  refine lv_bipush (v := 32) hx hb dX5_init_69 (by decide) ?_
  refine zb_newa (atype := .int) (ty := .int) (a0 := (32, .inl (fun _ => 0))) (N' := 32) (tys := []) hx hb (htb _ kA_int) rfl hfA hP hD hS hA (fun _ => rfl) (by decide) rfl (by decide) (Nat.le_of_ble_eq_true rfl) (Nat.le_of_ble_eq_true rfl) dX5_init_71 (fun q71 H hP hD hS => ?_)
  have hP : va_P D vwCl [(b0, .inr (5, [.int 0, .int 0, .ref q7, .ref q15, .ref q23, .ref q31, .ref q39, .ref q47, .int 0, .int 0, .int 0, .int 0, .int 0, .long 0, .int 0, .int 0, .int 0, .int 0, .int 0, .ref q55, .long 0, .int 0, .ref q63, .null, .null, .int 0, .int 0])), (q7, .inl (cA, 22, .inl (fun _ => 0))), (q15, .inl (cA, 22, .inl (fun _ => 0))), (q23, .inl (cA, 22, .inl (fun _ => 0))), (q31, .inl (cA, 22, .inl (fun _ => 0))), (q39, .inl (cA, 22, .inl (fun _ => 0))), (q47, .inl (cA, 95, .inl (fun _ => 0))), (q55, .inl (cA, 20, .inl (fun _ => 0))), (q63, .inl (cA, 32, .inl (fun _ => 0))), (q71, .inl (cA, 32, .inl (fun _ => 0)))] H := hP
  have hD : va_D A [(b0, .inr (5, [.int 0, .int 0, .ref q7, .ref q15, .ref q23, .ref q31, .ref q39, .ref q47, .int 0, .int 0, .int 0, .int 0, .int 0, .long 0, .int 0, .int 0, .int 0, .int 0, .int 0, .ref q55, .long 0, .int 0, .ref q63, .null, .null, .int 0, .int 0])), (q7, .inl (cA, 22, .inl (fun _ => 0))), (q15, .inl (cA, 22, .inl (fun _ => 0))), (q23, .inl (cA, 22, .inl (fun _ => 0))), (q31, .inl (cA, 22, .inl (fun _ => 0))), (q39, .inl (cA, 22, .inl (fun _ => 0))), (q47, .inl (cA, 95, .inl (fun _ => 0))), (q55, .inl (cA, 20, .inl (fun _ => 0))), (q63, .inl (cA, 32, .inl (fun _ => 0))), (q71, .inl (cA, 32, .inl (fun _ => 0)))] := hD
  refine W.widen (k := 9) (n := 289) (by omega) (by omega) ?_
  refine va_putF (D := D) (ci := 5) (v := .ref q71) (fs := [.int 0, .int 0, .ref q7, .ref q15, .ref q23, .ref q31, .ref q39, .ref q47, .int 0, .int 0, .int 0, .int 0, .int 0, .long 0, .int 0, .int 0, .int 0, .int 0, .int 0, .ref q55, .long 0, .int 0, .ref q63, .null, .null, .int 0, .int 0]) (ty := .array .int) (C := RX5) (T := TX5) (N := 27) hx hb htb inX5 tyX5 tyX5_ok nmX5 hown hK hP hD hS 0 rfl rfl 23 (by decide) (htb _ kF_X5_34) (fun _ h9 => h9) rfl hin rfl (by decide +kernel) rfl rfl (Nat.le_of_ble_eq_true rfl) dX5_init_73 (fun H locs hP hD hS => ?_)
  have hP : va_P D vwCl [(b0, .inr (5, [.int 0, .int 0, .ref q7, .ref q15, .ref q23, .ref q31, .ref q39, .ref q47, .int 0, .int 0, .int 0, .int 0, .int 0, .long 0, .int 0, .int 0, .int 0, .int 0, .int 0, .ref q55, .long 0, .int 0, .ref q63, .ref q71, .null, .int 0, .int 0])), (q7, .inl (cA, 22, .inl (fun _ => 0))), (q15, .inl (cA, 22, .inl (fun _ => 0))), (q23, .inl (cA, 22, .inl (fun _ => 0))), (q31, .inl (cA, 22, .inl (fun _ => 0))), (q39, .inl (cA, 22, .inl (fun _ => 0))), (q47, .inl (cA, 95, .inl (fun _ => 0))), (q55, .inl (cA, 20, .inl (fun _ => 0))), (q63, .inl (cA, 32, .inl (fun _ => 0))), (q71, .inl (cA, 32, .inl (fun _ => 0)))] H := hP
  have hD : va_D A [(b0, .inr (5, [.int 0, .int 0, .ref q7, .ref q15, .ref q23, .ref q31, .ref q39, .ref q47, .int 0, .int 0, .int 0, .int 0, .int 0, .long 0, .int 0, .int 0, .int 0, .int 0, .int 0, .ref q55, .long 0, .int 0, .ref q63, .ref q71, .null, .int 0, .int 0])), (q7, .inl (cA, 22, .inl (fun _ => 0))), (q15, .inl (cA, 22, .inl (fun _ => 0))), (q23, .inl (cA, 22, .inl (fun _ => 0))), (q31, .inl (cA, 22, .inl (fun _ => 0))), (q39, .inl (cA, 22, .inl (fun _ => 0))), (q47, .inl (cA, 95, .inl (fun _ => 0))), (q55, .inl (cA, 20, .inl (fun _ => 0))), (q63, .inl (cA, 32, .inl (fun _ => 0))), (q71, .inl (cA, 32, .inl (fun _ => 0)))] := hD
  refine lv_aload_n hx hb dX5_init_76 rfl (lv_at hl 0 rfl) ?_
  refine lv_bipush (v := 32) hx hb dX5_init_77 (by decide) ?_
  refine zb_newa (atype := .long) (ty := .long) (a0 := (32, .inr (.inl (fun _ => 0)))) (N' := 32) (tys := []) hx hb (htb _ kA_long) rfl hfJ hP hD hS hA (fun _ => rfl) (by decide) rfl (by decide) (Nat.le_of_ble_eq_true rfl) (Nat.le_of_ble_eq_true rfl) dX5_init_79 (fun q79 H hP hD hS => ?_)
  have hP : va_P D vwCl [(b0, .inr (5, [.int 0, .int 0, .ref q7, .ref q15, .ref q23, .ref q31, .ref q39, .ref q47, .int 0, .int 0, .int 0, .int 0, .int 0, .long 0, .int 0, .int 0, .int 0, .int 0, .int 0, .ref q55, .long 0, .int 0, .ref q63, .ref q71, .null, .int 0, .int 0])), (q7, .inl (cA, 22, .inl (fun _ => 0))), (q15, .inl (cA, 22, .inl (fun _ => 0))), (q23, .inl (cA, 22, .inl (fun _ => 0))), (q31, .inl (cA, 22, .inl (fun _ => 0))), (q39, .inl (cA, 22, .inl (fun _ => 0))), (q47, .inl (cA, 95, .inl (fun _ => 0))), (q55, .inl (cA, 20, .inl (fun _ => 0))), (q63, .inl (cA, 32, .inl (fun _ => 0))), (q71, .inl (cA, 32, .inl (fun _ => 0))), (q79, .inl (cJ, 32, .inr (.inl (fun _ => 0))))] H := hP
  have hD : va_D A [(b0, .inr (5, [.int 0, .int 0, .ref q7, .ref q15, .ref q23, .ref q31, .ref q39, .ref q47, .int 0, .int 0, .int 0, .int 0, .int 0, .long 0, .int 0, .int 0, .int 0, .int 0, .int 0, .ref q55, .long 0, .int 0, .ref q63, .ref q71, .null, .int 0, .int 0])), (q7, .inl (cA, 22, .inl (fun _ => 0))), (q15, .inl (cA, 22, .inl (fun _ => 0))), (q23, .inl (cA, 22, .inl (fun _ => 0))), (q31, .inl (cA, 22, .inl (fun _ => 0))), (q39, .inl (cA, 22, .inl (fun _ => 0))), (q47, .inl (cA, 95, .inl (fun _ => 0))), (q55, .inl (cA, 20, .inl (fun _ => 0))), (q63, .inl (cA, 32, .inl (fun _ => 0))), (q71, .inl (cA, 32, .inl (fun _ => 0))), (q79, .inl (cJ, 32, .inr (.inl (fun _ => 0))))] := hD
  refine W.widen (k := 10) (n := 321) (by omega) (by omega) ?_
  refine va_putF (D := D) (ci := 5) (v := .ref q79) (fs := [.int 0, .int 0, .ref q7, .ref q15, .ref q23, .ref q31, .ref q39, .ref q47, .int 0, .int 0, .int 0, .int 0, .int 0, .long 0, .int 0, .int 0, .int 0, .int 0, .int 0, .ref q55, .long 0, .int 0, .ref q63, .ref q71, .null, .int 0, .int 0]) (ty := .array .long) (C := RX5) (T := TX5) (N := 27) hx hb htb inX5 tyX5 tyX5_ok nmX5 hown hK hP hD hS 0 rfl rfl 24 (by decide) (htb _ kF_X5_37) (fun _ h9 => h9) rfl hin rfl (by decide +kernel) rfl rfl (Nat.le_of_ble_eq_true rfl) dX5_init_81 (fun H locs hP hD hS => ?_)
  have hP : va_P D vwCl [(b0, .inr (5, [.int 0, .int 0, .ref q7, .ref q15, .ref q23, .ref q31, .ref q39, .ref q47, .int 0, .int 0, .int 0, .int 0, .int 0, .long 0, .int 0, .int 0, .int 0, .int 0, .int 0, .ref q55, .long 0, .int 0, .ref q63, .ref q71, .ref q79, .int 0, .int 0])), (q7, .inl (cA, 22, .inl (fun _ => 0))), (q15, .inl (cA, 22, .inl (fun _ => 0))), (q23, .inl (cA, 22, .inl (fun _ => 0))), (q31, .inl (cA, 22, .inl (fun _ => 0))), (q39, .inl (cA, 22, .inl (fun _ => 0))), (q47, .inl (cA, 95, .inl (fun _ => 0))), (q55, .inl (cA, 20, .inl (fun _ => 0))), (q63, .inl (cA, 32, .inl (fun _ => 0))), (q71, .inl (cA, 32, .inl (fun _ => 0))), (q79, .inl (cJ, 32, .inr (.inl (fun _ => 0))))] H := hP
  have hD : va_D A [(b0, .inr (5, [.int 0, .int 0, .ref q7, .ref q15, .ref q23, .ref q31, .ref q39, .ref q47, .int 0, .int 0, .int 0, .int 0, .int 0, .long 0, .int 0, .int 0, .int 0, .int 0, .int 0, .ref q55, .long 0, .int 0, .ref q63, .ref q71, .ref q79, .int 0, .int 0])), (q7, .inl (cA, 22, .inl (fun _ => 0))), (q15, .inl (cA, 22, .inl (fun _ => 0))), (q23, .inl (cA, 22, .inl (fun _ => 0))), (q31, .inl (cA, 22, .inl (fun _ => 0))), (q39, .inl (cA, 22, .inl (fun _ => 0))), (q47, .inl (cA, 95, .inl (fun _ => 0))), (q55, .inl (cA, 20, .inl (fun _ => 0))), (q63, .inl (cA, 32, .inl (fun _ => 0))), (q71, .inl (cA, 32, .inl (fun _ => 0))), (q79, .inl (cJ, 32, .inr (.inl (fun _ => 0))))] := hD
  have tl : ∀ nv : Int32, nv = nN n0 → W p l ev ({ frames := 2, cells := 10, slots := 321, locals := 46 } : Room) s m ([.ref b0, .int n0]).toArray below meth c H locs 10 321 Q (F0 m 106 ls [.int nv, .ref b0]) := by
    intro nv hnv
    subst hnv
    refine va_putF (D := D) (ci := 5) (v := .int (nN n0)) (fs := [.int 0, .int 0, .ref q7, .ref q15, .ref q23, .ref q31, .ref q39, .ref q47, .int 0, .int 0, .int 0, .int 0, .int 0, .long 0, .int 0, .int 0, .int 0, .int 0, .int 0, .ref q55, .long 0, .int 0, .ref q63, .ref q71, .ref q79, .int 0, .int 0]) (ty := .int) (C := RX5) (T := TX5) (N := 27) hx hb htb inX5 tyX5 tyX5_ok nmX5 hown hK hP hD hS 0 rfl rfl 1 (by decide) (htb _ kF_X5_41) (fun _ h9 => h9) rfl hin rfl (by decide +kernel) rfl rfl (Nat.le_of_ble_eq_true rfl) dX5_init_106 (fun H locs hP hD hS => ?_)
    have hP : va_P D vwCl [(b0, .inr (5, [.int 0, .int (nN n0), .ref q7, .ref q15, .ref q23, .ref q31, .ref q39, .ref q47, .int 0, .int 0, .int 0, .int 0, .int 0, .long 0, .int 0, .int 0, .int 0, .int 0, .int 0, .ref q55, .long 0, .int 0, .ref q63, .ref q71, .ref q79, .int 0, .int 0])), (q7, .inl (cA, 22, .inl (fun _ => 0))), (q15, .inl (cA, 22, .inl (fun _ => 0))), (q23, .inl (cA, 22, .inl (fun _ => 0))), (q31, .inl (cA, 22, .inl (fun _ => 0))), (q39, .inl (cA, 22, .inl (fun _ => 0))), (q47, .inl (cA, 95, .inl (fun _ => 0))), (q55, .inl (cA, 20, .inl (fun _ => 0))), (q63, .inl (cA, 32, .inl (fun _ => 0))), (q71, .inl (cA, 32, .inl (fun _ => 0))), (q79, .inl (cJ, 32, .inr (.inl (fun _ => 0))))] H := hP
    have hD : va_D A [(b0, .inr (5, [.int 0, .int (nN n0), .ref q7, .ref q15, .ref q23, .ref q31, .ref q39, .ref q47, .int 0, .int 0, .int 0, .int 0, .int 0, .long 0, .int 0, .int 0, .int 0, .int 0, .int 0, .ref q55, .long 0, .int 0, .ref q63, .ref q71, .ref q79, .int 0, .int 0])), (q7, .inl (cA, 22, .inl (fun _ => 0))), (q15, .inl (cA, 22, .inl (fun _ => 0))), (q23, .inl (cA, 22, .inl (fun _ => 0))), (q31, .inl (cA, 22, .inl (fun _ => 0))), (q39, .inl (cA, 22, .inl (fun _ => 0))), (q47, .inl (cA, 95, .inl (fun _ => 0))), (q55, .inl (cA, 20, .inl (fun _ => 0))), (q63, .inl (cA, 32, .inl (fun _ => 0))), (q71, .inl (cA, 32, .inl (fun _ => 0))), (q79, .inl (cJ, 32, .inr (.inl (fun _ => 0))))] := hD
    have hP : va_P D vwCl (rwT (fun k => [b0, q7, q15, q23, q31, q39, q47, q55, q63, q71, q79].getD k 0) cA cJ (nN n0) 0) H := by unfold rwT; rw [tq_0, tq_0, tq_0, tq_0, tq_0]; exact hP
    have hD : va_D A (rwT (fun k => [b0, q7, q15, q23, q31, q39, q47, q55, q63, q71, q79].getD k 0) cA cJ (nN n0) 0) := by unfold rwT; rw [tq_0, tq_0, tq_0, tq_0, tq_0]; exact hD
    refine lv_aload_n hx hb dX5_init_109 rfl (lv_at hl 0 rfl) ?_
    refine lv_sipush (v := 4096) hx hb dX5_init_110 (by decide) ?_
    refine lv_iconst (v := 0) hx hb dX5_init_113 (by decide) ?_
    refine lv_iconst (v := 4) hx hb dX5_init_114 (by decide) ?_
    refine lv_iconst (v := 1) hx hb dX5_init_115 (by decide) ?_
    refine zb_cv (va_runV (As := [.int 4096, .int 0, .int 4, .int 1]) (rest := []) ⟨hx, hb, hml, hown, htb⟩ (r_add l D (fun k => [b0, q7, q15, q23, q31, q39, q47, q55, q63, q71, q79].getD k 0) cA cJ (nN n0) 0 _ 4096 0 4 1 (by decide) rfl rfl rfl rfl) (cwV 4 htb (wb_V kM_X5_45 kI_X5_add kS_X5_add kN_X5 kD_X5_add) rfl rfl rfl (by decide +kernel) ⟨Nat.le_of_ble_eq_true rfl, Nat.le_of_ble_eq_true rfl⟩) (zp_VW 0 rfl rfl hP hD hK hSt hS hA hnw) rfl rfl hl.1 rfl (lv_room (Nat.le_of_ble_eq_true rfl)) dX5_init_116 ⟨Nat.le_of_ble_eq_true rfl, Nat.le_of_ble_eq_true rfl⟩) hD hS hA (fun H locs hP hD hS => ?_)
    refine W.widen (k := 10) (n := 321) (by omega) (by omega) ?_
    have hP : va_P D vwCl (rwT (fun k => [b0, q7, q15, q23, q31, q39, q47, q55, q63, q71, q79].getD k 0) cA cJ (nN n0) 1) H := hP
    have hD : va_D A (rwT (fun k => [b0, q7, q15, q23, q31, q39, q47, q55, q63, q71, q79].getD k 0) cA cJ (nN n0) 1) := hD
    refine lv_aload_n hx hb dX5_init_119 rfl (lv_at hl 0 rfl) ?_
    refine lv_sipush (v := 4097) hx hb dX5_init_120 (by decide) ?_
    refine lv_iconst (v := 0) hx hb dX5_init_123 (by decide) ?_
    refine lv_iconst (v := 1) hx hb dX5_init_124 (by decide) ?_
    refine lv_iconst (v := 5) hx hb dX5_init_125 (by decide) ?_
    refine zb_cv (va_runV (As := [.int 4097, .int 0, .int 1, .int 5]) (rest := []) ⟨hx, hb, hml, hown, htb⟩ (r_add l D (fun k => [b0, q7, q15, q23, q31, q39, q47, q55, q63, q71, q79].getD k 0) cA cJ (nN n0) 1 _ 4097 0 1 5 (by decide) rfl rfl rfl rfl) (cwV 4 htb (wb_V kM_X5_45 kI_X5_add kS_X5_add kN_X5 kD_X5_add) rfl rfl rfl (by decide +kernel) ⟨Nat.le_of_ble_eq_true rfl, Nat.le_of_ble_eq_true rfl⟩) (zp_VW 0 rfl rfl hP hD hK hSt hS hA hnw) rfl rfl hl.1 rfl (lv_room (Nat.le_of_ble_eq_true rfl)) dX5_init_126 ⟨Nat.le_of_ble_eq_true rfl, Nat.le_of_ble_eq_true rfl⟩) hD hS hA (fun H locs hP hD hS => ?_)
    refine W.widen (k := 10) (n := 321) (by omega) (by omega) ?_
    have hP : va_P D vwCl (rwT (fun k => [b0, q7, q15, q23, q31, q39, q47, q55, q63, q71, q79].getD k 0) cA cJ (nN n0) 2) H := hP
    have hD : va_D A (rwT (fun k => [b0, q7, q15, q23, q31, q39, q47, q55, q63, q71, q79].getD k 0) cA cJ (nN n0) 2) := hD
    refine lv_aload_n hx hb dX5_init_129 rfl (lv_at hl 0 rfl) ?_
    refine lv_sipush (v := 4119) hx hb dX5_init_130 (by decide) ?_
    refine lv_iconst (v := 0) hx hb dX5_init_133 (by decide) ?_
    refine lv_iconst (v := 2) hx hb dX5_init_134 (by decide) ?_
    refine lv_iconst (v := 3) hx hb dX5_init_135 (by decide) ?_
    refine zb_cv (va_runV (As := [.int 4119, .int 0, .int 2, .int 3]) (rest := []) ⟨hx, hb, hml, hown, htb⟩ (r_add l D (fun k => [b0, q7, q15, q23, q31, q39, q47, q55, q63, q71, q79].getD k 0) cA cJ (nN n0) 2 _ 4119 0 2 3 (by decide) rfl rfl rfl rfl) (cwV 4 htb (wb_V kM_X5_45 kI_X5_add kS_X5_add kN_X5 kD_X5_add) rfl rfl rfl (by decide +kernel) ⟨Nat.le_of_ble_eq_true rfl, Nat.le_of_ble_eq_true rfl⟩) (zp_VW 0 rfl rfl hP hD hK hSt hS hA hnw) rfl rfl hl.1 rfl (lv_room (Nat.le_of_ble_eq_true rfl)) dX5_init_136 ⟨Nat.le_of_ble_eq_true rfl, Nat.le_of_ble_eq_true rfl⟩) hD hS hA (fun H locs hP hD hS => ?_)
    refine W.widen (k := 10) (n := 321) (by omega) (by omega) ?_
    have hP : va_P D vwCl (rwT (fun k => [b0, q7, q15, q23, q31, q39, q47, q55, q63, q71, q79].getD k 0) cA cJ (nN n0) 3) H := hP
    have hD : va_D A (rwT (fun k => [b0, q7, q15, q23, q31, q39, q47, q55, q63, q71, q79].getD k 0) cA cJ (nN n0) 3) := hD
    refine lv_aload_n hx hb dX5_init_139 rfl (lv_at hl 0 rfl) ?_
    refine lv_sipush (v := 5632) hx hb dX5_init_140 (by decide) ?_
    refine zb_cv (va_runV (As := [.int 5632]) (rest := []) ⟨hx, hb, hml, hown, htb⟩ (r_addMap3 l D (fun k => [b0, q7, q15, q23, q31, q39, q47, q55, q63, q71, q79].getD k 0) cA cJ (nN n0) _) (cwV 1 htb (wb_V kM_X5_49 kI_X5_addMap kS_X5_addMap kN_X5 kD_X5_addMap) rfl rfl rfl (by decide +kernel) ⟨Nat.le_of_ble_eq_true rfl, Nat.le_of_ble_eq_true rfl⟩) (zp_VW 0 rfl rfl hP hD hK hSt hS hA hnw) rfl rfl hl.1 rfl (lv_room (Nat.le_of_ble_eq_true rfl)) dX5_init_143 ⟨Nat.le_of_ble_eq_true rfl, Nat.le_of_ble_eq_true rfl⟩) hD hS hA (fun H locs hP hD hS => ?_)
    refine W.widen (k := 10) (n := 321) (by omega) (by omega) ?_
    have hP : va_P D vwCl (rwT (fun k => [b0, q7, q15, q23, q31, q39, q47, q55, q63, q71, q79].getD k 0) cA cJ (nN n0) 8) H := hP
    have hD : va_D A (rwT (fun k => [b0, q7, q15, q23, q31, q39, q47, q55, q63, q71, q79].getD k 0) cA cJ (nN n0) 8) := hD
    refine lv_aload_n hx hb dX5_init_146 rfl (lv_at hl 0 rfl) ?_
    refine lv_sipush (v := 6144) hx hb dX5_init_147 (by decide) ?_
    refine lv_iconst (v := 2) hx hb dX5_init_150 (by decide) ?_
    refine lv_iconst (v := 1) hx hb dX5_init_151 (by decide) ?_
    refine lv_iconst (v := 3) hx hb dX5_init_152 (by decide) ?_
    refine zb_cv (va_runV (As := [.int 6144, .int 2, .int 1, .int 3]) (rest := []) ⟨hx, hb, hml, hown, htb⟩ (r_add l D (fun k => [b0, q7, q15, q23, q31, q39, q47, q55, q63, q71, q79].getD k 0) cA cJ (nN n0) 8 _ 6144 2 1 3 (by decide) rfl rfl rfl rfl) (cwV 4 htb (wb_V kM_X5_45 kI_X5_add kS_X5_add kN_X5 kD_X5_add) rfl rfl rfl (by decide +kernel) ⟨Nat.le_of_ble_eq_true rfl, Nat.le_of_ble_eq_true rfl⟩) (zp_VW 0 rfl rfl hP hD hK hSt hS hA hnw) rfl rfl hl.1 rfl (lv_room (Nat.le_of_ble_eq_true rfl)) dX5_init_153 ⟨Nat.le_of_ble_eq_true rfl, Nat.le_of_ble_eq_true rfl⟩) hD hS hA (fun H locs hP hD hS => ?_)
    refine W.widen (k := 10) (n := 321) (by omega) (by omega) ?_
    have hP : va_P D vwCl (rwT (fun k => [b0, q7, q15, q23, q31, q39, q47, q55, q63, q71, q79].getD k 0) cA cJ (nN n0) 9) H := hP
    have hD : va_D A (rwT (fun k => [b0, q7, q15, q23, q31, q39, q47, q55, q63, q71, q79].getD k 0) cA cJ (nN n0) 9) := hD
    refine lv_aload_n hx hb dX5_init_156 rfl (lv_at hl 0 rfl) ?_
    refine lv_sipush (v := 6656) hx hb dX5_init_157 (by decide) ?_
    refine zb_cv (va_runV (As := [.int 6656]) (rest := []) ⟨hx, hb, hml, hown, htb⟩ (r_addMap9 l D (fun k => [b0, q7, q15, q23, q31, q39, q47, q55, q63, q71, q79].getD k 0) cA cJ (nN n0) _) (cwV 1 htb (wb_V kM_X5_49 kI_X5_addMap kS_X5_addMap kN_X5 kD_X5_addMap) rfl rfl rfl (by decide +kernel) ⟨Nat.le_of_ble_eq_true rfl, Nat.le_of_ble_eq_true rfl⟩) (zp_VW 0 rfl rfl hP hD hK hSt hS hA hnw) rfl rfl hl.1 rfl (lv_room (Nat.le_of_ble_eq_true rfl)) dX5_init_160 ⟨Nat.le_of_ble_eq_true rfl, Nat.le_of_ble_eq_true rfl⟩) hD hS hA (fun H locs hP hD hS => ?_)
    refine W.widen (k := 10) (n := 321) (by omega) (by omega) ?_
    have hP : va_P D vwCl (rwT (fun k => [b0, q7, q15, q23, q31, q39, q47, q55, q63, q71, q79].getD k 0) cA cJ (nN n0) 14) H := hP
    have hD : va_D A (rwT (fun k => [b0, q7, q15, q23, q31, q39, q47, q55, q63, q71, q79].getD k 0) cA cJ (nN n0) 14) := hD
    refine lv_aload_n hx hb dX5_init_163 rfl (lv_at hl 0 rfl) ?_
    refine lv_sipush (v := 8192) hx hb dX5_init_164 (by decide) ?_
    refine lv_iconst (v := 0) hx hb dX5_init_167 (by decide) ?_
    refine lv_iconst (v := 1) hx hb dX5_init_168 (by decide) ?_
    refine lv_bipush (v := 7) hx hb dX5_init_169 (by decide) ?_
    refine zb_cv (va_runV (As := [.int 8192, .int 0, .int 1, .int 7]) (rest := []) ⟨hx, hb, hml, hown, htb⟩ (r_add l D (fun k => [b0, q7, q15, q23, q31, q39, q47, q55, q63, q71, q79].getD k 0) cA cJ (nN n0) 14 _ 8192 0 1 7 (by decide) rfl rfl rfl rfl) (cwV 4 htb (wb_V kM_X5_45 kI_X5_add kS_X5_add kN_X5 kD_X5_add) rfl rfl rfl (by decide +kernel) ⟨Nat.le_of_ble_eq_true rfl, Nat.le_of_ble_eq_true rfl⟩) (zp_VW 0 rfl rfl hP hD hK hSt hS hA hnw) rfl rfl hl.1 rfl (lv_room (Nat.le_of_ble_eq_true rfl)) dX5_init_171 ⟨Nat.le_of_ble_eq_true rfl, Nat.le_of_ble_eq_true rfl⟩) hD hS hA (fun H locs hP hD hS => ?_)
    refine W.widen (k := 10) (n := 321) (by omega) (by omega) ?_
    have hP : va_P D vwCl (rwT (fun k => [b0, q7, q15, q23, q31, q39, q47, q55, q63, q71, q79].getD k 0) cA cJ (nN n0) 15) H := hP
    have hD : va_D A (rwT (fun k => [b0, q7, q15, q23, q31, q39, q47, q55, q63, q71, q79].getD k 0) cA cJ (nN n0) 15) := hD
    refine lv_aload_n hx hb dX5_init_174 rfl (lv_at hl 0 rfl) ?_
    refine lv_sipush (v := 8193) hx hb dX5_init_175 (by decide) ?_
    refine lv_iconst (v := 0) hx hb dX5_init_178 (by decide) ?_
    refine lv_iconst (v := 2) hx hb dX5_init_179 (by decide) ?_
    refine lv_bipush (v := 7) hx hb dX5_init_180 (by decide) ?_
    refine zb_cv (va_runV (As := [.int 8193, .int 0, .int 2, .int 7]) (rest := []) ⟨hx, hb, hml, hown, htb⟩ (r_add l D (fun k => [b0, q7, q15, q23, q31, q39, q47, q55, q63, q71, q79].getD k 0) cA cJ (nN n0) 15 _ 8193 0 2 7 (by decide) rfl rfl rfl rfl) (cwV 4 htb (wb_V kM_X5_45 kI_X5_add kS_X5_add kN_X5 kD_X5_add) rfl rfl rfl (by decide +kernel) ⟨Nat.le_of_ble_eq_true rfl, Nat.le_of_ble_eq_true rfl⟩) (zp_VW 0 rfl rfl hP hD hK hSt hS hA hnw) rfl rfl hl.1 rfl (lv_room (Nat.le_of_ble_eq_true rfl)) dX5_init_182 ⟨Nat.le_of_ble_eq_true rfl, Nat.le_of_ble_eq_true rfl⟩) hD hS hA (fun H locs hP hD hS => ?_)
    refine W.widen (k := 10) (n := 321) (by omega) (by omega) ?_
    have hP : va_P D vwCl (rwT (fun k => [b0, q7, q15, q23, q31, q39, q47, q55, q63, q71, q79].getD k 0) cA cJ (nN n0) 16) H := hP
    have hD : va_D A (rwT (fun k => [b0, q7, q15, q23, q31, q39, q47, q55, q63, q71, q79].getD k 0) cA cJ (nN n0) 16) := hD
    refine lv_aload_n hx hb dX5_init_185 rfl (lv_at hl 0 rfl) ?_
    refine lv_sipush (v := 8194) hx hb dX5_init_186 (by decide) ?_
    refine lv_iconst (v := 0) hx hb dX5_init_189 (by decide) ?_
    refine lv_iconst (v := 4) hx hb dX5_init_190 (by decide) ?_
    refine lv_bipush (v := 7) hx hb dX5_init_191 (by decide) ?_
    refine zb_cv (va_runV (As := [.int 8194, .int 0, .int 4, .int 7]) (rest := []) ⟨hx, hb, hml, hown, htb⟩ (r_add l D (fun k => [b0, q7, q15, q23, q31, q39, q47, q55, q63, q71, q79].getD k 0) cA cJ (nN n0) 16 _ 8194 0 4 7 (by decide) rfl rfl rfl rfl) (cwV 4 htb (wb_V kM_X5_45 kI_X5_add kS_X5_add kN_X5 kD_X5_add) rfl rfl rfl (by decide +kernel) ⟨Nat.le_of_ble_eq_true rfl, Nat.le_of_ble_eq_true rfl⟩) (zp_VW 0 rfl rfl hP hD hK hSt hS hA hnw) rfl rfl hl.1 rfl (lv_room (Nat.le_of_ble_eq_true rfl)) dX5_init_193 ⟨Nat.le_of_ble_eq_true rfl, Nat.le_of_ble_eq_true rfl⟩) hD hS hA (fun H locs hP hD hS => ?_)
    refine W.widen (k := 10) (n := 321) (by omega) (by omega) ?_
    have hP : va_P D vwCl (rwT (fun k => [b0, q7, q15, q23, q31, q39, q47, q55, q63, q71, q79].getD k 0) cA cJ (nN n0) 17) H := hP
    have hD : va_D A (rwT (fun k => [b0, q7, q15, q23, q31, q39, q47, q55, q63, q71, q79].getD k 0) cA cJ (nN n0) 17) := hD
    refine lv_aload_n hx hb dX5_init_196 rfl (lv_at hl 0 rfl) ?_
    refine lv_sipush (v := 8195) hx hb dX5_init_197 (by decide) ?_
    refine lv_iconst (v := 0) hx hb dX5_init_200 (by decide) ?_
    refine lv_iconst (v := 4) hx hb dX5_init_201 (by decide) ?_
    refine lv_iconst (v := 5) hx hb dX5_init_202 (by decide) ?_
    refine zb_cv (va_runV (As := [.int 8195, .int 0, .int 4, .int 5]) (rest := []) ⟨hx, hb, hml, hown, htb⟩ (r_add l D (fun k => [b0, q7, q15, q23, q31, q39, q47, q55, q63, q71, q79].getD k 0) cA cJ (nN n0) 17 _ 8195 0 4 5 (by decide) rfl rfl rfl rfl) (cwV 4 htb (wb_V kM_X5_45 kI_X5_add kS_X5_add kN_X5 kD_X5_add) rfl rfl rfl (by decide +kernel) ⟨Nat.le_of_ble_eq_true rfl, Nat.le_of_ble_eq_true rfl⟩) (zp_VW 0 rfl rfl hP hD hK hSt hS hA hnw) rfl rfl hl.1 rfl (lv_room (Nat.le_of_ble_eq_true rfl)) dX5_init_203 ⟨Nat.le_of_ble_eq_true rfl, Nat.le_of_ble_eq_true rfl⟩) hD hS hA (fun H locs hP hD hS => ?_)
    refine W.widen (k := 10) (n := 321) (by omega) (by omega) ?_
    have hP : va_P D vwCl (rwT (fun k => [b0, q7, q15, q23, q31, q39, q47, q55, q63, q71, q79].getD k 0) cA cJ (nN n0) 18) H := hP
    have hD : va_D A (rwT (fun k => [b0, q7, q15, q23, q31, q39, q47, q55, q63, q71, q79].getD k 0) cA cJ (nN n0) 18) := hD
    refine lv_aload_n hx hb dX5_init_206 rfl (lv_at hl 0 rfl) ?_
    refine lv_sipush (v := 8196) hx hb dX5_init_207 (by decide) ?_
    refine lv_iconst (v := 0) hx hb dX5_init_210 (by decide) ?_
    refine lv_bipush (v := 12) hx hb dX5_init_211 (by decide) ?_
    refine lv_iconst (v := 3) hx hb dX5_init_213 (by decide) ?_
    refine zb_cv (va_runV (As := [.int 8196, .int 0, .int 12, .int 3]) (rest := []) ⟨hx, hb, hml, hown, htb⟩ (r_add l D (fun k => [b0, q7, q15, q23, q31, q39, q47, q55, q63, q71, q79].getD k 0) cA cJ (nN n0) 18 _ 8196 0 12 3 (by decide) rfl rfl rfl rfl) (cwV 4 htb (wb_V kM_X5_45 kI_X5_add kS_X5_add kN_X5 kD_X5_add) rfl rfl rfl (by decide +kernel) ⟨Nat.le_of_ble_eq_true rfl, Nat.le_of_ble_eq_true rfl⟩) (zp_VW 0 rfl rfl hP hD hK hSt hS hA hnw) rfl rfl hl.1 rfl (lv_room (Nat.le_of_ble_eq_true rfl)) dX5_init_214 ⟨Nat.le_of_ble_eq_true rfl, Nat.le_of_ble_eq_true rfl⟩) hD hS hA (fun H locs hP hD hS => ?_)
    refine W.widen (k := 10) (n := 321) (by omega) (by omega) ?_
    have hP : va_P D vwCl (rwT (fun k => [b0, q7, q15, q23, q31, q39, q47, q55, q63, q71, q79].getD k 0) cA cJ (nN n0) 19) H := hP
    have hD : va_D A (rwT (fun k => [b0, q7, q15, q23, q31, q39, q47, q55, q63, q71, q79].getD k 0) cA cJ (nN n0) 19) := hD
    refine lv_aload_n hx hb dX5_init_217 rfl (lv_at hl 0 rfl) ?_
    refine lv_sipush (v := 8197) hx hb dX5_init_218 (by decide) ?_
    refine lv_iconst (v := 0) hx hb dX5_init_221 (by decide) ?_
    refine lv_bipush (v := 8) hx hb dX5_init_222 (by decide) ?_
    refine lv_bipush (v := 7) hx hb dX5_init_224 (by decide) ?_
    refine zb_cv (va_runV (As := [.int 8197, .int 0, .int 8, .int 7]) (rest := []) ⟨hx, hb, hml, hown, htb⟩ (r_add l D (fun k => [b0, q7, q15, q23, q31, q39, q47, q55, q63, q71, q79].getD k 0) cA cJ (nN n0) 19 _ 8197 0 8 7 (by decide) rfl rfl rfl rfl) (cwV 4 htb (wb_V kM_X5_45 kI_X5_add kS_X5_add kN_X5 kD_X5_add) rfl rfl rfl (by decide +kernel) ⟨Nat.le_of_ble_eq_true rfl, Nat.le_of_ble_eq_true rfl⟩) (zp_VW 0 rfl rfl hP hD hK hSt hS hA hnw) rfl rfl hl.1 rfl (lv_room (Nat.le_of_ble_eq_true rfl)) dX5_init_226 ⟨Nat.le_of_ble_eq_true rfl, Nat.le_of_ble_eq_true rfl⟩) hD hS hA (fun H locs hP hD hS => ?_)
    refine W.widen (k := 10) (n := 321) (by omega) (by omega) ?_
    have hP : va_P D vwCl (rwT (fun k => [b0, q7, q15, q23, q31, q39, q47, q55, q63, q71, q79].getD k 0) cA cJ (nN n0) 20) H := hP
    have hD : va_D A (rwT (fun k => [b0, q7, q15, q23, q31, q39, q47, q55, q63, q71, q79].getD k 0) cA cJ (nN n0) 20) := hD
    refine lv_aload_n hx hb dX5_init_229 rfl (lv_at hl 0 rfl) ?_
    refine lv_sipush (v := 8198) hx hb dX5_init_230 (by decide) ?_
    refine lv_iconst (v := 0) hx hb dX5_init_233 (by decide) ?_
    refine lv_iconst (v := 2) hx hb dX5_init_234 (by decide) ?_
    refine lv_bipush (v := 6) hx hb dX5_init_235 (by decide) ?_
    refine zb_cv (va_runV (As := [.int 8198, .int 0, .int 2, .int 6]) (rest := []) ⟨hx, hb, hml, hown, htb⟩ (r_add l D (fun k => [b0, q7, q15, q23, q31, q39, q47, q55, q63, q71, q79].getD k 0) cA cJ (nN n0) 20 _ 8198 0 2 6 (by decide) rfl rfl rfl rfl) (cwV 4 htb (wb_V kM_X5_45 kI_X5_add kS_X5_add kN_X5 kD_X5_add) rfl rfl rfl (by decide +kernel) ⟨Nat.le_of_ble_eq_true rfl, Nat.le_of_ble_eq_true rfl⟩) (zp_VW 0 rfl rfl hP hD hK hSt hS hA hnw) rfl rfl hl.1 rfl (lv_room (Nat.le_of_ble_eq_true rfl)) dX5_init_237 ⟨Nat.le_of_ble_eq_true rfl, Nat.le_of_ble_eq_true rfl⟩) hD hS hA (fun H locs hP hD hS => ?_)
    refine W.widen (k := 10) (n := 321) (by omega) (by omega) ?_
    have hP : va_P D vwCl (rwT (fun k => [b0, q7, q15, q23, q31, q39, q47, q55, q63, q71, q79].getD k 0) cA cJ (nN n0) 21) H := hP
    have hD : va_D A (rwT (fun k => [b0, q7, q15, q23, q31, q39, q47, q55, q63, q71, q79].getD k 0) cA cJ (nN n0) 21) := hD
    refine lv_aload_n hx hb dX5_init_240 rfl (lv_at hl 0 rfl) ?_
    refine lv_sipush (v := 8199) hx hb dX5_init_241 (by decide) ?_
    refine lv_iconst (v := 0) hx hb dX5_init_244 (by decide) ?_
    refine lv_bipush (v := 20) hx hb dX5_init_245 (by decide) ?_
    refine lv_iconst (v := 1) hx hb dX5_init_247 (by decide) ?_
    refine zb_cv (va_runV (As := [.int 8199, .int 0, .int 20, .int 1]) (rest := []) ⟨hx, hb, hml, hown, htb⟩ (r_add l D (fun k => [b0, q7, q15, q23, q31, q39, q47, q55, q63, q71, q79].getD k 0) cA cJ (nN n0) 21 _ 8199 0 20 1 (by decide) rfl rfl rfl rfl) (cwV 4 htb (wb_V kM_X5_45 kI_X5_add kS_X5_add kN_X5 kD_X5_add) rfl rfl rfl (by decide +kernel) ⟨Nat.le_of_ble_eq_true rfl, Nat.le_of_ble_eq_true rfl⟩) (zp_VW 0 rfl rfl hP hD hK hSt hS hA hnw) rfl rfl hl.1 rfl (lv_room (Nat.le_of_ble_eq_true rfl)) dX5_init_248 ⟨Nat.le_of_ble_eq_true rfl, Nat.le_of_ble_eq_true rfl⟩) hD hS hA (fun H locs hP hD hS => ?_)
    refine W.widen (k := 10) (n := 321) (by omega) (by omega) ?_
    have hP : va_P D vwCl (rwT (fun k => [b0, q7, q15, q23, q31, q39, q47, q55, q63, q71, q79].getD k 0) cA cJ (nN n0) 22) H := hP
    have hD : va_D A (rwT (fun k => [b0, q7, q15, q23, q31, q39, q47, q55, q63, q71, q79].getD k 0) cA cJ (nN n0) 22) := hD
    refine lv_aload_n hx hb dX5_init_251 rfl (lv_at hl 0 rfl) ?_
    refine lv_ldc (v := 65536) hx hb hown (htb _ kK_X5_53) dX5_init_252 ?_
    rw [rwT_22] at hP hD
    refine zb_cv (va_runV (As := [.int 65536]) (rest := []) ⟨hx, hb, hml, hown, htb⟩ (r_reset95 l D (fun k => [b0, q7, q15, q23, q31, q39, q47, q55, q63, q71, q79].getD k 0) cA cJ (nN n0) f00 0 ob0 t00 (0, 0, 0, 0) 0 0 0 _) (cwV 1 htb (wb_V kM_X5_54 kI_X5_reset kS_X5_reset kN_X5 kD_X5_reset) rfl rfl rfl (by decide +kernel) ⟨Nat.le_of_ble_eq_true rfl, Nat.le_of_ble_eq_true rfl⟩) (zp_VW 0 rfl rfl hP hD hK hSt hS hA hnw) rfl rfl hl.1 rfl (lv_room (Nat.le_of_ble_eq_true rfl)) dX5_init_254 ⟨Nat.le_of_ble_eq_true rfl, Nat.le_of_ble_eq_true rfl⟩) hD hS hA (fun H locs hP hD hS => ?_)
    refine W.widen (k := 10) (n := 321) (by omega) (by omega) ?_
    have hP : va_P D vwCl (rw0 (fun k => [b0, q7, q15, q23, q31, q39, q47, q55, q63, q71, q79].getD k 0) cA cJ (nN n0) fI (ro 0 ob0) t00 (0, 0, 0, 0) 0 0 0) H := hP
    have hD : va_D A (rw0 (fun k => [b0, q7, q15, q23, q31, q39, q47, q55, q63, q71, q79].getD k 0) cA cJ (nN n0) fI (ro 0 ob0) t00 (0, 0, 0, 0) 0 0 0) := hD
    refine lv_aload_n hx hb dX5_init_257 rfl (lv_at hl 0 rfl) ?_
    refine zb_cv (va_runV (As := []) (rest := []) ⟨hx, hb, hml, hown, htb⟩ (r_boot l D (fun k => [b0, q7, q15, q23, q31, q39, q47, q55, q63, q71, q79].getD k 0) cA cJ (nN n0) fI 0 ob0 t00 (0, 0, 0, 0) 0 0 0 _ ⟨0, by decide, rfl⟩) (cwV 0 htb (wb_V kM_X5_57 kI_X5_boot kS_X5_boot kN_X5 kD_X5_boot) rfl rfl rfl (by decide +kernel) ⟨Nat.le_of_ble_eq_true rfl, Nat.le_of_ble_eq_true rfl⟩) (zp_VW 0 rfl rfl hP hD hK hSt hS hA hnw) rfl rfl hl.1 rfl (lv_room (Nat.le_of_ble_eq_true rfl)) dX5_init_258 ⟨Nat.le_of_ble_eq_true rfl, Nat.le_of_ble_eq_true rfl⟩) hD hS hA (fun H locs hP hD hS => ?_)
    refine W.widen (k := 10) (n := 321) (by omega) (by omega) ?_
    have hP : va_P D vwCl (rw0 (fun k => [b0, q7, q15, q23, q31, q39, q47, q55, q63, q71, q79].getD k 0) cA cJ (nN n0) fI (ro 0 (kBoot (nN n0) ob0)) t00 (nBoot (0, 0, 0, 0)) 0 0 0) H := hP
    have hD : va_D A (rw0 (fun k => [b0, q7, q15, q23, q31, q39, q47, q55, q63, q71, q79].getD k 0) cA cJ (nN n0) fI (ro 0 (kBoot (nN n0) ob0)) t00 (nBoot (0, 0, 0, 0)) 0 0 0) := hD
    rw [hQ]
    have hw9 : ((rw0 (fun k => [b0, q7, q15, q23, q31, q39, q47, q55, q63, q71, q79].getD k 0) cA cJ (nN n0) fI (ro 0 (kBoot (nN n0) ob0)) t00 (nBoot (0, 0, 0, 0)) 0 0 0) : va_W) = (fun b => rw0 b cA cJ (nN n0) fI (ro 0 (kBoot (nN n0) ob0)) t00 (nBoot (0, 0, 0, 0)) 0 0 0) (fun k => [b0, q7, q15, q23, q31, q39, q47, q55, q63, q71, q79].getD k 0) := rfl
    exact W.vret hx hb hr (fun t9 ht hW => ⟨(fun k => [b0, q7, q15, q23, q31, q39, q47, q55, q63, q71, q79].getD k 0), rfl, rfl, by rw [ht, ← hw9]; exact hP, by rw [← hw9]; exact hD, hS.F ht⟩) hS.2.2 dX5_init_261
  refine lv_aload_n hx hb dX5_init_84 rfl (lv_at hl 0 rfl) ?_
  refine lv_iload_n hx hb dX5_init_85 rfl (lv_at hl 1 rfl) ?_
  refine lv_iconst (v := 1) hx hb dX5_init_86 (by decide) ?_
  refine lv_icmp_ge (tgt := 94) hx hb dX5_init_87 (by decide) (fun hc1 => ?_) (fun hc1 => ?_)
  · refine lv_iload_n hx hb dX5_init_94 rfl (lv_at hl 1 rfl) ?_
    refine lv_bipush (v := 15) hx hb dX5_init_95 (by decide) ?_
    refine lv_icmp_le (tgt := 105) hx hb dX5_init_97 (by decide) (fun hc2 => ?_) (fun hc2 => ?_)
    · refine lv_iload_n hx hb dX5_init_105 rfl (lv_at hl 1 rfl) ?_
      exact tl _ (nN_m hc1 hc2)
    refine lv_bipush (v := 15) hx hb dX5_init_100 (by decide) ?_
    refine lv_goto (tgt := 106) hx hb dX5_init_102 (by decide) ?_
    exact tl _ (nN_15 hc2)
  refine lv_iconst (v := 1) hx hb dX5_init_90 (by decide) ?_
  refine lv_goto (tgt := 106) hx hb dX5_init_91 (by decide) ?_
  exact tl _ (nN_1 hc1)
