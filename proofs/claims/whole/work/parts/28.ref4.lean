def yP (B k : Nat) : Nat := min B (if k < 22 then xP k else 95)
theorem yP_in : ∀ k, k < 22 → (yP 95 k = xP k ∧ yP 95 (k + 1) = xP k + xZ k) ∧ (xI k < 8192 → yP 42 k = xP k ∧ yP 42 (k + 1) = xP k + xZ k) ∧ (¬ xI k < 8192 → yP 42 (k + 1) = yP 42 k) := by decide +kernel
theorem cpy_up0 (h f : Nat → Int32) (n : Nat) : upd (va_cpy h f 0 0 n) n (h n) = va_cpy h f 0 0 (n + 1) := by
  have := cpy_up h f 0 n
  rw [Nat.zero_add] at this
  exact this
theorem tv_0 : ∀ j, j < 4 → ((131473 : Int32) >>> (nI (8 * j) &&& 31)) &&& 255 = tF (xP 0 + j) := by decide +kernel
theorem tv_8 : ∀ j, j < 1 → (255 : Int32) = tF (xP 8 + j) := by decide +kernel
theorem tv_21 : ∀ j, j < 20 → nI (65 + j) = tF (xP 21 + j) := by decide +kernel
theorem tv_o : ∀ k, k < 22 → k ≠ 0 → k ≠ 8 → k ≠ 21 → ∀ j, j < xZ k → (0 : Int32) = tF (xP k + j) := by decide +kernel
theorem rel2_off {tr : TR} {t : RT} (h : rel2 tr t) (y : Int32 × Int32 × Int32 × Int32) : rel2 (tr_end tr) (t.1, 0, y) := by
  obtain ⟨e, d, ad, ⟨h1, h2, h3, h4, h5, h6⟩, h7, h8⟩ := h
  exact ⟨e, d, 0, ⟨h1, h2, h3, h4, rfl, by decide⟩, h7, Or.inl ⟨rfl, rfl, rfl⟩⟩
-- the maps live below place 42, what they name above it
theorem sm_congr {f g : Nat → Int32} {s : Nat} : ∀ n, (∀ i, i < n → g (s + i) = f (s + i)) → sm g s n = sm f s n := by
  intro n
  induction n with
  | zero => intro _; rfl
  | succ n ih =>
    intro h
    show sm g s n + bv g (s + n) * 2 ^ (8 * n) = sm f s n + bv f (s + n) * 2 ^ (8 * n)
    rw [ih (fun i hi => h i (by omega))]
    unfold bv
    rw [h n (by omega)]
theorem mE_low {f g : Nat → Int32} (h : ∀ j, j < 42 → g j = f j) {m r n : Nat} (hm : m = 3 ∨ m = 9) (h1 : 1 ≤ n) (h4 : n ≤ 4) : mE g m r n = mE f m r n := by
  unfold mE
  have hp : xP (m + n) + 4 ≤ 42 := by
    rcases hm with rfl | rfl
    · exact (by decide : ∀ n, n < 5 → 1 ≤ n → xP (3 + n) + 4 ≤ 42) n (by omega) h1
    · exact (by decide : ∀ n, n < 5 → 1 ≤ n → xP (9 + n) + 4 ≤ 42) n (by omega) h1
  rw [sm_congr 4 (fun i hi => h _ (by omega))]
theorem hi_e : ∀ e, e < 22 → xR e &&& 6 = 6 → 42 ≤ xP e := by decide
theorem pF_low {f : Nat → Int32} {s n x k : Nat} (h : 42 ≤ s) : ∀ j, j < 42 → pF f s n x k j = f j := by
  intro j hj
  unfold pF
  rw [if_neg (by omega)]
theorem mW_low (x : Nat) (f : Nat → Int32) : ∀ k, ∀ j, j < 42 → (mW 3 6 x f k).1 j = f j := by
  intro k
  induction k with
  | zero => intro j _; rfl
  | succ k ih =>
    intro j hj
    cases h : mE (mW 3 6 x f k).1 3 6 (k + 1) with
    | none => rw [mW_n h]; exact ih j hj
    | some e =>
      rw [mW_s h]
      obtain ⟨h1, -, h3⟩ := mp_lt h
      show pF _ _ _ _ _ j = _
      rw [pF_low (hi_e e h1 h3) j hj]
      exact ih j hj
theorem mW_mE (x : Nat) (f : Nat → Int32) (k : Nat) {n : Nat} (h1 : 1 ≤ n) (h4 : n ≤ 4) : mE (mW 3 6 x f k).1 3 6 n = mE f 3 6 n := mE_low (mW_low x f k) (Or.inl rfl) h1 h4
theorem mW_2 (x : Nat) (f : Nat → Int32) : ∀ k, k ≤ 4 → (mW 3 6 x f k).2 = mL f 3 6 k := by
  intro k
  induction k with
  | zero => intro _; rfl
  | succ k ih =>
    intro hk
    have ih := ih (by omega)
    have e1 := mW_mE x f k (n := k + 1) (by omega) hk
    cases h : mE f 3 6 (k + 1) with
    | none => rw [mW_n (e1.trans h), mL_n h]; exact ih
    | some e => rw [mW_s (e1.trans h), mL_s h]; show (mW 3 6 x f k).2 + xZ e = _; rw [ih]
theorem er16 {f : Nat → Int32} (hB : isB f) : upd f (xP 1) (f (xP 1) ||| 16) = pF f (xP 1) (xZ 1) (bv f 4 ||| 16) 0 := by
  have h0 := pF_up f 4 0 (bv f 4 ||| 16) 0
  rw [pF_0] at h0
  refine Eq.trans ?_ h0
  have h1 : f 4 ||| 16 = nI (bv f 4 ||| 16) := by
    rw [← nI_or, ← (bv_of hB 4).2]
    rfl
  have h2 : bN (bv f 4 ||| 16) (0 + 0) = bv f 4 ||| 16 := by
    show (bv f 4 ||| 16) / 1 % 256 = _
    rw [Nat.div_one, Nat.mod_eq_of_lt (or16 (bv_of hB 4).1)]
  rw [h2]
  show upd f 4 (f 4 ||| 16) = _
  rw [h1]
set_option maxHeartbeats 4000000 in
set_option maxRecDepth 100000 in
theorem r_reset95 (l : Launch) (D : va_G) (b : Nat → Nat) (cA cJ : ClassId) (N : Int32) (f : Nat → Int32) (z : Int32) (ob : OB) (t : RT) (nd : ND) (q : Int64) (sg th : Int32) (sz : Nat)   : Met l yX5_reset (wX5_reset :: wb) ({ frames := 0, cells := 0, slots := 0, locals := 0 } : Room) (va_Pc [.ref (b 0), .int 65536] (zPre D [(cA, .int), (cJ, .long)] (rw0 b cA cJ N f (ro z ob) t nd q sg th) sz)) (zb_Vv D vwCl (rw0 b cA cJ N (va_cpy tF f 0 0 95) (ro z ob) t nd q sg th) (va_A (rw0 b cA cJ N f (ro z ob) t nd q sg th) sz)) 0 0 (va_A (rw0 b cA cJ N f (ro z ob) t nd q sg th) sz) := by
  refine Met.ofW (cc := cX5_reset) (maxL := 5) (ret := none) (by decide) rfl ?_
  intro p ev s m args below meth c s₁ B hml hv
  obtain ⟨rfl, hsz, hP, hK, hD0, hSt, hnw⟩ := hv
  have hx := B.exec
  have hb := B.bytes
  have hr := B.returns
  have hts := atoms_spec (ws := wX5_reset :: wb) B.pre
  have htb : ∀ w ∈ wb, w.before ([.ref (b 0), .int 65536]).toArray s = true := fun w h => hts w (List.mem_cons_of_mem _ h)
  have hown : s.vm.findClass RX5 = some m.cls := findClass_of_methodNamed B.named
  have hlocks := B.notSynchronized
  subst hsz
  have hD := hD0.self (sz := s.heap.size)
  clear hD0
  generalize hAe : va_A (rw0 b cA cJ N f (ro z ob) t nd q sg th) s.heap.size = A at hD hSt ⊢
  have hA : ∀ q : Nat, s.heap.size ≤ q → A q := fun q h => by rw [← hAe]; exact Or.inr h
  have hS : va_S A s.heap s.heap [] := va_S.rf
  obtain ⟨⟨tt, ff, hZT, hTT, hZF, hTF⟩, hXS⟩ := id hSt
  have hl := lv_entry ([.ref (b 0), .int 65536]) (n := 5) (Nat.le_of_ble_eq_true rfl)
  rw [lg_entry_eq]
  generalize (lg_sl ([.ref (b 0), .int 65536]) ++ List.replicate (5 - (lg_sl ([.ref (b 0), .int 65536])).length) Slot.unset).toArray = ls at hl ⊢
  have hl : lv_has ls 5 [(0, .ref (b 0)), (1, .int 65536)] := hl
  refine zb_abs (fun Q hQ => ?_)
  refine lv_iconst (v := 0) hx hb dX5_reset_0 (by decide) ?_
  refine lv_istore_n hx hb dX5_reset_1 rfl hl (by decide) rfl (fun ls hl => ?_)
  have hl : lv_has ls 5 [(2, .int 0), (0, .ref (b 0)), (1, .int 65536)] := hl
  have e1 : (f : Nat → Int32) = (va_cpy tF f 0 0 (yP 95 (0))) := (cpy_0 tF f 0).symm
  have hP : va_P D vwCl (rw0 b cA cJ N (va_cpy tF f 0 0 (yP 95 (0))) (ro z ob) t nd q sg th) _ := Eq.mp (congrArg (fun zz9 : Nat → Int32 => va_P D vwCl (rw0 b cA cJ N zz9 (ro z ob) t nd q sg th) _) e1) hP
  have hD : va_D A (rw0 b cA cJ N (va_cpy tF f 0 0 (yP 95 (0))) (ro z ob) t nd q sg th) := Eq.mp (congrArg (fun zz9 : Nat → Int32 => va_D A (rw0 b cA cJ N zz9 (ro z ob) t nd q sg th)) e1) hD
  have lp : ∀ (nn k : Nat) (ls : Array Slot) (H : Heap) (locs : List Loc), va_P D vwCl (rw0 b cA cJ N (va_cpy tF f 0 0 (yP 95 (k))) (ro z ob) t nd q sg th) H → va_D A (rw0 b cA cJ N (va_cpy tF f 0 0 (yP 95 (k))) (ro z ob) t nd q sg th) → va_S A s.heap H locs → k + nn = 22 → lv_has ls 5 [(0, .ref (b 0)), (1, .int 65536), (2, .int (nI (k)))] → W p l ev ({ frames := 0, cells := 0, slots := 0, locals := 0 } : Room) s m ([.ref (b 0), .int 65536]).toArray below meth c H locs 0 0 Q (F0 m 2 ls []) := by
    intro nn
    induction nn with
    | zero =>
      intro k ls H locs hP hD hS hk_lp  hl
      have hk0_lp : k = 22 := by omega
      refine lv_iload_n hx hb dX5_reset_2 rfl (lv_at hl 2 rfl) ?_
      refine lv_bipush (v := 22) hx hb dX5_reset_3 (by decide) ?_
      refine lv_icmp_ge (tgt := 103) hx hb dX5_reset_5 (by decide) (fun _ => ?_) (fun hno => absurd (by rw [hk0_lp]; decide) hno)
      rw [hQ]
      have hw9 : (rw0 b cA cJ N (va_cpy tF f 0 0 (yP 95 (k))) (ro z ob) t nd q sg th) = (rw0 b cA cJ N (va_cpy tF f 0 0 95) (ro z ob) t nd q sg th) := by rw [hk0_lp]; rfl
      exact W.vret hx hb hr (fun t9 ht hW => ⟨rfl, by rw [ht, ← hw9]; exact hP, by rw [← hw9]; exact hD, hS.F ht⟩) hS.2.2 dX5_reset_103
    | succ nn ih_lp =>
      intro k ls H locs hP hD hS hk_lp  hl
      have hk1_lp : k < 22 := by omega
      refine lv_iload_n hx hb dX5_reset_2 rfl (lv_at hl 2 rfl) ?_
      refine lv_bipush (v := 22) hx hb dX5_reset_3 (by decide) ?_
      refine lv_icmp_ge (tgt := 103) hx hb dX5_reset_5 (by decide) (fun hno => absurd hno (nI_ge (a := k) (b := 22) hk1_lp (by decide))) (fun _ => ?_)
      have hy := yP_in k hk1_lp
      have hft := x_fit k hk1_lp
      have hal : xI k < 65536 := hft.2.2.2.1
      have hyk := hy.1
      refine lv_iconst (v := 0) hx hb dX5_reset_8 (by decide) ?_
      refine lv_istore_n hx hb dX5_reset_9 rfl hl (by decide) rfl (fun ls hl => ?_)
      have hl : lv_has ls 5 [(3, .int 0), (0, .ref (b 0)), (1, .int 65536), (2, .int (nI (k)))] := hl
      have e2 : ((va_cpy tF f 0 0 (yP 95 (k))) : Nat → Int32) = (va_cpy tF f 0 0 (xP k + (0))) := by rw [hyk.1]; rfl
      have hP : va_P D vwCl (rw0 b cA cJ N (va_cpy tF f 0 0 (xP k + (0))) (ro z ob) t nd q sg th) _ := Eq.mp (congrArg (fun zz9 : Nat → Int32 => va_P D vwCl (rw0 b cA cJ N zz9 (ro z ob) t nd q sg th) _) e2) hP
      have hD : va_D A (rw0 b cA cJ N (va_cpy tF f 0 0 (xP k + (0))) (ro z ob) t nd q sg th) := Eq.mp (congrArg (fun zz9 : Nat → Int32 => va_D A (rw0 b cA cJ N zz9 (ro z ob) t nd q sg th)) e2) hD
      have lq : ∀ (nn j : Nat) (ls : Array Slot) (H : Heap) (locs : List Loc), va_P D vwCl (rw0 b cA cJ N (va_cpy tF f 0 0 (xP k + (j))) (ro z ob) t nd q sg th) H → va_D A (rw0 b cA cJ N (va_cpy tF f 0 0 (xP k + (j))) (ro z ob) t nd q sg th) → va_S A s.heap H locs → j + nn = xZ k → lv_has ls 5 [(0, .ref (b 0)), (1, .int 65536), (2, .int (nI k)), (3, .int (nI (j)))] → W p l ev ({ frames := 0, cells := 0, slots := 0, locals := 0 } : Room) s m ([.ref (b 0), .int 65536]).toArray below meth c H locs 0 0 Q (F0 m 10 ls []) := by
        intro nn
        induction nn with
        | zero =>
          intro j ls H locs hP hD hS hk_lq  hl
          have hk0_lq : j = xZ k := by omega
          refine lv_iload_n hx hb dX5_reset_10 rfl (lv_at hl 3 rfl) ?_
          refine lv_aload_n hx hb dX5_reset_11 rfl (lv_at hl 0 rfl) ?_
          refine va_get (D := D) (ci := 5) (v := .ref (b 3)) (fs := [.int th, .int N, .ref (b 1), .ref (b 2), .ref (b 3), .ref (b 4), .ref (b 5), .ref (b 6), .int 22, .int 95, .int nd.1, .int nd.2.2.1, .int nd.2.1, .long nd.2.2.2, .int t.2.1, .int t.2.2.1, .int t.2.2.2.1, .int t.2.2.2.2.1, .int t.2.2.2.2.2, .ref (b 7), .long q, .int sg, .ref (b 8), .ref (b 9), .ref (b 10), .int ((ro z ob).2.2.2.1), .int ((ro z ob).2.2.2.2)]) (C := RX5) (T := TX5) (N := 27) hx hb htb inX5 hown hK hP 0 rfl rfl 4 (by decide) (htb _ kF_X5_16) (fun _ h9 => h9) rfl dX5_reset_12 ?_
          refine lv_iload_n hx hb dX5_reset_15 rfl (lv_at hl 2 rfl) ?_
          refine va_iald (i := nI k) hx hb hK hP 3 0 rfl rfl (vp_in_nI (by omega) (by decide)) dX5_reset_16 ?_
          refine zb_ti (y := nI (xZ k)) (by rw [nI_clamp (by omega)]) ?_
          refine lv_icmp_ge (tgt := 97) hx hb dX5_reset_17 (by decide) (fun _ => ?_) (fun hno => absurd (by rw [hk0_lq]; exact nI_le (Nat.le_refl _) (by omega)) hno)
          have e3 : ((va_cpy tF f 0 0 (xP k + (j))) : Nat → Int32) = (va_cpy tF f 0 0 (yP 95 (k + 1))) := by rw [hyk.2, hk0_lq]
          have hP : va_P D vwCl (rw0 b cA cJ N (va_cpy tF f 0 0 (yP 95 (k + 1))) (ro z ob) t nd q sg th) _ := Eq.mp (congrArg (fun zz9 : Nat → Int32 => va_P D vwCl (rw0 b cA cJ N zz9 (ro z ob) t nd q sg th) _) e3) hP
          have hD : va_D A (rw0 b cA cJ N (va_cpy tF f 0 0 (yP 95 (k + 1))) (ro z ob) t nd q sg th) := Eq.mp (congrArg (fun zz9 : Nat → Int32 => va_D A (rw0 b cA cJ N zz9 (ro z ob) t nd q sg th)) e3) hD
          refine lv_iinc (k := 2) (v := nI (k + 1)) hx hb dX5_reset_97 hl rfl (nI_1 k) (by decide) rfl (fun ls hl => ?_)
          have hl : lv_has ls 5 [(2, .int (nI (k + 1))), (0, .ref (b 0)), (1, .int 65536), (3, .int (nI (j)))] := hl
          refine lv_goto (tgt := 2) hx hb dX5_reset_100 (by decide) ?_
          exact ih_lp (k + 1) ls _ _ hP hD hS (by omega) (lv_sub hl [1, 2, 0] rfl)
        | succ nn ih_lq =>
          intro j ls H locs hP hD hS hk_lq  hl
          have hk1_lq : j < xZ k := by omega
          refine lv_iload_n hx hb dX5_reset_10 rfl (lv_at hl 3 rfl) ?_
          refine lv_aload_n hx hb dX5_reset_11 rfl (lv_at hl 0 rfl) ?_
          refine va_get (D := D) (ci := 5) (v := .ref (b 3)) (fs := [.int th, .int N, .ref (b 1), .ref (b 2), .ref (b 3), .ref (b 4), .ref (b 5), .ref (b 6), .int 22, .int 95, .int nd.1, .int nd.2.2.1, .int nd.2.1, .long nd.2.2.2, .int t.2.1, .int t.2.2.1, .int t.2.2.2.1, .int t.2.2.2.2.1, .int t.2.2.2.2.2, .ref (b 7), .long q, .int sg, .ref (b 8), .ref (b 9), .ref (b 10), .int ((ro z ob).2.2.2.1), .int ((ro z ob).2.2.2.2)]) (C := RX5) (T := TX5) (N := 27) hx hb htb inX5 hown hK hP 0 rfl rfl 4 (by decide) (htb _ kF_X5_16) (fun _ h9 => h9) rfl dX5_reset_12 ?_
          refine lv_iload_n hx hb dX5_reset_15 rfl (lv_at hl 2 rfl) ?_
          refine va_iald (i := nI k) hx hb hK hP 3 0 rfl rfl (vp_in_nI (by omega) (by decide)) dX5_reset_16 ?_
          refine zb_ti (y := nI (xZ k)) (by rw [nI_clamp (by omega)]) ?_
          refine lv_icmp_ge (tgt := 97) hx hb dX5_reset_17 (by decide) (fun hno => absurd hno (nI_ge (a := j) (b := xZ k) hk1_lq (by omega))) (fun _ => ?_)
          refine lv_aload_n hx hb dX5_reset_20 rfl (lv_at hl 0 rfl) ?_
          refine va_get (D := D) (ci := 5) (v := .ref (b 1)) (fs := [.int th, .int N, .ref (b 1), .ref (b 2), .ref (b 3), .ref (b 4), .ref (b 5), .ref (b 6), .int 22, .int 95, .int nd.1, .int nd.2.2.1, .int nd.2.1, .long nd.2.2.2, .int t.2.1, .int t.2.2.1, .int t.2.2.2.1, .int t.2.2.2.2.1, .int t.2.2.2.2.2, .ref (b 7), .long q, .int sg, .ref (b 8), .ref (b 9), .ref (b 10), .int ((ro z ob).2.2.2.1), .int ((ro z ob).2.2.2.2)]) (C := RX5) (T := TX5) (N := 27) hx hb htb inX5 hown hK hP 0 rfl rfl 2 (by decide) (htb _ kF_X5_7) (fun _ h9 => h9) rfl dX5_reset_21 ?_
          refine lv_iload_n hx hb dX5_reset_24 rfl (lv_at hl 2 rfl) ?_
          refine va_iald (i := nI k) hx hb hK hP 1 0 rfl rfl (vp_in_nI (by omega) (by decide)) dX5_reset_25 ?_
          refine zb_ti (y := nI (xI k)) (by rw [nI_clamp (by omega)]) ?_
          refine lv_iload_n hx hb dX5_reset_26 rfl (lv_at hl 1 rfl) ?_
          refine lv_icmp_ge (tgt := 97) hx hb dX5_reset_27 (by decide) (fun hno => absurd hno (nI_ge (a := xI k) (b := 65536) hal (by decide))) (fun _ => ?_)
          refine lv_iload_n hx hb dX5_reset_30 rfl (lv_at hl 2 rfl) ?_
          refine lv_if_ne (tgt := 48) hx hb dX5_reset_31 (by decide) (fun hc4 => ?_) (fun hc4 => ?_)
          · refine lv_iload_n hx hb dX5_reset_48 rfl (lv_at hl 2 rfl) ?_
            refine lv_bipush (v := 8) hx hb dX5_reset_49 (by decide) ?_
            refine lv_icmp_ne (tgt := 60) hx hb dX5_reset_51 (by decide) (fun hc5 => ?_) (fun hc5 => ?_)
            · refine lv_iload_n hx hb dX5_reset_60 rfl (lv_at hl 2 rfl) ?_
              refine lv_bipush (v := 21) hx hb dX5_reset_61 (by decide) ?_
              refine lv_icmp_ne (tgt := 73) hx hb dX5_reset_63 (by decide) (fun hc6 => ?_) (fun hc6 => ?_)
              · refine lv_iconst (v := 0) hx hb dX5_reset_73 (by decide) ?_
                refine lv_istore hx hb dX5_reset_74 hl (by decide) rfl (fun ls hl => ?_)
                have hl : lv_has ls 5 [(4, .int 0), (0, .ref (b 0)), (1, .int 65536), (2, .int (nI k)), (3, .int (nI (j)))] := hl
                refine lv_aload_n hx hb dX5_reset_76 rfl (lv_at hl 1 rfl) ?_
                refine va_get (D := D) (ci := 5) (v := .ref (b 6)) (fs := [.int th, .int N, .ref (b 1), .ref (b 2), .ref (b 3), .ref (b 4), .ref (b 5), .ref (b 6), .int 22, .int 95, .int nd.1, .int nd.2.2.1, .int nd.2.1, .long nd.2.2.2, .int t.2.1, .int t.2.2.1, .int t.2.2.2.1, .int t.2.2.2.2.1, .int t.2.2.2.2.2, .ref (b 7), .long q, .int sg, .ref (b 8), .ref (b 9), .ref (b 10), .int ((ro z ob).2.2.2.1), .int ((ro z ob).2.2.2.2)]) (C := RX5) (T := TX5) (N := 27) hx hb htb inX5 hown hK hP 0 rfl rfl 7 (by decide) (htb _ kF_X5_25) (fun _ h9 => h9) rfl dX5_reset_77 ?_
                refine lv_aload_n hx hb dX5_reset_80 rfl (lv_at hl 1 rfl) ?_
                refine va_get (D := D) (ci := 5) (v := .ref (b 5)) (fs := [.int th, .int N, .ref (b 1), .ref (b 2), .ref (b 3), .ref (b 4), .ref (b 5), .ref (b 6), .int 22, .int 95, .int nd.1, .int nd.2.2.1, .int nd.2.1, .long nd.2.2.2, .int t.2.1, .int t.2.2.1, .int t.2.2.2.1, .int t.2.2.2.2.1, .int t.2.2.2.2.2, .ref (b 7), .long q, .int sg, .ref (b 8), .ref (b 9), .ref (b 10), .int ((ro z ob).2.2.2.1), .int ((ro z ob).2.2.2.2)]) (C := RX5) (T := TX5) (N := 27) hx hb htb inX5 hown hK hP 0 rfl rfl 6 (by decide) (htb _ kF_X5_22) (fun _ h9 => h9) rfl dX5_reset_81 ?_
                refine lv_iload_n hx hb dX5_reset_84 rfl (lv_at hl 3 rfl) ?_
                refine va_iald (i := nI k) hx hb hK hP 5 0 rfl rfl (vp_in_nI (by omega) (by decide)) dX5_reset_85 ?_
                refine zb_ti (y := nI (xP k)) (by rw [nI_clamp (by omega)]) ?_
                refine lv_iload_n hx hb dX5_reset_86 rfl (lv_at hl 4 rfl) ?_
                refine lv_iadd hx hb dX5_reset_87 ?_
                refine zb_ti (nI_add (xP k) (j)) ?_
                refine lv_iload hx hb dX5_reset_88 (lv_at hl 0 rfl) ?_
                refine zb_ti (y := tF (xP k + j)) (tv_o k hk1_lp (fun h => hc4 (by rw [h]; rfl)) (fun h => hc5 (by rw [h]; rfl)) (fun h => hc6 (by rw [h]; rfl)) j hk1_lq) ?_
                refine va_iast (i := nI ((xP k) + (j))) (x := tF (xP k + j)) hx hb hK hP hD hS 6 0 rfl rfl (vp_in_nI (by omega) (by decide)) dX5_reset_90 (fun H locs hP hD hS => ?_)
                rw [nI_clamp (by omega)] at hP hD
                have hP : va_P D vwCl (rw0 b cA cJ N (upd (va_cpy tF f 0 0 (xP k + (j))) ((xP k) + (j)) (tF (xP k + j))) (ro z ob) t nd q sg th) H := hP
                have hD : va_D A (rw0 b cA cJ N (upd (va_cpy tF f 0 0 (xP k + (j))) ((xP k) + (j)) (tF (xP k + j))) (ro z ob) t nd q sg th) := hD
                rw [cpy_up0] at hP hD
                have hP : va_P D vwCl (rw0 b cA cJ N (va_cpy tF f 0 0 (xP k + (j + 1))) (ro z ob) t nd q sg th) H := hP
                have hD : va_D A (rw0 b cA cJ N (va_cpy tF f 0 0 (xP k + (j + 1))) (ro z ob) t nd q sg th) := hD
                refine lv_iinc (k := 4) (v := nI ((j) + 1)) hx hb dX5_reset_91 hl rfl (nI_1 (j)) (by decide) rfl (fun ls hl => ?_)
                have hl : lv_has ls 5 [(3, .int (nI ((j) + 1))), (4, .int 0), (0, .ref (b 0)), (1, .int 65536), (2, .int (nI k))] := hl
                refine lv_goto (tgt := 10) hx hb dX5_reset_94 (by decide) ?_
                exact ih_lq (j + 1) ls _ _ hP hD hS (by omega) (lv_sub hl [2, 3, 4, 0] rfl)
              refine lv_bipush (v := 65) hx hb dX5_reset_66 (by decide) ?_
              refine lv_iload_n hx hb dX5_reset_68 rfl (lv_at hl 3 rfl) ?_
              refine lv_iadd hx hb dX5_reset_69 ?_
              refine zb_ti (nI_add 65 (j)) ?_
              refine lv_goto (tgt := 74) hx hb dX5_reset_70 (by decide) ?_
              refine lv_istore hx hb dX5_reset_74 hl (by decide) rfl (fun ls hl => ?_)
              have hl : lv_has ls 5 [(4, .int (nI (65 + (j)))), (0, .ref (b 0)), (1, .int 65536), (2, .int (nI k)), (3, .int (nI (j)))] := hl
              refine lv_aload_n hx hb dX5_reset_76 rfl (lv_at hl 1 rfl) ?_
              refine va_get (D := D) (ci := 5) (v := .ref (b 6)) (fs := [.int th, .int N, .ref (b 1), .ref (b 2), .ref (b 3), .ref (b 4), .ref (b 5), .ref (b 6), .int 22, .int 95, .int nd.1, .int nd.2.2.1, .int nd.2.1, .long nd.2.2.2, .int t.2.1, .int t.2.2.1, .int t.2.2.2.1, .int t.2.2.2.2.1, .int t.2.2.2.2.2, .ref (b 7), .long q, .int sg, .ref (b 8), .ref (b 9), .ref (b 10), .int ((ro z ob).2.2.2.1), .int ((ro z ob).2.2.2.2)]) (C := RX5) (T := TX5) (N := 27) hx hb htb inX5 hown hK hP 0 rfl rfl 7 (by decide) (htb _ kF_X5_25) (fun _ h9 => h9) rfl dX5_reset_77 ?_
              refine lv_aload_n hx hb dX5_reset_80 rfl (lv_at hl 1 rfl) ?_
              refine va_get (D := D) (ci := 5) (v := .ref (b 5)) (fs := [.int th, .int N, .ref (b 1), .ref (b 2), .ref (b 3), .ref (b 4), .ref (b 5), .ref (b 6), .int 22, .int 95, .int nd.1, .int nd.2.2.1, .int nd.2.1, .long nd.2.2.2, .int t.2.1, .int t.2.2.1, .int t.2.2.2.1, .int t.2.2.2.2.1, .int t.2.2.2.2.2, .ref (b 7), .long q, .int sg, .ref (b 8), .ref (b 9), .ref (b 10), .int ((ro z ob).2.2.2.1), .int ((ro z ob).2.2.2.2)]) (C := RX5) (T := TX5) (N := 27) hx hb htb inX5 hown hK hP 0 rfl rfl 6 (by decide) (htb _ kF_X5_22) (fun _ h9 => h9) rfl dX5_reset_81 ?_
              refine lv_iload_n hx hb dX5_reset_84 rfl (lv_at hl 3 rfl) ?_
              refine va_iald (i := nI k) hx hb hK hP 5 0 rfl rfl (vp_in_nI (by omega) (by decide)) dX5_reset_85 ?_
              refine zb_ti (y := nI (xP k)) (by rw [nI_clamp (by omega)]) ?_
              refine lv_iload_n hx hb dX5_reset_86 rfl (lv_at hl 4 rfl) ?_
              refine lv_iadd hx hb dX5_reset_87 ?_
              refine zb_ti (nI_add (xP k) (j)) ?_
              refine lv_iload hx hb dX5_reset_88 (lv_at hl 0 rfl) ?_
              have hk9 : k = 21 := ((nI_eq (a := k) (b := 21) (by omega) (by decide)).mp hc6)
              refine zb_ti (y := tF (xP k + j)) (by subst hk9; exact tv_21 j hk1_lq) ?_
              refine va_iast (i := nI ((xP k) + (j))) (x := tF (xP k + j)) hx hb hK hP hD hS 6 0 rfl rfl (vp_in_nI (by omega) (by decide)) dX5_reset_90 (fun H locs hP hD hS => ?_)
              rw [nI_clamp (by omega)] at hP hD
              have hP : va_P D vwCl (rw0 b cA cJ N (upd (va_cpy tF f 0 0 (xP k + (j))) ((xP k) + (j)) (tF (xP k + j))) (ro z ob) t nd q sg th) H := hP
              have hD : va_D A (rw0 b cA cJ N (upd (va_cpy tF f 0 0 (xP k + (j))) ((xP k) + (j)) (tF (xP k + j))) (ro z ob) t nd q sg th) := hD
              rw [cpy_up0] at hP hD
              have hP : va_P D vwCl (rw0 b cA cJ N (va_cpy tF f 0 0 (xP k + (j + 1))) (ro z ob) t nd q sg th) H := hP
              have hD : va_D A (rw0 b cA cJ N (va_cpy tF f 0 0 (xP k + (j + 1))) (ro z ob) t nd q sg th) := hD
              refine lv_iinc (k := 4) (v := nI ((j) + 1)) hx hb dX5_reset_91 hl rfl (nI_1 (j)) (by decide) rfl (fun ls hl => ?_)
              have hl : lv_has ls 5 [(3, .int (nI ((j) + 1))), (4, .int (nI (65 + (j)))), (0, .ref (b 0)), (1, .int 65536), (2, .int (nI k))] := hl
              refine lv_goto (tgt := 10) hx hb dX5_reset_94 (by decide) ?_
              exact ih_lq (j + 1) ls _ _ hP hD hS (by omega) (lv_sub hl [2, 3, 4, 0] rfl)
            refine lv_sipush (v := 255) hx hb dX5_reset_54 (by decide) ?_
            refine lv_goto (tgt := 74) hx hb dX5_reset_57 (by decide) ?_
            refine lv_istore hx hb dX5_reset_74 hl (by decide) rfl (fun ls hl => ?_)
            have hl : lv_has ls 5 [(4, .int 255), (0, .ref (b 0)), (1, .int 65536), (2, .int (nI k)), (3, .int (nI (j)))] := hl
            refine lv_aload_n hx hb dX5_reset_76 rfl (lv_at hl 1 rfl) ?_
            refine va_get (D := D) (ci := 5) (v := .ref (b 6)) (fs := [.int th, .int N, .ref (b 1), .ref (b 2), .ref (b 3), .ref (b 4), .ref (b 5), .ref (b 6), .int 22, .int 95, .int nd.1, .int nd.2.2.1, .int nd.2.1, .long nd.2.2.2, .int t.2.1, .int t.2.2.1, .int t.2.2.2.1, .int t.2.2.2.2.1, .int t.2.2.2.2.2, .ref (b 7), .long q, .int sg, .ref (b 8), .ref (b 9), .ref (b 10), .int ((ro z ob).2.2.2.1), .int ((ro z ob).2.2.2.2)]) (C := RX5) (T := TX5) (N := 27) hx hb htb inX5 hown hK hP 0 rfl rfl 7 (by decide) (htb _ kF_X5_25) (fun _ h9 => h9) rfl dX5_reset_77 ?_
            refine lv_aload_n hx hb dX5_reset_80 rfl (lv_at hl 1 rfl) ?_
            refine va_get (D := D) (ci := 5) (v := .ref (b 5)) (fs := [.int th, .int N, .ref (b 1), .ref (b 2), .ref (b 3), .ref (b 4), .ref (b 5), .ref (b 6), .int 22, .int 95, .int nd.1, .int nd.2.2.1, .int nd.2.1, .long nd.2.2.2, .int t.2.1, .int t.2.2.1, .int t.2.2.2.1, .int t.2.2.2.2.1, .int t.2.2.2.2.2, .ref (b 7), .long q, .int sg, .ref (b 8), .ref (b 9), .ref (b 10), .int ((ro z ob).2.2.2.1), .int ((ro z ob).2.2.2.2)]) (C := RX5) (T := TX5) (N := 27) hx hb htb inX5 hown hK hP 0 rfl rfl 6 (by decide) (htb _ kF_X5_22) (fun _ h9 => h9) rfl dX5_reset_81 ?_
            refine lv_iload_n hx hb dX5_reset_84 rfl (lv_at hl 3 rfl) ?_
            refine va_iald (i := nI k) hx hb hK hP 5 0 rfl rfl (vp_in_nI (by omega) (by decide)) dX5_reset_85 ?_
            refine zb_ti (y := nI (xP k)) (by rw [nI_clamp (by omega)]) ?_
            refine lv_iload_n hx hb dX5_reset_86 rfl (lv_at hl 4 rfl) ?_
            refine lv_iadd hx hb dX5_reset_87 ?_
            refine zb_ti (nI_add (xP k) (j)) ?_
            refine lv_iload hx hb dX5_reset_88 (lv_at hl 0 rfl) ?_
            have hk9 : k = 8 := ((nI_eq (a := k) (b := 8) (by omega) (by decide)).mp hc5)
            refine zb_ti (y := tF (xP k + j)) (by subst hk9; exact tv_8 j hk1_lq) ?_
            refine va_iast (i := nI ((xP k) + (j))) (x := tF (xP k + j)) hx hb hK hP hD hS 6 0 rfl rfl (vp_in_nI (by omega) (by decide)) dX5_reset_90 (fun H locs hP hD hS => ?_)
            rw [nI_clamp (by omega)] at hP hD
            have hP : va_P D vwCl (rw0 b cA cJ N (upd (va_cpy tF f 0 0 (xP k + (j))) ((xP k) + (j)) (tF (xP k + j))) (ro z ob) t nd q sg th) H := hP
            have hD : va_D A (rw0 b cA cJ N (upd (va_cpy tF f 0 0 (xP k + (j))) ((xP k) + (j)) (tF (xP k + j))) (ro z ob) t nd q sg th) := hD
            rw [cpy_up0] at hP hD
            have hP : va_P D vwCl (rw0 b cA cJ N (va_cpy tF f 0 0 (xP k + (j + 1))) (ro z ob) t nd q sg th) H := hP
            have hD : va_D A (rw0 b cA cJ N (va_cpy tF f 0 0 (xP k + (j + 1))) (ro z ob) t nd q sg th) := hD
            refine lv_iinc (k := 4) (v := nI ((j) + 1)) hx hb dX5_reset_91 hl rfl (nI_1 (j)) (by decide) rfl (fun ls hl => ?_)
            have hl : lv_has ls 5 [(3, .int (nI ((j) + 1))), (4, .int 255), (0, .ref (b 0)), (1, .int 65536), (2, .int (nI k))] := hl
            refine lv_goto (tgt := 10) hx hb dX5_reset_94 (by decide) ?_
            exact ih_lq (j + 1) ls _ _ hP hD hS (by omega) (lv_sub hl [2, 3, 4, 0] rfl)
          refine lv_ldc (v := 131473) hx hb hown (htb _ kK_X5_66) dX5_reset_34 ?_
          refine lv_bipush (v := 8) hx hb dX5_reset_36 (by decide) ?_
          refine lv_iload_n hx hb dX5_reset_38 rfl (lv_at hl 3 rfl) ?_
          refine lv_imul hx hb dX5_reset_39 ?_
          refine zb_ti (pk_mul 8 (j)) ?_
          refine lv_ishr hx hb dX5_reset_40 ?_
          refine lv_sipush (v := 255) hx hb dX5_reset_41 (by decide) ?_
          refine lv_iand hx hb dX5_reset_44 ?_
          refine lv_goto (tgt := 74) hx hb dX5_reset_45 (by decide) ?_
          refine lv_istore hx hb dX5_reset_74 hl (by decide) rfl (fun ls hl => ?_)
          have hl : lv_has ls 5 [(4, .int ((131473 >>> ((nI (8 * (j))) &&& 31)) &&& 255)), (0, .ref (b 0)), (1, .int 65536), (2, .int (nI k)), (3, .int (nI (j)))] := hl
          refine lv_aload_n hx hb dX5_reset_76 rfl (lv_at hl 1 rfl) ?_
          refine va_get (D := D) (ci := 5) (v := .ref (b 6)) (fs := [.int th, .int N, .ref (b 1), .ref (b 2), .ref (b 3), .ref (b 4), .ref (b 5), .ref (b 6), .int 22, .int 95, .int nd.1, .int nd.2.2.1, .int nd.2.1, .long nd.2.2.2, .int t.2.1, .int t.2.2.1, .int t.2.2.2.1, .int t.2.2.2.2.1, .int t.2.2.2.2.2, .ref (b 7), .long q, .int sg, .ref (b 8), .ref (b 9), .ref (b 10), .int ((ro z ob).2.2.2.1), .int ((ro z ob).2.2.2.2)]) (C := RX5) (T := TX5) (N := 27) hx hb htb inX5 hown hK hP 0 rfl rfl 7 (by decide) (htb _ kF_X5_25) (fun _ h9 => h9) rfl dX5_reset_77 ?_
          refine lv_aload_n hx hb dX5_reset_80 rfl (lv_at hl 1 rfl) ?_
          refine va_get (D := D) (ci := 5) (v := .ref (b 5)) (fs := [.int th, .int N, .ref (b 1), .ref (b 2), .ref (b 3), .ref (b 4), .ref (b 5), .ref (b 6), .int 22, .int 95, .int nd.1, .int nd.2.2.1, .int nd.2.1, .long nd.2.2.2, .int t.2.1, .int t.2.2.1, .int t.2.2.2.1, .int t.2.2.2.2.1, .int t.2.2.2.2.2, .ref (b 7), .long q, .int sg, .ref (b 8), .ref (b 9), .ref (b 10), .int ((ro z ob).2.2.2.1), .int ((ro z ob).2.2.2.2)]) (C := RX5) (T := TX5) (N := 27) hx hb htb inX5 hown hK hP 0 rfl rfl 6 (by decide) (htb _ kF_X5_22) (fun _ h9 => h9) rfl dX5_reset_81 ?_
          refine lv_iload_n hx hb dX5_reset_84 rfl (lv_at hl 3 rfl) ?_
          refine va_iald (i := nI k) hx hb hK hP 5 0 rfl rfl (vp_in_nI (by omega) (by decide)) dX5_reset_85 ?_
          refine zb_ti (y := nI (xP k)) (by rw [nI_clamp (by omega)]) ?_
          refine lv_iload_n hx hb dX5_reset_86 rfl (lv_at hl 4 rfl) ?_
          refine lv_iadd hx hb dX5_reset_87 ?_
          refine zb_ti (nI_add (xP k) (j)) ?_
          refine lv_iload hx hb dX5_reset_88 (lv_at hl 0 rfl) ?_
          have hk9 : k = 0 := ((nI_eq (a := k) (b := 0) (by omega) (by decide)).mp hc4)
          refine zb_ti (y := tF (xP k + j)) (by subst hk9; exact tv_0 j hk1_lq) ?_
          refine va_iast (i := nI ((xP k) + (j))) (x := tF (xP k + j)) hx hb hK hP hD hS 6 0 rfl rfl (vp_in_nI (by omega) (by decide)) dX5_reset_90 (fun H locs hP hD hS => ?_)
          rw [nI_clamp (by omega)] at hP hD
          have hP : va_P D vwCl (rw0 b cA cJ N (upd (va_cpy tF f 0 0 (xP k + (j))) ((xP k) + (j)) (tF (xP k + j))) (ro z ob) t nd q sg th) H := hP
          have hD : va_D A (rw0 b cA cJ N (upd (va_cpy tF f 0 0 (xP k + (j))) ((xP k) + (j)) (tF (xP k + j))) (ro z ob) t nd q sg th) := hD
          rw [cpy_up0] at hP hD
          have hP : va_P D vwCl (rw0 b cA cJ N (va_cpy tF f 0 0 (xP k + (j + 1))) (ro z ob) t nd q sg th) H := hP
          have hD : va_D A (rw0 b cA cJ N (va_cpy tF f 0 0 (xP k + (j + 1))) (ro z ob) t nd q sg th) := hD
          refine lv_iinc (k := 4) (v := nI ((j) + 1)) hx hb dX5_reset_91 hl rfl (nI_1 (j)) (by decide) rfl (fun ls hl => ?_)
          have hl : lv_has ls 5 [(3, .int (nI ((j) + 1))), (4, .int ((131473 >>> ((nI (8 * (j))) &&& 31)) &&& 255)), (0, .ref (b 0)), (1, .int 65536), (2, .int (nI k))] := hl
          refine lv_goto (tgt := 10) hx hb dX5_reset_94 (by decide) ?_
          exact ih_lq (j + 1) ls _ _ hP hD hS (by omega) (lv_sub hl [2, 3, 4, 0] rfl)
      exact lq (xZ k - 0) (0) ls _ _ hP hD hS (by omega) (lv_sub hl [1, 2, 3, 0] rfl)
  exact lp (22 - 0) (0) ls _ _ hP hD hS (by omega) (lv_sub hl [1, 2, 0] rfl)
set_option maxHeartbeats 4000000 in
set_option maxRecDepth 100000 in
theorem r_reset42 (l : Launch) (D : va_G) (b : Nat → Nat) (cA cJ : ClassId) (N : Int32) (f : Nat → Int32) (z : Int32) (ob : OB) (t : RT) (nd : ND) (q : Int64) (sg th : Int32) (sz : Nat)   : Met l yX5_reset (wX5_reset :: wb) ({ frames := 0, cells := 0, slots := 0, locals := 0 } : Room) (va_Pc [.ref (b 0), .int 8192] (zPre D [(cA, .int), (cJ, .long)] (rw0 b cA cJ N f (ro z ob) t nd q sg th) sz)) (zb_Vv D vwCl (rw0 b cA cJ N (va_cpy tF f 0 0 42) (ro z ob) t nd q sg th) (va_A (rw0 b cA cJ N f (ro z ob) t nd q sg th) sz)) 0 0 (va_A (rw0 b cA cJ N f (ro z ob) t nd q sg th) sz) := by
  refine Met.ofW (cc := cX5_reset) (maxL := 5) (ret := none) (by decide) rfl ?_
  intro p ev s m args below meth c s₁ B hml hv
  obtain ⟨rfl, hsz, hP, hK, hD0, hSt, hnw⟩ := hv
  have hx := B.exec
  have hb := B.bytes
  have hr := B.returns
  have hts := atoms_spec (ws := wX5_reset :: wb) B.pre
  have htb : ∀ w ∈ wb, w.before ([.ref (b 0), .int 8192]).toArray s = true := fun w h => hts w (List.mem_cons_of_mem _ h)
  have hown : s.vm.findClass RX5 = some m.cls := findClass_of_methodNamed B.named
  have hlocks := B.notSynchronized
  subst hsz
  have hD := hD0.self (sz := s.heap.size)
  clear hD0
  generalize hAe : va_A (rw0 b cA cJ N f (ro z ob) t nd q sg th) s.heap.size = A at hD hSt ⊢
  have hA : ∀ q : Nat, s.heap.size ≤ q → A q := fun q h => by rw [← hAe]; exact Or.inr h
  have hS : va_S A s.heap s.heap [] := va_S.rf
  obtain ⟨⟨tt, ff, hZT, hTT, hZF, hTF⟩, hXS⟩ := id hSt
  have hl := lv_entry ([.ref (b 0), .int 8192]) (n := 5) (Nat.le_of_ble_eq_true rfl)
  rw [lg_entry_eq]
  generalize (lg_sl ([.ref (b 0), .int 8192]) ++ List.replicate (5 - (lg_sl ([.ref (b 0), .int 8192])).length) Slot.unset).toArray = ls at hl ⊢
  have hl : lv_has ls 5 [(0, .ref (b 0)), (1, .int 8192)] := hl
  refine zb_abs (fun Q hQ => ?_)
  refine lv_iconst (v := 0) hx hb dX5_reset_0 (by decide) ?_
  refine lv_istore_n hx hb dX5_reset_1 rfl hl (by decide) rfl (fun ls hl => ?_)
  have hl : lv_has ls 5 [(2, .int 0), (0, .ref (b 0)), (1, .int 8192)] := hl
  have e1 : (f : Nat → Int32) = (va_cpy tF f 0 0 (yP 42 (0))) := (cpy_0 tF f 0).symm
  have hP : va_P D vwCl (rw0 b cA cJ N (va_cpy tF f 0 0 (yP 42 (0))) (ro z ob) t nd q sg th) _ := Eq.mp (congrArg (fun zz9 : Nat → Int32 => va_P D vwCl (rw0 b cA cJ N zz9 (ro z ob) t nd q sg th) _) e1) hP
  have hD : va_D A (rw0 b cA cJ N (va_cpy tF f 0 0 (yP 42 (0))) (ro z ob) t nd q sg th) := Eq.mp (congrArg (fun zz9 : Nat → Int32 => va_D A (rw0 b cA cJ N zz9 (ro z ob) t nd q sg th)) e1) hD
  have lp : ∀ (nn k : Nat) (ls : Array Slot) (H : Heap) (locs : List Loc), va_P D vwCl (rw0 b cA cJ N (va_cpy tF f 0 0 (yP 42 (k))) (ro z ob) t nd q sg th) H → va_D A (rw0 b cA cJ N (va_cpy tF f 0 0 (yP 42 (k))) (ro z ob) t nd q sg th) → va_S A s.heap H locs → k + nn = 22 → lv_has ls 5 [(0, .ref (b 0)), (1, .int 8192), (2, .int (nI (k)))] → W p l ev ({ frames := 0, cells := 0, slots := 0, locals := 0 } : Room) s m ([.ref (b 0), .int 8192]).toArray below meth c H locs 0 0 Q (F0 m 2 ls []) := by
    intro nn
    induction nn with
    | zero =>
      intro k ls H locs hP hD hS hk_lp  hl
      have hk0_lp : k = 22 := by omega
      refine lv_iload_n hx hb dX5_reset_2 rfl (lv_at hl 2 rfl) ?_
      refine lv_bipush (v := 22) hx hb dX5_reset_3 (by decide) ?_
      refine lv_icmp_ge (tgt := 103) hx hb dX5_reset_5 (by decide) (fun _ => ?_) (fun hno => absurd (by rw [hk0_lp]; decide) hno)
      rw [hQ]
      have hw9 : (rw0 b cA cJ N (va_cpy tF f 0 0 (yP 42 (k))) (ro z ob) t nd q sg th) = (rw0 b cA cJ N (va_cpy tF f 0 0 42) (ro z ob) t nd q sg th) := by rw [hk0_lp]; rfl
      exact W.vret hx hb hr (fun t9 ht hW => ⟨rfl, by rw [ht, ← hw9]; exact hP, by rw [← hw9]; exact hD, hS.F ht⟩) hS.2.2 dX5_reset_103
    | succ nn ih_lp =>
      intro k ls H locs hP hD hS hk_lp  hl
      have hk1_lp : k < 22 := by omega
      refine lv_iload_n hx hb dX5_reset_2 rfl (lv_at hl 2 rfl) ?_
      refine lv_bipush (v := 22) hx hb dX5_reset_3 (by decide) ?_
      refine lv_icmp_ge (tgt := 103) hx hb dX5_reset_5 (by decide) (fun hno => absurd hno (nI_ge (a := k) (b := 22) hk1_lp (by decide))) (fun _ => ?_)
      have hy := yP_in k hk1_lp
      have hft := x_fit k hk1_lp
      by_cases hc2 : xI k < 8192
      · have hal : xI k < 8192 := hc2
        have hyk := hy.2.1 hal
        refine lv_iconst (v := 0) hx hb dX5_reset_8 (by decide) ?_
        refine lv_istore_n hx hb dX5_reset_9 rfl hl (by decide) rfl (fun ls hl => ?_)
        have hl : lv_has ls 5 [(3, .int 0), (0, .ref (b 0)), (1, .int 8192), (2, .int (nI (k)))] := hl
        have e3 : ((va_cpy tF f 0 0 (yP 42 (k))) : Nat → Int32) = (va_cpy tF f 0 0 (xP k + (0))) := by rw [hyk.1]; rfl
        have hP : va_P D vwCl (rw0 b cA cJ N (va_cpy tF f 0 0 (xP k + (0))) (ro z ob) t nd q sg th) _ := Eq.mp (congrArg (fun zz9 : Nat → Int32 => va_P D vwCl (rw0 b cA cJ N zz9 (ro z ob) t nd q sg th) _) e3) hP
        have hD : va_D A (rw0 b cA cJ N (va_cpy tF f 0 0 (xP k + (0))) (ro z ob) t nd q sg th) := Eq.mp (congrArg (fun zz9 : Nat → Int32 => va_D A (rw0 b cA cJ N zz9 (ro z ob) t nd q sg th)) e3) hD
        have lq : ∀ (nn j : Nat) (ls : Array Slot) (H : Heap) (locs : List Loc), va_P D vwCl (rw0 b cA cJ N (va_cpy tF f 0 0 (xP k + (j))) (ro z ob) t nd q sg th) H → va_D A (rw0 b cA cJ N (va_cpy tF f 0 0 (xP k + (j))) (ro z ob) t nd q sg th) → va_S A s.heap H locs → j + nn = xZ k → lv_has ls 5 [(0, .ref (b 0)), (1, .int 8192), (2, .int (nI k)), (3, .int (nI (j)))] → W p l ev ({ frames := 0, cells := 0, slots := 0, locals := 0 } : Room) s m ([.ref (b 0), .int 8192]).toArray below meth c H locs 0 0 Q (F0 m 10 ls []) := by
          intro nn
          induction nn with
          | zero =>
            intro j ls H locs hP hD hS hk_lq  hl
            have hk0_lq : j = xZ k := by omega
            refine lv_iload_n hx hb dX5_reset_10 rfl (lv_at hl 3 rfl) ?_
            refine lv_aload_n hx hb dX5_reset_11 rfl (lv_at hl 0 rfl) ?_
            refine va_get (D := D) (ci := 5) (v := .ref (b 3)) (fs := [.int th, .int N, .ref (b 1), .ref (b 2), .ref (b 3), .ref (b 4), .ref (b 5), .ref (b 6), .int 22, .int 95, .int nd.1, .int nd.2.2.1, .int nd.2.1, .long nd.2.2.2, .int t.2.1, .int t.2.2.1, .int t.2.2.2.1, .int t.2.2.2.2.1, .int t.2.2.2.2.2, .ref (b 7), .long q, .int sg, .ref (b 8), .ref (b 9), .ref (b 10), .int ((ro z ob).2.2.2.1), .int ((ro z ob).2.2.2.2)]) (C := RX5) (T := TX5) (N := 27) hx hb htb inX5 hown hK hP 0 rfl rfl 4 (by decide) (htb _ kF_X5_16) (fun _ h9 => h9) rfl dX5_reset_12 ?_
            refine lv_iload_n hx hb dX5_reset_15 rfl (lv_at hl 2 rfl) ?_
            refine va_iald (i := nI k) hx hb hK hP 3 0 rfl rfl (vp_in_nI (by omega) (by decide)) dX5_reset_16 ?_
            refine zb_ti (y := nI (xZ k)) (by rw [nI_clamp (by omega)]) ?_
            refine lv_icmp_ge (tgt := 97) hx hb dX5_reset_17 (by decide) (fun _ => ?_) (fun hno => absurd (by rw [hk0_lq]; exact nI_le (Nat.le_refl _) (by omega)) hno)
            have e4 : ((va_cpy tF f 0 0 (xP k + (j))) : Nat → Int32) = (va_cpy tF f 0 0 (yP 42 (k + 1))) := by rw [hyk.2, hk0_lq]
            have hP : va_P D vwCl (rw0 b cA cJ N (va_cpy tF f 0 0 (yP 42 (k + 1))) (ro z ob) t nd q sg th) _ := Eq.mp (congrArg (fun zz9 : Nat → Int32 => va_P D vwCl (rw0 b cA cJ N zz9 (ro z ob) t nd q sg th) _) e4) hP
            have hD : va_D A (rw0 b cA cJ N (va_cpy tF f 0 0 (yP 42 (k + 1))) (ro z ob) t nd q sg th) := Eq.mp (congrArg (fun zz9 : Nat → Int32 => va_D A (rw0 b cA cJ N zz9 (ro z ob) t nd q sg th)) e4) hD
            refine lv_iinc (k := 2) (v := nI (k + 1)) hx hb dX5_reset_97 hl rfl (nI_1 k) (by decide) rfl (fun ls hl => ?_)
            have hl : lv_has ls 5 [(2, .int (nI (k + 1))), (0, .ref (b 0)), (1, .int 8192), (3, .int (nI (j)))] := hl
            refine lv_goto (tgt := 2) hx hb dX5_reset_100 (by decide) ?_
            exact ih_lp (k + 1) ls _ _ hP hD hS (by omega) (lv_sub hl [1, 2, 0] rfl)
          | succ nn ih_lq =>
            intro j ls H locs hP hD hS hk_lq  hl
            have hk1_lq : j < xZ k := by omega
            refine lv_iload_n hx hb dX5_reset_10 rfl (lv_at hl 3 rfl) ?_
            refine lv_aload_n hx hb dX5_reset_11 rfl (lv_at hl 0 rfl) ?_
            refine va_get (D := D) (ci := 5) (v := .ref (b 3)) (fs := [.int th, .int N, .ref (b 1), .ref (b 2), .ref (b 3), .ref (b 4), .ref (b 5), .ref (b 6), .int 22, .int 95, .int nd.1, .int nd.2.2.1, .int nd.2.1, .long nd.2.2.2, .int t.2.1, .int t.2.2.1, .int t.2.2.2.1, .int t.2.2.2.2.1, .int t.2.2.2.2.2, .ref (b 7), .long q, .int sg, .ref (b 8), .ref (b 9), .ref (b 10), .int ((ro z ob).2.2.2.1), .int ((ro z ob).2.2.2.2)]) (C := RX5) (T := TX5) (N := 27) hx hb htb inX5 hown hK hP 0 rfl rfl 4 (by decide) (htb _ kF_X5_16) (fun _ h9 => h9) rfl dX5_reset_12 ?_
            refine lv_iload_n hx hb dX5_reset_15 rfl (lv_at hl 2 rfl) ?_
            refine va_iald (i := nI k) hx hb hK hP 3 0 rfl rfl (vp_in_nI (by omega) (by decide)) dX5_reset_16 ?_
            refine zb_ti (y := nI (xZ k)) (by rw [nI_clamp (by omega)]) ?_
            refine lv_icmp_ge (tgt := 97) hx hb dX5_reset_17 (by decide) (fun hno => absurd hno (nI_ge (a := j) (b := xZ k) hk1_lq (by omega))) (fun _ => ?_)
            refine lv_aload_n hx hb dX5_reset_20 rfl (lv_at hl 0 rfl) ?_
            refine va_get (D := D) (ci := 5) (v := .ref (b 1)) (fs := [.int th, .int N, .ref (b 1), .ref (b 2), .ref (b 3), .ref (b 4), .ref (b 5), .ref (b 6), .int 22, .int 95, .int nd.1, .int nd.2.2.1, .int nd.2.1, .long nd.2.2.2, .int t.2.1, .int t.2.2.1, .int t.2.2.2.1, .int t.2.2.2.2.1, .int t.2.2.2.2.2, .ref (b 7), .long q, .int sg, .ref (b 8), .ref (b 9), .ref (b 10), .int ((ro z ob).2.2.2.1), .int ((ro z ob).2.2.2.2)]) (C := RX5) (T := TX5) (N := 27) hx hb htb inX5 hown hK hP 0 rfl rfl 2 (by decide) (htb _ kF_X5_7) (fun _ h9 => h9) rfl dX5_reset_21 ?_
            refine lv_iload_n hx hb dX5_reset_24 rfl (lv_at hl 2 rfl) ?_
            refine va_iald (i := nI k) hx hb hK hP 1 0 rfl rfl (vp_in_nI (by omega) (by decide)) dX5_reset_25 ?_
            refine zb_ti (y := nI (xI k)) (by rw [nI_clamp (by omega)]) ?_
            refine lv_iload_n hx hb dX5_reset_26 rfl (lv_at hl 1 rfl) ?_
            refine lv_icmp_ge (tgt := 97) hx hb dX5_reset_27 (by decide) (fun hno => absurd hno (nI_ge (a := xI k) (b := 8192) hal (by decide))) (fun _ => ?_)
            refine lv_iload_n hx hb dX5_reset_30 rfl (lv_at hl 2 rfl) ?_
            refine lv_if_ne (tgt := 48) hx hb dX5_reset_31 (by decide) (fun hc5 => ?_) (fun hc5 => ?_)
            · refine lv_iload_n hx hb dX5_reset_48 rfl (lv_at hl 2 rfl) ?_
              refine lv_bipush (v := 8) hx hb dX5_reset_49 (by decide) ?_
              refine lv_icmp_ne (tgt := 60) hx hb dX5_reset_51 (by decide) (fun hc6 => ?_) (fun hc6 => ?_)
              · refine lv_iload_n hx hb dX5_reset_60 rfl (lv_at hl 2 rfl) ?_
                refine lv_bipush (v := 21) hx hb dX5_reset_61 (by decide) ?_
                refine lv_icmp_ne (tgt := 73) hx hb dX5_reset_63 (by decide) (fun hc7 => ?_) (fun hc7 => ?_)
                · refine lv_iconst (v := 0) hx hb dX5_reset_73 (by decide) ?_
                  refine lv_istore hx hb dX5_reset_74 hl (by decide) rfl (fun ls hl => ?_)
                  have hl : lv_has ls 5 [(4, .int 0), (0, .ref (b 0)), (1, .int 8192), (2, .int (nI k)), (3, .int (nI (j)))] := hl
                  refine lv_aload_n hx hb dX5_reset_76 rfl (lv_at hl 1 rfl) ?_
                  refine va_get (D := D) (ci := 5) (v := .ref (b 6)) (fs := [.int th, .int N, .ref (b 1), .ref (b 2), .ref (b 3), .ref (b 4), .ref (b 5), .ref (b 6), .int 22, .int 95, .int nd.1, .int nd.2.2.1, .int nd.2.1, .long nd.2.2.2, .int t.2.1, .int t.2.2.1, .int t.2.2.2.1, .int t.2.2.2.2.1, .int t.2.2.2.2.2, .ref (b 7), .long q, .int sg, .ref (b 8), .ref (b 9), .ref (b 10), .int ((ro z ob).2.2.2.1), .int ((ro z ob).2.2.2.2)]) (C := RX5) (T := TX5) (N := 27) hx hb htb inX5 hown hK hP 0 rfl rfl 7 (by decide) (htb _ kF_X5_25) (fun _ h9 => h9) rfl dX5_reset_77 ?_
                  refine lv_aload_n hx hb dX5_reset_80 rfl (lv_at hl 1 rfl) ?_
                  refine va_get (D := D) (ci := 5) (v := .ref (b 5)) (fs := [.int th, .int N, .ref (b 1), .ref (b 2), .ref (b 3), .ref (b 4), .ref (b 5), .ref (b 6), .int 22, .int 95, .int nd.1, .int nd.2.2.1, .int nd.2.1, .long nd.2.2.2, .int t.2.1, .int t.2.2.1, .int t.2.2.2.1, .int t.2.2.2.2.1, .int t.2.2.2.2.2, .ref (b 7), .long q, .int sg, .ref (b 8), .ref (b 9), .ref (b 10), .int ((ro z ob).2.2.2.1), .int ((ro z ob).2.2.2.2)]) (C := RX5) (T := TX5) (N := 27) hx hb htb inX5 hown hK hP 0 rfl rfl 6 (by decide) (htb _ kF_X5_22) (fun _ h9 => h9) rfl dX5_reset_81 ?_
                  refine lv_iload_n hx hb dX5_reset_84 rfl (lv_at hl 3 rfl) ?_
                  refine va_iald (i := nI k) hx hb hK hP 5 0 rfl rfl (vp_in_nI (by omega) (by decide)) dX5_reset_85 ?_
                  refine zb_ti (y := nI (xP k)) (by rw [nI_clamp (by omega)]) ?_
                  refine lv_iload_n hx hb dX5_reset_86 rfl (lv_at hl 4 rfl) ?_
                  refine lv_iadd hx hb dX5_reset_87 ?_
                  refine zb_ti (nI_add (xP k) (j)) ?_
                  refine lv_iload hx hb dX5_reset_88 (lv_at hl 0 rfl) ?_
                  refine zb_ti (y := tF (xP k + j)) (tv_o k hk1_lp (fun h => hc5 (by rw [h]; rfl)) (fun h => hc6 (by rw [h]; rfl)) (fun h => hc7 (by rw [h]; rfl)) j hk1_lq) ?_
                  refine va_iast (i := nI ((xP k) + (j))) (x := tF (xP k + j)) hx hb hK hP hD hS 6 0 rfl rfl (vp_in_nI (by omega) (by decide)) dX5_reset_90 (fun H locs hP hD hS => ?_)
                  rw [nI_clamp (by omega)] at hP hD
                  have hP : va_P D vwCl (rw0 b cA cJ N (upd (va_cpy tF f 0 0 (xP k + (j))) ((xP k) + (j)) (tF (xP k + j))) (ro z ob) t nd q sg th) H := hP
                  have hD : va_D A (rw0 b cA cJ N (upd (va_cpy tF f 0 0 (xP k + (j))) ((xP k) + (j)) (tF (xP k + j))) (ro z ob) t nd q sg th) := hD
                  rw [cpy_up0] at hP hD
                  have hP : va_P D vwCl (rw0 b cA cJ N (va_cpy tF f 0 0 (xP k + (j + 1))) (ro z ob) t nd q sg th) H := hP
                  have hD : va_D A (rw0 b cA cJ N (va_cpy tF f 0 0 (xP k + (j + 1))) (ro z ob) t nd q sg th) := hD
                  refine lv_iinc (k := 4) (v := nI ((j) + 1)) hx hb dX5_reset_91 hl rfl (nI_1 (j)) (by decide) rfl (fun ls hl => ?_)
                  have hl : lv_has ls 5 [(3, .int (nI ((j) + 1))), (4, .int 0), (0, .ref (b 0)), (1, .int 8192), (2, .int (nI k))] := hl
                  refine lv_goto (tgt := 10) hx hb dX5_reset_94 (by decide) ?_
                  exact ih_lq (j + 1) ls _ _ hP hD hS (by omega) (lv_sub hl [2, 3, 4, 0] rfl)
                refine lv_bipush (v := 65) hx hb dX5_reset_66 (by decide) ?_
                refine lv_iload_n hx hb dX5_reset_68 rfl (lv_at hl 3 rfl) ?_
                refine lv_iadd hx hb dX5_reset_69 ?_
                refine zb_ti (nI_add 65 (j)) ?_
                refine lv_goto (tgt := 74) hx hb dX5_reset_70 (by decide) ?_
                refine lv_istore hx hb dX5_reset_74 hl (by decide) rfl (fun ls hl => ?_)
                have hl : lv_has ls 5 [(4, .int (nI (65 + (j)))), (0, .ref (b 0)), (1, .int 8192), (2, .int (nI k)), (3, .int (nI (j)))] := hl
                refine lv_aload_n hx hb dX5_reset_76 rfl (lv_at hl 1 rfl) ?_
                refine va_get (D := D) (ci := 5) (v := .ref (b 6)) (fs := [.int th, .int N, .ref (b 1), .ref (b 2), .ref (b 3), .ref (b 4), .ref (b 5), .ref (b 6), .int 22, .int 95, .int nd.1, .int nd.2.2.1, .int nd.2.1, .long nd.2.2.2, .int t.2.1, .int t.2.2.1, .int t.2.2.2.1, .int t.2.2.2.2.1, .int t.2.2.2.2.2, .ref (b 7), .long q, .int sg, .ref (b 8), .ref (b 9), .ref (b 10), .int ((ro z ob).2.2.2.1), .int ((ro z ob).2.2.2.2)]) (C := RX5) (T := TX5) (N := 27) hx hb htb inX5 hown hK hP 0 rfl rfl 7 (by decide) (htb _ kF_X5_25) (fun _ h9 => h9) rfl dX5_reset_77 ?_
                refine lv_aload_n hx hb dX5_reset_80 rfl (lv_at hl 1 rfl) ?_
                refine va_get (D := D) (ci := 5) (v := .ref (b 5)) (fs := [.int th, .int N, .ref (b 1), .ref (b 2), .ref (b 3), .ref (b 4), .ref (b 5), .ref (b 6), .int 22, .int 95, .int nd.1, .int nd.2.2.1, .int nd.2.1, .long nd.2.2.2, .int t.2.1, .int t.2.2.1, .int t.2.2.2.1, .int t.2.2.2.2.1, .int t.2.2.2.2.2, .ref (b 7), .long q, .int sg, .ref (b 8), .ref (b 9), .ref (b 10), .int ((ro z ob).2.2.2.1), .int ((ro z ob).2.2.2.2)]) (C := RX5) (T := TX5) (N := 27) hx hb htb inX5 hown hK hP 0 rfl rfl 6 (by decide) (htb _ kF_X5_22) (fun _ h9 => h9) rfl dX5_reset_81 ?_
                refine lv_iload_n hx hb dX5_reset_84 rfl (lv_at hl 3 rfl) ?_
                refine va_iald (i := nI k) hx hb hK hP 5 0 rfl rfl (vp_in_nI (by omega) (by decide)) dX5_reset_85 ?_
                refine zb_ti (y := nI (xP k)) (by rw [nI_clamp (by omega)]) ?_
                refine lv_iload_n hx hb dX5_reset_86 rfl (lv_at hl 4 rfl) ?_
                refine lv_iadd hx hb dX5_reset_87 ?_
                refine zb_ti (nI_add (xP k) (j)) ?_
                refine lv_iload hx hb dX5_reset_88 (lv_at hl 0 rfl) ?_
                have hk9 : k = 21 := ((nI_eq (a := k) (b := 21) (by omega) (by decide)).mp hc7)
                refine zb_ti (y := tF (xP k + j)) (by subst hk9; exact tv_21 j hk1_lq) ?_
                refine va_iast (i := nI ((xP k) + (j))) (x := tF (xP k + j)) hx hb hK hP hD hS 6 0 rfl rfl (vp_in_nI (by omega) (by decide)) dX5_reset_90 (fun H locs hP hD hS => ?_)
                rw [nI_clamp (by omega)] at hP hD
                have hP : va_P D vwCl (rw0 b cA cJ N (upd (va_cpy tF f 0 0 (xP k + (j))) ((xP k) + (j)) (tF (xP k + j))) (ro z ob) t nd q sg th) H := hP
                have hD : va_D A (rw0 b cA cJ N (upd (va_cpy tF f 0 0 (xP k + (j))) ((xP k) + (j)) (tF (xP k + j))) (ro z ob) t nd q sg th) := hD
                rw [cpy_up0] at hP hD
                have hP : va_P D vwCl (rw0 b cA cJ N (va_cpy tF f 0 0 (xP k + (j + 1))) (ro z ob) t nd q sg th) H := hP
                have hD : va_D A (rw0 b cA cJ N (va_cpy tF f 0 0 (xP k + (j + 1))) (ro z ob) t nd q sg th) := hD
                refine lv_iinc (k := 4) (v := nI ((j) + 1)) hx hb dX5_reset_91 hl rfl (nI_1 (j)) (by decide) rfl (fun ls hl => ?_)
                have hl : lv_has ls 5 [(3, .int (nI ((j) + 1))), (4, .int (nI (65 + (j)))), (0, .ref (b 0)), (1, .int 8192), (2, .int (nI k))] := hl
                refine lv_goto (tgt := 10) hx hb dX5_reset_94 (by decide) ?_
                exact ih_lq (j + 1) ls _ _ hP hD hS (by omega) (lv_sub hl [2, 3, 4, 0] rfl)
              refine lv_sipush (v := 255) hx hb dX5_reset_54 (by decide) ?_
              refine lv_goto (tgt := 74) hx hb dX5_reset_57 (by decide) ?_
              refine lv_istore hx hb dX5_reset_74 hl (by decide) rfl (fun ls hl => ?_)
              have hl : lv_has ls 5 [(4, .int 255), (0, .ref (b 0)), (1, .int 8192), (2, .int (nI k)), (3, .int (nI (j)))] := hl
              refine lv_aload_n hx hb dX5_reset_76 rfl (lv_at hl 1 rfl) ?_
              refine va_get (D := D) (ci := 5) (v := .ref (b 6)) (fs := [.int th, .int N, .ref (b 1), .ref (b 2), .ref (b 3), .ref (b 4), .ref (b 5), .ref (b 6), .int 22, .int 95, .int nd.1, .int nd.2.2.1, .int nd.2.1, .long nd.2.2.2, .int t.2.1, .int t.2.2.1, .int t.2.2.2.1, .int t.2.2.2.2.1, .int t.2.2.2.2.2, .ref (b 7), .long q, .int sg, .ref (b 8), .ref (b 9), .ref (b 10), .int ((ro z ob).2.2.2.1), .int ((ro z ob).2.2.2.2)]) (C := RX5) (T := TX5) (N := 27) hx hb htb inX5 hown hK hP 0 rfl rfl 7 (by decide) (htb _ kF_X5_25) (fun _ h9 => h9) rfl dX5_reset_77 ?_
              refine lv_aload_n hx hb dX5_reset_80 rfl (lv_at hl 1 rfl) ?_
              refine va_get (D := D) (ci := 5) (v := .ref (b 5)) (fs := [.int th, .int N, .ref (b 1), .ref (b 2), .ref (b 3), .ref (b 4), .ref (b 5), .ref (b 6), .int 22, .int 95, .int nd.1, .int nd.2.2.1, .int nd.2.1, .long nd.2.2.2, .int t.2.1, .int t.2.2.1, .int t.2.2.2.1, .int t.2.2.2.2.1, .int t.2.2.2.2.2, .ref (b 7), .long q, .int sg, .ref (b 8), .ref (b 9), .ref (b 10), .int ((ro z ob).2.2.2.1), .int ((ro z ob).2.2.2.2)]) (C := RX5) (T := TX5) (N := 27) hx hb htb inX5 hown hK hP 0 rfl rfl 6 (by decide) (htb _ kF_X5_22) (fun _ h9 => h9) rfl dX5_reset_81 ?_
              refine lv_iload_n hx hb dX5_reset_84 rfl (lv_at hl 3 rfl) ?_
              refine va_iald (i := nI k) hx hb hK hP 5 0 rfl rfl (vp_in_nI (by omega) (by decide)) dX5_reset_85 ?_
              refine zb_ti (y := nI (xP k)) (by rw [nI_clamp (by omega)]) ?_
              refine lv_iload_n hx hb dX5_reset_86 rfl (lv_at hl 4 rfl) ?_
              refine lv_iadd hx hb dX5_reset_87 ?_
              refine zb_ti (nI_add (xP k) (j)) ?_
              refine lv_iload hx hb dX5_reset_88 (lv_at hl 0 rfl) ?_
              have hk9 : k = 8 := ((nI_eq (a := k) (b := 8) (by omega) (by decide)).mp hc6)
              refine zb_ti (y := tF (xP k + j)) (by subst hk9; exact tv_8 j hk1_lq) ?_
              refine va_iast (i := nI ((xP k) + (j))) (x := tF (xP k + j)) hx hb hK hP hD hS 6 0 rfl rfl (vp_in_nI (by omega) (by decide)) dX5_reset_90 (fun H locs hP hD hS => ?_)
              rw [nI_clamp (by omega)] at hP hD
              have hP : va_P D vwCl (rw0 b cA cJ N (upd (va_cpy tF f 0 0 (xP k + (j))) ((xP k) + (j)) (tF (xP k + j))) (ro z ob) t nd q sg th) H := hP
              have hD : va_D A (rw0 b cA cJ N (upd (va_cpy tF f 0 0 (xP k + (j))) ((xP k) + (j)) (tF (xP k + j))) (ro z ob) t nd q sg th) := hD
              rw [cpy_up0] at hP hD
              have hP : va_P D vwCl (rw0 b cA cJ N (va_cpy tF f 0 0 (xP k + (j + 1))) (ro z ob) t nd q sg th) H := hP
              have hD : va_D A (rw0 b cA cJ N (va_cpy tF f 0 0 (xP k + (j + 1))) (ro z ob) t nd q sg th) := hD
              refine lv_iinc (k := 4) (v := nI ((j) + 1)) hx hb dX5_reset_91 hl rfl (nI_1 (j)) (by decide) rfl (fun ls hl => ?_)
              have hl : lv_has ls 5 [(3, .int (nI ((j) + 1))), (4, .int 255), (0, .ref (b 0)), (1, .int 8192), (2, .int (nI k))] := hl
              refine lv_goto (tgt := 10) hx hb dX5_reset_94 (by decide) ?_
              exact ih_lq (j + 1) ls _ _ hP hD hS (by omega) (lv_sub hl [2, 3, 4, 0] rfl)
            refine lv_ldc (v := 131473) hx hb hown (htb _ kK_X5_66) dX5_reset_34 ?_
            refine lv_bipush (v := 8) hx hb dX5_reset_36 (by decide) ?_
            refine lv_iload_n hx hb dX5_reset_38 rfl (lv_at hl 3 rfl) ?_
            refine lv_imul hx hb dX5_reset_39 ?_
            refine zb_ti (pk_mul 8 (j)) ?_
            refine lv_ishr hx hb dX5_reset_40 ?_
            refine lv_sipush (v := 255) hx hb dX5_reset_41 (by decide) ?_
            refine lv_iand hx hb dX5_reset_44 ?_
            refine lv_goto (tgt := 74) hx hb dX5_reset_45 (by decide) ?_
            refine lv_istore hx hb dX5_reset_74 hl (by decide) rfl (fun ls hl => ?_)
            have hl : lv_has ls 5 [(4, .int ((131473 >>> ((nI (8 * (j))) &&& 31)) &&& 255)), (0, .ref (b 0)), (1, .int 8192), (2, .int (nI k)), (3, .int (nI (j)))] := hl
            refine lv_aload_n hx hb dX5_reset_76 rfl (lv_at hl 1 rfl) ?_
            refine va_get (D := D) (ci := 5) (v := .ref (b 6)) (fs := [.int th, .int N, .ref (b 1), .ref (b 2), .ref (b 3), .ref (b 4), .ref (b 5), .ref (b 6), .int 22, .int 95, .int nd.1, .int nd.2.2.1, .int nd.2.1, .long nd.2.2.2, .int t.2.1, .int t.2.2.1, .int t.2.2.2.1, .int t.2.2.2.2.1, .int t.2.2.2.2.2, .ref (b 7), .long q, .int sg, .ref (b 8), .ref (b 9), .ref (b 10), .int ((ro z ob).2.2.2.1), .int ((ro z ob).2.2.2.2)]) (C := RX5) (T := TX5) (N := 27) hx hb htb inX5 hown hK hP 0 rfl rfl 7 (by decide) (htb _ kF_X5_25) (fun _ h9 => h9) rfl dX5_reset_77 ?_
            refine lv_aload_n hx hb dX5_reset_80 rfl (lv_at hl 1 rfl) ?_
            refine va_get (D := D) (ci := 5) (v := .ref (b 5)) (fs := [.int th, .int N, .ref (b 1), .ref (b 2), .ref (b 3), .ref (b 4), .ref (b 5), .ref (b 6), .int 22, .int 95, .int nd.1, .int nd.2.2.1, .int nd.2.1, .long nd.2.2.2, .int t.2.1, .int t.2.2.1, .int t.2.2.2.1, .int t.2.2.2.2.1, .int t.2.2.2.2.2, .ref (b 7), .long q, .int sg, .ref (b 8), .ref (b 9), .ref (b 10), .int ((ro z ob).2.2.2.1), .int ((ro z ob).2.2.2.2)]) (C := RX5) (T := TX5) (N := 27) hx hb htb inX5 hown hK hP 0 rfl rfl 6 (by decide) (htb _ kF_X5_22) (fun _ h9 => h9) rfl dX5_reset_81 ?_
            refine lv_iload_n hx hb dX5_reset_84 rfl (lv_at hl 3 rfl) ?_
            refine va_iald (i := nI k) hx hb hK hP 5 0 rfl rfl (vp_in_nI (by omega) (by decide)) dX5_reset_85 ?_
            refine zb_ti (y := nI (xP k)) (by rw [nI_clamp (by omega)]) ?_
            refine lv_iload_n hx hb dX5_reset_86 rfl (lv_at hl 4 rfl) ?_
            refine lv_iadd hx hb dX5_reset_87 ?_
            refine zb_ti (nI_add (xP k) (j)) ?_
            refine lv_iload hx hb dX5_reset_88 (lv_at hl 0 rfl) ?_
            have hk9 : k = 0 := ((nI_eq (a := k) (b := 0) (by omega) (by decide)).mp hc5)
            refine zb_ti (y := tF (xP k + j)) (by subst hk9; exact tv_0 j hk1_lq) ?_
            refine va_iast (i := nI ((xP k) + (j))) (x := tF (xP k + j)) hx hb hK hP hD hS 6 0 rfl rfl (vp_in_nI (by omega) (by decide)) dX5_reset_90 (fun H locs hP hD hS => ?_)
            rw [nI_clamp (by omega)] at hP hD
            have hP : va_P D vwCl (rw0 b cA cJ N (upd (va_cpy tF f 0 0 (xP k + (j))) ((xP k) + (j)) (tF (xP k + j))) (ro z ob) t nd q sg th) H := hP
            have hD : va_D A (rw0 b cA cJ N (upd (va_cpy tF f 0 0 (xP k + (j))) ((xP k) + (j)) (tF (xP k + j))) (ro z ob) t nd q sg th) := hD
            rw [cpy_up0] at hP hD
            have hP : va_P D vwCl (rw0 b cA cJ N (va_cpy tF f 0 0 (xP k + (j + 1))) (ro z ob) t nd q sg th) H := hP
            have hD : va_D A (rw0 b cA cJ N (va_cpy tF f 0 0 (xP k + (j + 1))) (ro z ob) t nd q sg th) := hD
            refine lv_iinc (k := 4) (v := nI ((j) + 1)) hx hb dX5_reset_91 hl rfl (nI_1 (j)) (by decide) rfl (fun ls hl => ?_)
            have hl : lv_has ls 5 [(3, .int (nI ((j) + 1))), (4, .int ((131473 >>> ((nI (8 * (j))) &&& 31)) &&& 255)), (0, .ref (b 0)), (1, .int 8192), (2, .int (nI k))] := hl
            refine lv_goto (tgt := 10) hx hb dX5_reset_94 (by decide) ?_
            exact ih_lq (j + 1) ls _ _ hP hD hS (by omega) (lv_sub hl [2, 3, 4, 0] rfl)
        exact lq (xZ k - 0) (0) ls _ _ hP hD hS (by omega) (lv_sub hl [1, 2, 3, 0] rfl)
      · have hna : 8192 ≤ xI k := by omega
        have hyk := hy.2.2 hc2
        refine lv_iconst (v := 0) hx hb dX5_reset_8 (by decide) ?_
        refine lv_istore_n hx hb dX5_reset_9 rfl hl (by decide) rfl (fun ls hl => ?_)
        have hl : lv_has ls 5 [(3, .int 0), (0, .ref (b 0)), (1, .int 8192), (2, .int (nI (k)))] := hl
        refine lv_iload_n hx hb dX5_reset_10 rfl (lv_at hl 0 rfl) ?_
        refine lv_aload_n hx hb dX5_reset_11 rfl (lv_at hl 1 rfl) ?_
        refine va_get (D := D) (ci := 5) (v := .ref (b 3)) (fs := [.int th, .int N, .ref (b 1), .ref (b 2), .ref (b 3), .ref (b 4), .ref (b 5), .ref (b 6), .int 22, .int 95, .int nd.1, .int nd.2.2.1, .int nd.2.1, .long nd.2.2.2, .int t.2.1, .int t.2.2.1, .int t.2.2.2.1, .int t.2.2.2.2.1, .int t.2.2.2.2.2, .ref (b 7), .long q, .int sg, .ref (b 8), .ref (b 9), .ref (b 10), .int ((ro z ob).2.2.2.1), .int ((ro z ob).2.2.2.2)]) (C := RX5) (T := TX5) (N := 27) hx hb htb inX5 hown hK hP 0 rfl rfl 4 (by decide) (htb _ kF_X5_16) (fun _ h9 => h9) rfl dX5_reset_12 ?_
        refine lv_iload_n hx hb dX5_reset_15 rfl (lv_at hl 3 rfl) ?_
        refine va_iald (i := nI (k)) hx hb hK hP 3 0 rfl rfl (vp_in_nI (by omega) (by decide)) dX5_reset_16 ?_
        refine zb_ti (y := nI (xZ (k))) (by rw [nI_clamp (by omega)]) ?_
        refine lv_icmp_ge (tgt := 97) hx hb dX5_reset_17 (by decide) (fun hno => absurd hno (nI_ge (a := 0) (b := xZ k) (by omega) (by omega))) (fun _ => ?_)
        refine lv_aload_n hx hb dX5_reset_20 rfl (lv_at hl 1 rfl) ?_
        refine va_get (D := D) (ci := 5) (v := .ref (b 1)) (fs := [.int th, .int N, .ref (b 1), .ref (b 2), .ref (b 3), .ref (b 4), .ref (b 5), .ref (b 6), .int 22, .int 95, .int nd.1, .int nd.2.2.1, .int nd.2.1, .long nd.2.2.2, .int t.2.1, .int t.2.2.1, .int t.2.2.2.1, .int t.2.2.2.2.1, .int t.2.2.2.2.2, .ref (b 7), .long q, .int sg, .ref (b 8), .ref (b 9), .ref (b 10), .int ((ro z ob).2.2.2.1), .int ((ro z ob).2.2.2.2)]) (C := RX5) (T := TX5) (N := 27) hx hb htb inX5 hown hK hP 0 rfl rfl 2 (by decide) (htb _ kF_X5_7) (fun _ h9 => h9) rfl dX5_reset_21 ?_
        refine lv_iload_n hx hb dX5_reset_24 rfl (lv_at hl 3 rfl) ?_
        refine va_iald (i := nI (k)) hx hb hK hP 1 0 rfl rfl (vp_in_nI (by omega) (by decide)) dX5_reset_25 ?_
        refine zb_ti (y := nI (xI (k))) (by rw [nI_clamp (by omega)]) ?_
        refine lv_iload_n hx hb dX5_reset_26 rfl (lv_at hl 2 rfl) ?_
        refine lv_icmp_ge (tgt := 97) hx hb dX5_reset_27 (by decide) (fun _ => ?_) (fun hno => absurd (nI_le (a := 8192) (b := xI k) hna (by omega)) hno)
        have e8 : ((va_cpy tF f 0 0 (yP 42 (k))) : Nat → Int32) = (va_cpy tF f 0 0 (yP 42 (k + 1))) := by rw [hyk]
        have hP : va_P D vwCl (rw0 b cA cJ N (va_cpy tF f 0 0 (yP 42 (k + 1))) (ro z ob) t nd q sg th) _ := Eq.mp (congrArg (fun zz9 : Nat → Int32 => va_P D vwCl (rw0 b cA cJ N zz9 (ro z ob) t nd q sg th) _) e8) hP
        have hD : va_D A (rw0 b cA cJ N (va_cpy tF f 0 0 (yP 42 (k + 1))) (ro z ob) t nd q sg th) := Eq.mp (congrArg (fun zz9 : Nat → Int32 => va_D A (rw0 b cA cJ N zz9 (ro z ob) t nd q sg th)) e8) hD
        refine lv_iinc (k := 3) (v := nI ((k) + 1)) hx hb dX5_reset_97 hl rfl (nI_1 (k)) (by decide) rfl (fun ls hl => ?_)
        have hl : lv_has ls 5 [(2, .int (nI ((k) + 1))), (3, .int 0), (0, .ref (b 0)), (1, .int 8192)] := hl
        refine lv_goto (tgt := 2) hx hb dX5_reset_100 (by decide) ?_
        exact ih_lp (k + 1) ls _ _ hP hD hS (by omega) (lv_sub hl [2, 3, 0] rfl)
  exact lp (22 - 0) (0) ls _ _ hP hD hS (by omega) (lv_sub hl [1, 2, 0] rfl)
set_option maxHeartbeats 4000000 in
set_option maxRecDepth 100000 in
theorem r_command (l : Launch) (D : va_G) (b : Nat → Nat) (cA cJ : ClassId) (N : Int32) (f : Nat → Int32) (z : Int32) (ob : OB) (t : RT) (nd : ND) (q : Int64) (sg th : Int32) (sz : Nat) (tr : TR) (wh : Nat) (hB : isB f) (hG : mapK f 9 5) (ho : obK ob) (hR : rel2 tr t) (hwh : wh < 256) : Met l yX5_command (wX5_command :: wb) ({ frames := 2, cells := 0, slots := 0, locals := 50 } : Room) (va_Pc [.ref (b 0), .int (nI wh)] (zPre D [(cA, .int), (cJ, .long)] (rw0 b cA cJ N f (ro z ob) t nd q sg th) sz)) (zb_E none D vwCl (r4 b cA cJ N z th (kCmd N f ob tr nd wh)) (fun y => rel2 (kCmd N f ob tr nd wh).2.2.1 y.1) (va_A (rw0 b cA cJ N f (ro z ob) t nd q sg th) sz)) 0 0 (va_A (rw0 b cA cJ N f (ro z ob) t nd q sg th) sz) := by
  refine Met.ofW (cc := cX5_command) (maxL := 2) (ret := none) (by decide) rfl ?_
  intro p ev s m args below meth c s₁ B hml hv
  obtain ⟨rfl, hsz, hP, hK, hD0, hSt, hnw⟩ := hv
  have hx := B.exec
  have hb := B.bytes
  have hr := B.returns
  have hts := atoms_spec (ws := wX5_command :: wb) B.pre
  have htb : ∀ w ∈ wb, w.before ([.ref (b 0), .int (nI wh)]).toArray s = true := fun w h => hts w (List.mem_cons_of_mem _ h)
  have hown : s.vm.findClass RX5 = some m.cls := findClass_of_methodNamed B.named
  have hlocks := B.notSynchronized
  subst hsz
  have hD := hD0.self (sz := s.heap.size)
  clear hD0
  generalize hAe : va_A (rw0 b cA cJ N f (ro z ob) t nd q sg th) s.heap.size = A at hD hSt ⊢
  have hA : ∀ q : Nat, s.heap.size ≤ q → A q := fun q h => by rw [← hAe]; exact Or.inr h
  have hS : va_S A s.heap s.heap [] := va_S.rf
  obtain ⟨⟨tt, ff, hZT, hTT, hZF, hTF⟩, hXS⟩ := id hSt
  have hl := lv_entry ([.ref (b 0), .int (nI wh)]) (n := 2) (Nat.le_of_ble_eq_true rfl)
  rw [lg_entry_eq]
  generalize (lg_sl ([.ref (b 0), .int (nI wh)]) ++ List.replicate (2 - (lg_sl ([.ref (b 0), .int (nI wh)])).length) Slot.unset).toArray = ls at hl ⊢
  have hl : lv_has ls 2 [(0, .ref (b 0)), (1, .int (nI wh))] := hl
  refine zb_abs (fun Q hQ => ?_)
  refine lv_iload_n hx hb dX5_command_0 rfl (lv_at hl 1 rfl) ?_
  refine lv_iconst (v := 1) hx hb dX5_command_1 (by decide) ?_
  refine lv_icmp_ne (tgt := 34) hx hb dX5_command_2 (by decide) (fun hc1 => ?_) (fun hc1 => ?_)
  · refine lv_iload_n hx hb dX5_command_34 rfl (lv_at hl 1 rfl) ?_
    refine lv_iconst (v := 2) hx hb dX5_command_35 (by decide) ?_
    refine lv_icmp_ne (tgt := 52) hx hb dX5_command_36 (by decide) (fun hc2 => ?_) (fun hc2 => ?_)
    · refine lv_iload_n hx hb dX5_command_52 rfl (lv_at hl 1 rfl) ?_
      refine lv_sipush (v := 128) hx hb dX5_command_53 (by decide) ?_
      refine lv_icmp_ne (tgt := 68) hx hb dX5_command_56 (by decide) (fun hc3 => ?_) (fun hc3 => ?_)
      · refine lv_iload_n hx hb dX5_command_68 rfl (lv_at hl 1 rfl) ?_
        refine lv_sipush (v := 129) hx hb dX5_command_69 (by decide) ?_
        refine lv_icmp_eq (tgt := 82) hx hb dX5_command_72 (by decide) (fun hc4 => ?_) (fun hc4 => ?_)
        · refine lv_aload_n hx hb dX5_command_82 rfl (lv_at hl 0 rfl) ?_
          refine lv_iload_n hx hb dX5_command_83 rfl (lv_at hl 1 rfl) ?_
          refine lv_sipush (v := 129) hx hb dX5_command_84 (by decide) ?_
          refine lv_icmp_ne (tgt := 95) hx hb dX5_command_87 (by decide) (fun hno => absurd hc4 hno) (fun _ => ?_)
          refine lv_ldc (v := 65536) hx hb hown (htb _ kK_X5_53) dX5_command_90 ?_
          refine lv_goto (tgt := 98) hx hb dX5_command_92 (by decide) ?_
          refine zb_cv (va_runV (As := [.int 65536]) (rest := []) ⟨hx, hb, hml, hown, htb⟩ (r_reset95 l D b cA cJ N f z ob t nd q sg th _) (cwV 1 htb (wb_V kM_X5_54 kI_X5_reset kS_X5_reset kN_X5 kD_X5_reset) rfl rfl rfl (by decide +kernel) ⟨Nat.le_of_ble_eq_true rfl, Nat.le_of_ble_eq_true rfl⟩) (zp_VW 0 rfl rfl hP hD hK hSt hS hA hnw) rfl rfl hl.1 rfl (lv_room (Nat.le_of_ble_eq_true rfl)) dX5_command_98 ⟨Nat.le_of_ble_eq_true rfl, Nat.le_of_ble_eq_true rfl⟩) hD hS hA (fun H locs hP hD hS => ?_)
          have hP : va_P D vwCl (rw0 b cA cJ N (va_cpy tF f 0 0 95) (ro z ob) t nd q sg th) H := hP
          have hD : va_D A (rw0 b cA cJ N (va_cpy tF f 0 0 95) (ro z ob) t nd q sg th) := hD
          refine lv_aload_n hx hb dX5_command_101 rfl (lv_at hl 0 rfl) ?_
          refine zb_cv (va_runV (As := []) (rest := []) ⟨hx, hb, hml, hown, htb⟩ (r_boot l D b cA cJ N (va_cpy tF f 0 0 95) z ob t nd q sg th _ ho) (cwV 0 htb (wb_V kM_X5_57 kI_X5_boot kS_X5_boot kN_X5 kD_X5_boot) rfl rfl rfl (by decide +kernel) ⟨Nat.le_of_ble_eq_true rfl, Nat.le_of_ble_eq_true rfl⟩) (zp_VW 0 rfl rfl hP hD hK hSt hS hA hnw) rfl rfl hl.1 rfl (lv_room (Nat.le_of_ble_eq_true rfl)) dX5_command_102 ⟨Nat.le_of_ble_eq_true rfl, Nat.le_of_ble_eq_true rfl⟩) hD hS hA (fun H locs hP hD hS => ?_)
          have hP : va_P D vwCl (rw0 b cA cJ N (va_cpy tF f 0 0 95) (ro z (kBoot N ob)) (t.1, 0, t.2.2.1, t.2.2.2.1, t.2.2.2.2.1, 0) (nBoot nd) q sg th) H := hP
          have hD : va_D A (rw0 b cA cJ N (va_cpy tF f 0 0 95) (ro z (kBoot N ob)) (t.1, 0, t.2.2.1, t.2.2.2.1, t.2.2.2.2.1, 0) (nBoot nd) q sg th) := hD
          rw [hQ]
          have hw9 : (rw0 b cA cJ N (va_cpy tF f 0 0 95) (ro z (kBoot N ob)) (t.1, 0, t.2.2.1, t.2.2.2.1, t.2.2.2.2.1, 0) (nBoot nd) q sg th) = r4 b cA cJ N z th (kCmd N f ob tr nd wh) ((t.1, 0, t.2.2.1, t.2.2.2.1, t.2.2.2.2.1, 0), q, sg) := by simp only [kCmd, nRun, if_neg (fun h : wh = 1 => hc1 (by rw [h]; rfl)), if_neg (fun h : wh = 2 => hc2 (by rw [h]; rfl)), if_neg (fun h : wh = 128 => hc3 (by rw [h]; rfl)), if_pos (show wh = 129 from (nI_eq (by omega) (by decide)).mp hc4)]; rfl
          have hr9 : rel2 (kCmd N f ob tr nd wh).2.2.1 (t.1, 0, t.2.2.1, t.2.2.2.1, t.2.2.2.2.1, 0) := by simp only [kCmd, nRun, if_neg (fun h : wh = 1 => hc1 (by rw [h]; rfl)), if_neg (fun h : wh = 2 => hc2 (by rw [h]; rfl)), if_neg (fun h : wh = 128 => hc3 (by rw [h]; rfl)), if_pos (show wh = 129 from (nI_eq (by omega) (by decide)).mp hc4)]; exact rel2_off hR _
          exact W.vret hx hb hr (fun t9 ht hW => ⟨rfl, ((t.1, 0, t.2.2.1, t.2.2.2.1, t.2.2.2.2.1, 0), q, sg), hr9, by rw [ht, ← hw9]; exact hP, by rw [← hw9]; exact hD, hS.F ht⟩) hS.2.2 dX5_command_105
        refine lv_iload_n hx hb dX5_command_75 rfl (lv_at hl 1 rfl) ?_
        refine lv_sipush (v := 130) hx hb dX5_command_76 (by decide) ?_
        refine lv_icmp_ne (tgt := 105) hx hb dX5_command_79 (by decide) (fun hc5 => ?_) (fun hc5 => ?_)
        · rw [hQ]
          have hw9 : (rw0 b cA cJ N f (ro z ob) t nd q sg th) = r4 b cA cJ N z th (kCmd N f ob tr nd wh) (t, q, sg) := by simp only [kCmd, nRun, if_neg (fun h : wh = 1 => hc1 (by rw [h]; rfl)), if_neg (fun h : wh = 2 => hc2 (by rw [h]; rfl)), if_neg (fun h : wh = 128 => hc3 (by rw [h]; rfl)), if_neg (fun h : wh = 129 => hc4 (by rw [h]; rfl)), if_neg (fun h : wh = 130 => hc5 (by rw [h]; rfl))]; rfl
          have hr9 : rel2 (kCmd N f ob tr nd wh).2.2.1 t := by simp only [kCmd, nRun, if_neg (fun h : wh = 1 => hc1 (by rw [h]; rfl)), if_neg (fun h : wh = 2 => hc2 (by rw [h]; rfl)), if_neg (fun h : wh = 128 => hc3 (by rw [h]; rfl)), if_neg (fun h : wh = 129 => hc4 (by rw [h]; rfl)), if_neg (fun h : wh = 130 => hc5 (by rw [h]; rfl))]; exact hR
          exact W.vret hx hb hr (fun t9 ht hW => ⟨rfl, (t, q, sg), hr9, by rw [ht, ← hw9]; exact hP, by rw [← hw9]; exact hD, hS.F ht⟩) hS.2.2 dX5_command_105
        refine lv_aload_n hx hb dX5_command_82 rfl (lv_at hl 0 rfl) ?_
        refine lv_iload_n hx hb dX5_command_83 rfl (lv_at hl 1 rfl) ?_
        refine lv_sipush (v := 129) hx hb dX5_command_84 (by decide) ?_
        refine lv_icmp_ne (tgt := 95) hx hb dX5_command_87 (by decide) (fun _ => ?_) (fun hno => absurd hno hc4)
        refine lv_sipush (v := 8192) hx hb dX5_command_95 (by decide) ?_
        refine zb_cv (va_runV (As := [.int 8192]) (rest := []) ⟨hx, hb, hml, hown, htb⟩ (r_reset42 l D b cA cJ N f z ob t nd q sg th _) (cwV 1 htb (wb_V kM_X5_54 kI_X5_reset kS_X5_reset kN_X5 kD_X5_reset) rfl rfl rfl (by decide +kernel) ⟨Nat.le_of_ble_eq_true rfl, Nat.le_of_ble_eq_true rfl⟩) (zp_VW 0 rfl rfl hP hD hK hSt hS hA hnw) rfl rfl hl.1 rfl (lv_room (Nat.le_of_ble_eq_true rfl)) dX5_command_98 ⟨Nat.le_of_ble_eq_true rfl, Nat.le_of_ble_eq_true rfl⟩) hD hS hA (fun H locs hP hD hS => ?_)
        have hP : va_P D vwCl (rw0 b cA cJ N (va_cpy tF f 0 0 42) (ro z ob) t nd q sg th) H := hP
        have hD : va_D A (rw0 b cA cJ N (va_cpy tF f 0 0 42) (ro z ob) t nd q sg th) := hD
        refine lv_aload_n hx hb dX5_command_101 rfl (lv_at hl 0 rfl) ?_
        refine zb_cv (va_runV (As := []) (rest := []) ⟨hx, hb, hml, hown, htb⟩ (r_boot l D b cA cJ N (va_cpy tF f 0 0 42) z ob t nd q sg th _ ho) (cwV 0 htb (wb_V kM_X5_57 kI_X5_boot kS_X5_boot kN_X5 kD_X5_boot) rfl rfl rfl (by decide +kernel) ⟨Nat.le_of_ble_eq_true rfl, Nat.le_of_ble_eq_true rfl⟩) (zp_VW 0 rfl rfl hP hD hK hSt hS hA hnw) rfl rfl hl.1 rfl (lv_room (Nat.le_of_ble_eq_true rfl)) dX5_command_102 ⟨Nat.le_of_ble_eq_true rfl, Nat.le_of_ble_eq_true rfl⟩) hD hS hA (fun H locs hP hD hS => ?_)
        have hP : va_P D vwCl (rw0 b cA cJ N (va_cpy tF f 0 0 42) (ro z (kBoot N ob)) (t.1, 0, t.2.2.1, t.2.2.2.1, t.2.2.2.2.1, 0) (nBoot nd) q sg th) H := hP
        have hD : va_D A (rw0 b cA cJ N (va_cpy tF f 0 0 42) (ro z (kBoot N ob)) (t.1, 0, t.2.2.1, t.2.2.2.1, t.2.2.2.2.1, 0) (nBoot nd) q sg th) := hD
        rw [hQ]
        have hw9 : (rw0 b cA cJ N (va_cpy tF f 0 0 42) (ro z (kBoot N ob)) (t.1, 0, t.2.2.1, t.2.2.2.1, t.2.2.2.2.1, 0) (nBoot nd) q sg th) = r4 b cA cJ N z th (kCmd N f ob tr nd wh) ((t.1, 0, t.2.2.1, t.2.2.2.1, t.2.2.2.2.1, 0), q, sg) := by simp only [kCmd, nRun, if_neg (fun h : wh = 1 => hc1 (by rw [h]; rfl)), if_neg (fun h : wh = 2 => hc2 (by rw [h]; rfl)), if_neg (fun h : wh = 128 => hc3 (by rw [h]; rfl)), if_neg (fun h : wh = 129 => hc4 (by rw [h]; rfl)), if_pos (show wh = 130 from (nI_eq (by omega) (by decide)).mp hc5)]; rfl
        have hr9 : rel2 (kCmd N f ob tr nd wh).2.2.1 (t.1, 0, t.2.2.1, t.2.2.2.1, t.2.2.2.2.1, 0) := by simp only [kCmd, nRun, if_neg (fun h : wh = 1 => hc1 (by rw [h]; rfl)), if_neg (fun h : wh = 2 => hc2 (by rw [h]; rfl)), if_neg (fun h : wh = 128 => hc3 (by rw [h]; rfl)), if_neg (fun h : wh = 129 => hc4 (by rw [h]; rfl)), if_pos (show wh = 130 from (nI_eq (by omega) (by decide)).mp hc5)]; exact rel2_off hR _
        exact W.vret hx hb hr (fun t9 ht hW => ⟨rfl, ((t.1, 0, t.2.2.1, t.2.2.2.1, t.2.2.2.2.1, 0), q, sg), hr9, by rw [ht, ← hw9]; exact hP, by rw [← hw9]; exact hD, hS.F ht⟩) hS.2.2 dX5_command_105
      refine lv_aload_n hx hb dX5_command_59 rfl (lv_at hl 0 rfl) ?_
      refine lv_bipush (v := 127) hx hb dX5_command_60 (by decide) ?_
      refine va_put (D := D) (ci := 5) (v := .int 127) (fs := [.int th, .int N, .ref (b 1), .ref (b 2), .ref (b 3), .ref (b 4), .ref (b 5), .ref (b 6), .int 22, .int 95, .int nd.1, .int nd.2.2.1, .int nd.2.1, .long nd.2.2.2, .int t.2.1, .int t.2.2.1, .int t.2.2.2.1, .int t.2.2.2.2.1, .int t.2.2.2.2.2, .ref (b 7), .long q, .int sg, .ref (b 8), .ref (b 9), .ref (b 10), .int ((ro z ob).2.2.2.1), .int ((ro z ob).2.2.2.2)]) (ty := .int) (C := RX5) (T := TX5) (N := 27) hx hb htb inX5 tyX5 tyX5_ok nmX5 hown hK hP hD hS 0 rfl rfl 10 (by decide) (htb _ kF_X5_82) (fun _ h9 => h9) rfl (by decide +kernel) rfl rfl (Nat.le_of_ble_eq_true rfl) dX5_command_62 (fun H locs hP hD hS => ?_)
      have hP : va_P D vwCl (rw0 b cA cJ N f (ro z ob) t (127, nd.2.1, nd.2.2.1, nd.2.2.2) q sg th) H := hP
      have hD : va_D A (rw0 b cA cJ N f (ro z ob) t (127, nd.2.1, nd.2.2.1, nd.2.2.2) q sg th) := hD
      refine lv_goto (tgt := 105) hx hb dX5_command_65 (by decide) ?_
      rw [hQ]
      have hw9 : (rw0 b cA cJ N f (ro z ob) t (127, nd.2.1, nd.2.2.1, nd.2.2.2) q sg th) = r4 b cA cJ N z th (kCmd N f ob tr nd wh) (t, q, sg) := by simp only [kCmd, nRun, if_neg (fun h : wh = 1 => hc1 (by rw [h]; rfl)), if_neg (fun h : wh = 2 => hc2 (by rw [h]; rfl)), if_pos (show wh = 128 from (nI_eq (by omega) (by decide)).mp hc3)]; rfl
      have hr9 : rel2 (kCmd N f ob tr nd wh).2.2.1 t := by simp only [kCmd, nRun, if_neg (fun h : wh = 1 => hc1 (by rw [h]; rfl)), if_neg (fun h : wh = 2 => hc2 (by rw [h]; rfl)), if_pos (show wh = 128 from (nI_eq (by omega) (by decide)).mp hc3)]; exact hR
      exact W.vret hx hb hr (fun t9 ht hW => ⟨rfl, (t, q, sg), hr9, by rw [ht, ← hw9]; exact hP, by rw [← hw9]; exact hD, hS.F ht⟩) hS.2.2 dX5_command_105
    refine lv_aload_n hx hb dX5_command_39 rfl (lv_at hl 0 rfl) ?_
    refine lv_iconst (v := 4) hx hb dX5_command_40 (by decide) ?_
    refine va_put (D := D) (ci := 5) (v := .int 4) (fs := [.int th, .int N, .ref (b 1), .ref (b 2), .ref (b 3), .ref (b 4), .ref (b 5), .ref (b 6), .int 22, .int 95, .int nd.1, .int nd.2.2.1, .int nd.2.1, .long nd.2.2.2, .int t.2.1, .int t.2.2.1, .int t.2.2.2.1, .int t.2.2.2.2.1, .int t.2.2.2.2.2, .ref (b 7), .long q, .int sg, .ref (b 8), .ref (b 9), .ref (b 10), .int ((ro z ob).2.2.2.1), .int ((ro z ob).2.2.2.2)]) (ty := .int) (C := RX5) (T := TX5) (N := 27) hx hb htb inX5 tyX5 tyX5_ok nmX5 hown hK hP hD hS 0 rfl rfl 10 (by decide) (htb _ kF_X5_82) (fun _ h9 => h9) rfl (by decide +kernel) rfl rfl (Nat.le_of_ble_eq_true rfl) dX5_command_41 (fun H locs hP hD hS => ?_)
    have hP : va_P D vwCl (rw0 b cA cJ N f (ro z ob) t (4, nd.2.1, nd.2.2.1, nd.2.2.2) q sg th) H := hP
    have hD : va_D A (rw0 b cA cJ N f (ro z ob) t (4, nd.2.1, nd.2.2.1, nd.2.2.2) q sg th) := hD
    refine lv_aload_n hx hb dX5_command_44 rfl (lv_at hl 0 rfl) ?_
    refine lv_iconst (v := 0) hx hb dX5_command_45 (by decide) ?_
    refine va_put (D := D) (ci := 5) (v := .int 0) (fs := [.int th, .int N, .ref (b 1), .ref (b 2), .ref (b 3), .ref (b 4), .ref (b 5), .ref (b 6), .int 22, .int 95, .int 4, .int nd.2.2.1, .int nd.2.1, .long nd.2.2.2, .int t.2.1, .int t.2.2.1, .int t.2.2.2.1, .int t.2.2.2.2.1, .int t.2.2.2.2.2, .ref (b 7), .long q, .int sg, .ref (b 8), .ref (b 9), .ref (b 10), .int ((ro z ob).2.2.2.1), .int ((ro z ob).2.2.2.2)]) (ty := .int) (C := RX5) (T := TX5) (N := 27) hx hb htb inX5 tyX5 tyX5_ok nmX5 hown hK hP hD hS 0 rfl rfl 14 (by decide) (htb _ kF_X5_85) (fun _ h9 => h9) rfl (by decide +kernel) rfl rfl (Nat.le_of_ble_eq_true rfl) dX5_command_46 (fun H locs hP hD hS => ?_)
    have hP : va_P D vwCl (rw0 b cA cJ N f (ro z ob) (t.1, 0, t.2.2.1, t.2.2.2.1, t.2.2.2.2.1, t.2.2.2.2.2) (4, nd.2.1, nd.2.2.1, nd.2.2.2) q sg th) H := hP
    have hD : va_D A (rw0 b cA cJ N f (ro z ob) (t.1, 0, t.2.2.1, t.2.2.2.1, t.2.2.2.2.1, t.2.2.2.2.2) (4, nd.2.1, nd.2.2.1, nd.2.2.2) q sg th) := hD
    refine lv_goto (tgt := 105) hx hb dX5_command_49 (by decide) ?_
    rw [hQ]
    have hw9 : (rw0 b cA cJ N f (ro z ob) (t.1, 0, t.2.2.1, t.2.2.2.1, t.2.2.2.2.1, t.2.2.2.2.2) (4, nd.2.1, nd.2.2.1, nd.2.2.2) q sg th) = r4 b cA cJ N z th (kCmd N f ob tr nd wh) ((t.1, 0, t.2.2.1, t.2.2.2.1, t.2.2.2.2.1, t.2.2.2.2.2), q, sg) := by simp only [kCmd, nRun, if_neg (fun h : wh = 1 => hc1 (by rw [h]; rfl)), if_pos (show wh = 2 from (nI_eq (by omega) (by decide)).mp hc2)]; rfl
    have hr9 : rel2 (kCmd N f ob tr nd wh).2.2.1 (t.1, 0, t.2.2.1, t.2.2.2.1, t.2.2.2.2.1, t.2.2.2.2.2) := by simp only [kCmd, nRun, if_neg (fun h : wh = 1 => hc1 (by rw [h]; rfl)), if_pos (show wh = 2 from (nI_eq (by omega) (by decide)).mp hc2)]; exact rel2_off hR _
    exact W.vret hx hb hr (fun t9 ht hW => ⟨rfl, ((t.1, 0, t.2.2.1, t.2.2.2.1, t.2.2.2.2.1, t.2.2.2.2.2), q, sg), hr9, by rw [ht, ← hw9]; exact hP, by rw [← hw9]; exact hD, hS.F ht⟩) hS.2.2 dX5_command_105
  refine lv_aload_n hx hb dX5_command_5 rfl (lv_at hl 0 rfl) ?_
  refine va_get (D := D) (ci := 5) (v := .int nd.1) (fs := [.int th, .int N, .ref (b 1), .ref (b 2), .ref (b 3), .ref (b 4), .ref (b 5), .ref (b 6), .int 22, .int 95, .int nd.1, .int nd.2.2.1, .int nd.2.1, .long nd.2.2.2, .int t.2.1, .int t.2.2.1, .int t.2.2.2.1, .int t.2.2.2.2.1, .int t.2.2.2.2.2, .ref (b 7), .long q, .int sg, .ref (b 8), .ref (b 9), .ref (b 10), .int ((ro z ob).2.2.2.1), .int ((ro z ob).2.2.2.2)]) (C := RX5) (T := TX5) (N := 27) hx hb htb inX5 hown hK hP 0 rfl rfl 10 (by decide) (htb _ kF_X5_82) (fun _ h9 => h9) rfl dX5_command_6 ?_
  refine lv_iconst (v := 5) hx hb dX5_command_9 (by decide) ?_
  refine lv_icmp_eq (tgt := 26) hx hb dX5_command_10 (by decide) (fun hc6 => ?_) (fun hc6 => ?_)
  · refine lv_aload_n hx hb dX5_command_26 rfl (lv_at hl 0 rfl) ?_
    refine lv_iconst (v := 5) hx hb dX5_command_27 (by decide) ?_
    refine va_put (D := D) (ci := 5) (v := .int 5) (fs := [.int th, .int N, .ref (b 1), .ref (b 2), .ref (b 3), .ref (b 4), .ref (b 5), .ref (b 6), .int 22, .int 95, .int nd.1, .int nd.2.2.1, .int nd.2.1, .long nd.2.2.2, .int t.2.1, .int t.2.2.1, .int t.2.2.2.1, .int t.2.2.2.2.1, .int t.2.2.2.2.2, .ref (b 7), .long q, .int sg, .ref (b 8), .ref (b 9), .ref (b 10), .int ((ro z ob).2.2.2.1), .int ((ro z ob).2.2.2.2)]) (ty := .int) (C := RX5) (T := TX5) (N := 27) hx hb htb inX5 tyX5 tyX5_ok nmX5 hown hK hP hD hS 0 rfl rfl 10 (by decide) (htb _ kF_X5_82) (fun _ h9 => h9) rfl (by decide +kernel) rfl rfl (Nat.le_of_ble_eq_true rfl) dX5_command_28 (fun H locs hP hD hS => ?_)
    have hP : va_P D vwCl (rw0 b cA cJ N f (ro z ob) t (5, nd.2.1, nd.2.2.1, nd.2.2.2) q sg th) H := hP
    have hD : va_D A (rw0 b cA cJ N f (ro z ob) t (5, nd.2.1, nd.2.2.1, nd.2.2.2) q sg th) := hD
    have e7 : (5 : Int32) = nd.1 := hc6.symm
    have hP : va_P D vwCl (rw0 b cA cJ N f (ro z ob) t nd q sg th) _ := Eq.mp (congrArg (fun zz9 : Int32 => va_P D vwCl (rw0 b cA cJ N f (ro z ob) t (zz9, nd.2.1, nd.2.2.1, nd.2.2.2) q sg th) _) e7) hP
    have hD : va_D A (rw0 b cA cJ N f (ro z ob) t nd q sg th) := Eq.mp (congrArg (fun zz9 : Int32 => va_D A (rw0 b cA cJ N f (ro z ob) t (zz9, nd.2.1, nd.2.2.1, nd.2.2.2) q sg th)) e7) hD
    refine lv_goto (tgt := 105) hx hb dX5_command_31 (by decide) ?_
    rw [hQ]
    have hw9 : (rw0 b cA cJ N f (ro z ob) t nd q sg th) = r4 b cA cJ N z th (kCmd N f ob tr nd wh) (t, q, sg) := by simp only [kCmd, nRun, if_pos (show wh = 1 from (nI_eq (by omega) (by decide)).mp hc1), if_pos hc6]; rfl
    have hr9 : rel2 (kCmd N f ob tr nd wh).2.2.1 t := by simp only [kCmd, nRun, if_pos (show wh = 1 from (nI_eq (by omega) (by decide)).mp hc1), if_pos hc6]; exact hR
    exact W.vret hx hb hr (fun t9 ht hW => ⟨rfl, (t, q, sg), hr9, by rw [ht, ← hw9]; exact hP, by rw [← hw9]; exact hD, hS.F ht⟩) hS.2.2 dX5_command_105
  refine lv_aload_n hx hb dX5_command_13 rfl (lv_at hl 0 rfl) ?_
  refine lv_iconst (v := 0) hx hb dX5_command_14 (by decide) ?_
  refine va_put (D := D) (ci := 5) (v := .int 0) (fs := [.int th, .int N, .ref (b 1), .ref (b 2), .ref (b 3), .ref (b 4), .ref (b 5), .ref (b 6), .int 22, .int 95, .int nd.1, .int nd.2.2.1, .int nd.2.1, .long nd.2.2.2, .int t.2.1, .int t.2.2.1, .int t.2.2.2.1, .int t.2.2.2.2.1, .int t.2.2.2.2.2, .ref (b 7), .long q, .int sg, .ref (b 8), .ref (b 9), .ref (b 10), .int ((ro z ob).2.2.2.1), .int ((ro z ob).2.2.2.2)]) (ty := .int) (C := RX5) (T := TX5) (N := 27) hx hb htb inX5 tyX5 tyX5_ok nmX5 hown hK hP hD hS 0 rfl rfl 12 (by decide) (htb _ kF_X5_91) (fun _ h9 => h9) rfl (by decide +kernel) rfl rfl (Nat.le_of_ble_eq_true rfl) dX5_command_15 (fun H locs hP hD hS => ?_)
  have hP : va_P D vwCl (rw0 b cA cJ N f (ro z ob) t (nd.1, 0, nd.2.2.1, nd.2.2.2) q sg th) H := hP
  have hD : va_D A (rw0 b cA cJ N f (ro z ob) t (nd.1, 0, nd.2.2.1, nd.2.2.2) q sg th) := hD
  refine lv_aload_n hx hb dX5_command_18 rfl (lv_at hl 0 rfl) ?_
  refine lv_aload_n hx hb dX5_command_19 rfl (lv_at hl 0 rfl) ?_
  refine zb_cl (va_runV (As := []) (rest := [.ref (b 0)]) ⟨hx, hb, hml, hown, htb⟩ (r_content l D b cA cJ N f (ro z ob) t (nd.1, 0, nd.2.2.1, nd.2.2.2) q sg th hB hG) (cwV 0 htb (wb_V kM_X5_108 kI_X5_content kS_X5_content kN_X5 kD_X5_content) rfl rfl rfl (by decide +kernel) ⟨Nat.le_of_ble_eq_true rfl, Nat.le_of_ble_eq_true rfl⟩) (zp_V 0 rfl rfl hP hK hSt hS hnw) rfl rfl hl.1 rfl (lv_room (Nat.le_of_ble_eq_true rfl)) dX5_command_20 ⟨Nat.le_of_ble_eq_true rfl, Nat.le_of_ble_eq_true rfl⟩) ?_
  refine va_put (D := D) (ci := 5) (v := .long (lN (gC f))) (fs := [.int th, .int N, .ref (b 1), .ref (b 2), .ref (b 3), .ref (b 4), .ref (b 5), .ref (b 6), .int 22, .int 95, .int nd.1, .int nd.2.2.1, .int 0, .long nd.2.2.2, .int t.2.1, .int t.2.2.1, .int t.2.2.2.1, .int t.2.2.2.2.1, .int t.2.2.2.2.2, .ref (b 7), .long q, .int sg, .ref (b 8), .ref (b 9), .ref (b 10), .int ((ro z ob).2.2.2.1), .int ((ro z ob).2.2.2.2)]) (ty := .long) (C := RX5) (T := TX5) (N := 27) hx hb htb inX5 tyX5 tyX5_ok nmX5 hown hK hP hD hS 0 rfl rfl 13 (by decide) (htb _ kF_X5_112) (fun _ h9 => h9) rfl (by decide +kernel) rfl rfl (Nat.le_of_ble_eq_true rfl) dX5_command_23 (fun H locs hP hD hS => ?_)
  have hP : va_P D vwCl (rw0 b cA cJ N f (ro z ob) t (nd.1, 0, nd.2.2.1, lN (gC f)) q sg th) H := hP
  have hD : va_D A (rw0 b cA cJ N f (ro z ob) t (nd.1, 0, nd.2.2.1, lN (gC f)) q sg th) := hD
  refine lv_aload_n hx hb dX5_command_26 rfl (lv_at hl 0 rfl) ?_
  refine lv_iconst (v := 5) hx hb dX5_command_27 (by decide) ?_
  refine va_put (D := D) (ci := 5) (v := .int 5) (fs := [.int th, .int N, .ref (b 1), .ref (b 2), .ref (b 3), .ref (b 4), .ref (b 5), .ref (b 6), .int 22, .int 95, .int nd.1, .int nd.2.2.1, .int 0, .long (lN (gC f)), .int t.2.1, .int t.2.2.1, .int t.2.2.2.1, .int t.2.2.2.2.1, .int t.2.2.2.2.2, .ref (b 7), .long q, .int sg, .ref (b 8), .ref (b 9), .ref (b 10), .int ((ro z ob).2.2.2.1), .int ((ro z ob).2.2.2.2)]) (ty := .int) (C := RX5) (T := TX5) (N := 27) hx hb htb inX5 tyX5 tyX5_ok nmX5 hown hK hP hD hS 0 rfl rfl 10 (by decide) (htb _ kF_X5_82) (fun _ h9 => h9) rfl (by decide +kernel) rfl rfl (Nat.le_of_ble_eq_true rfl) dX5_command_28 (fun H locs hP hD hS => ?_)
  have hP : va_P D vwCl (rw0 b cA cJ N f (ro z ob) t (5, 0, nd.2.2.1, lN (gC f)) q sg th) H := hP
  have hD : va_D A (rw0 b cA cJ N f (ro z ob) t (5, 0, nd.2.2.1, lN (gC f)) q sg th) := hD
  refine lv_goto (tgt := 105) hx hb dX5_command_31 (by decide) ?_
  rw [hQ]
  have hw9 : (rw0 b cA cJ N f (ro z ob) t (5, 0, nd.2.2.1, lN (gC f)) q sg th) = r4 b cA cJ N z th (kCmd N f ob tr nd wh) (t, q, sg) := by simp only [kCmd, nRun, if_pos (show wh = 1 from (nI_eq (by omega) (by decide)).mp hc1), if_neg hc6]; rfl
  have hr9 : rel2 (kCmd N f ob tr nd wh).2.2.1 t := by simp only [kCmd, nRun, if_pos (show wh = 1 from (nI_eq (by omega) (by decide)).mp hc1), if_neg hc6]; exact hR
  exact W.vret hx hb hr (fun t9 ht hW => ⟨rfl, (t, q, sg), hr9, by rw [ht, ← hw9]; exact hP, by rw [← hw9]; exact hD, hS.F ht⟩) hS.2.2 dX5_command_105
set_option maxHeartbeats 4000000 in
set_option maxRecDepth 100000 in
theorem r_storeOk (l : Launch) (D : va_G) (b : Nat → Nat) (cA cJ : ClassId) (N : Int32) (f : Nat → Int32) (z : Int32) (ob : OB) (t : RT) (nd : ND) (q : Int64) (sg th : Int32) (sz : Nat) (e : Nat) (hB : isB f) (hBh : isB t.1) (he : e < 22) (hF : nI (stF nd.1 f e (sm t.1 0 (min (xZ e) 4))) = 0) : Met l yX5_store (wX5_store :: wb) ({ frames := 3, cells := 0, slots := 0, locals := 74 } : Room) (va_Pc [.ref (b 0), .int (nI e)] (zPre D [(cA, .int), (cJ, .long)] (rw0 b cA cJ N f (ro z ob) t nd q sg th) sz)) (zb_Vi 1 D vwCl (rw0 b cA cJ N (fSto f t.1 e) (ro z ob) t (nSto e nd) q sg th) (va_A (rw0 b cA cJ N f (ro z ob) t nd q sg th) sz)) 0 0 (va_A (rw0 b cA cJ N f (ro z ob) t nd q sg th) sz) := by
  refine Met.ofW (cc := cX5_store) (maxL := 4) (ret := (some .boolean)) (by decide) rfl ?_
  intro p ev s m args below meth c s₁ B hml hv
  obtain ⟨rfl, hsz, hP, hK, hD0, hSt, hnw⟩ := hv
  have hx := B.exec
  have hb := B.bytes
  have hr := B.returns
  have hts := atoms_spec (ws := wX5_store :: wb) B.pre
  have htb : ∀ w ∈ wb, w.before ([.ref (b 0), .int (nI e)]).toArray s = true := fun w h => hts w (List.mem_cons_of_mem _ h)
  have hown : s.vm.findClass RX5 = some m.cls := findClass_of_methodNamed B.named
  have hlocks := B.notSynchronized
  subst hsz
  have hD := hD0.self (sz := s.heap.size)
  clear hD0
  generalize hAe : va_A (rw0 b cA cJ N f (ro z ob) t nd q sg th) s.heap.size = A at hD hSt ⊢
  have hA : ∀ q : Nat, s.heap.size ≤ q → A q := fun q h => by rw [← hAe]; exact Or.inr h
  have hS : va_S A s.heap s.heap [] := va_S.rf
  obtain ⟨⟨tt, ff, hZT, hTT, hZF, hTF⟩, hXS⟩ := id hSt
  have hl := lv_entry ([.ref (b 0), .int (nI e)]) (n := 4) (Nat.le_of_ble_eq_true rfl)
  rw [lg_entry_eq]
  generalize (lg_sl ([.ref (b 0), .int (nI e)]) ++ List.replicate (4 - (lg_sl ([.ref (b 0), .int (nI e)])).length) Slot.unset).toArray = ls at hl ⊢
  have hl : lv_has ls 4 [(0, .ref (b 0)), (1, .int (nI e))] := hl
  refine zb_abs (fun Q hQ => ?_)
  have hft := x_fit e he
  refine lv_aload_n hx hb dX5_store_0 rfl (lv_at hl 0 rfl) ?_
  refine lv_iload_n hx hb dX5_store_1 rfl (lv_at hl 1 rfl) ?_
  refine zb_ci (va_runV (As := [.int (nI e)]) (rest := []) ⟨hx, hb, hml, hown, htb⟩ (r_storing l D b cA cJ N f (ro z ob) t nd q sg th e hB hBh he) (cwV 1 htb (wb_V kM_X5_145 kI_X5_storing kS_X5_storing kN_X5 kD_X5_storing) rfl rfl rfl (by decide +kernel) ⟨Nat.le_of_ble_eq_true rfl, Nat.le_of_ble_eq_true rfl⟩) (zp_V 0 rfl rfl hP hK hSt hS hnw) rfl rfl hl.1 rfl (lv_room (Nat.le_of_ble_eq_true rfl)) dX5_store_2 ⟨Nat.le_of_ble_eq_true rfl, Nat.le_of_ble_eq_true rfl⟩) ?_
  refine lv_istore_n hx hb dX5_store_5 rfl hl (by decide) rfl (fun ls hl => ?_)
  have hl : lv_has ls 4 [(2, .int (nI (stF nd.1 f e (sm t.1 0 (min (xZ e) 4))))), (0, .ref (b 0)), (1, .int (nI e))] := hl
  refine lv_iload_n hx hb dX5_store_6 rfl (lv_at hl 0 rfl) ?_
  refine lv_if_eq (tgt := 21) hx hb dX5_store_7 (by decide) (fun _ => ?_) (fun hno => absurd (hF) hno)
  refine lv_iconst (v := 0) hx hb dX5_store_21 (by decide) ?_
  refine lv_istore_n hx hb dX5_store_22 rfl hl (by decide) rfl (fun ls hl => ?_)
  have hl : lv_has ls 4 [(3, .int 0), (2, .int (nI (stF nd.1 f e (sm t.1 0 (min (xZ e) 4))))), (0, .ref (b 0)), (1, .int (nI e))] := hl
  have e1 : (f : Nat → Int32) = (va_cpy t.1 f 0 (xP e) (0)) := (cpy_0 t.1 f (xP e)).symm
  have hP : va_P D vwCl (rw0 b cA cJ N (va_cpy t.1 f 0 (xP e) (0)) (ro z ob) t nd q sg th) _ := Eq.mp (congrArg (fun zz9 : Nat → Int32 => va_P D vwCl (rw0 b cA cJ N zz9 (ro z ob) t nd q sg th) _) e1) hP
  have hD : va_D A (rw0 b cA cJ N (va_cpy t.1 f 0 (xP e) (0)) (ro z ob) t nd q sg th) := Eq.mp (congrArg (fun zz9 : Nat → Int32 => va_D A (rw0 b cA cJ N zz9 (ro z ob) t nd q sg th)) e1) hD
  have lp : ∀ (nn k : Nat) (ls : Array Slot) (H : Heap) (locs : List Loc), va_P D vwCl (rw0 b cA cJ N (va_cpy t.1 f 0 (xP e) (k)) (ro z ob) t nd q sg th) H → va_D A (rw0 b cA cJ N (va_cpy t.1 f 0 (xP e) (k)) (ro z ob) t nd q sg th) → va_S A s.heap H locs → k + nn = xZ e → lv_has ls 4 [(0, .ref (b 0)), (1, .int (nI e)), (2, .int (nI (stF nd.1 f e (sm t.1 0 (min (xZ e) 4))))), (3, .int (nI (k)))] → W p l ev ({ frames := 3, cells := 0, slots := 0, locals := 74 } : Room) s m ([.ref (b 0), .int (nI e)]).toArray below meth c H locs 0 0 Q (F0 m 23 ls []) := by
    intro nn
    induction nn with
    | zero =>
      intro k ls H locs hP hD hS hk_lp  hl
      have hk0_lp : k = xZ e := by omega
      refine lv_iload_n hx hb dX5_store_23 rfl (lv_at hl 3 rfl) ?_
      refine lv_aload_n hx hb dX5_store_24 rfl (lv_at hl 0 rfl) ?_
      refine va_get (D := D) (ci := 5) (v := .ref (b 3)) (fs := [.int th, .int N, .ref (b 1), .ref (b 2), .ref (b 3), .ref (b 4), .ref (b 5), .ref (b 6), .int 22, .int 95, .int nd.1, .int nd.2.2.1, .int nd.2.1, .long nd.2.2.2, .int t.2.1, .int t.2.2.1, .int t.2.2.2.1, .int t.2.2.2.2.1, .int t.2.2.2.2.2, .ref (b 7), .long q, .int sg, .ref (b 8), .ref (b 9), .ref (b 10), .int ((ro z ob).2.2.2.1), .int ((ro z ob).2.2.2.2)]) (C := RX5) (T := TX5) (N := 27) hx hb htb inX5 hown hK hP 0 rfl rfl 4 (by decide) (htb _ kF_X5_16) (fun _ h9 => h9) rfl dX5_store_25 ?_
      refine lv_iload_n hx hb dX5_store_28 rfl (lv_at hl 1 rfl) ?_
      refine va_iald (i := nI e) hx hb hK hP 3 0 rfl rfl (vp_in_nI (by omega) (by decide)) dX5_store_29 ?_
      refine zb_ti (y := nI (xZ e)) (by rw [nI_clamp (by omega)]) ?_
      refine lv_icmp_ge (tgt := 58) hx hb dX5_store_30 (by decide) (fun _ => ?_) (fun hno => absurd (by rw [hk0_lp]; exact nI_le (Nat.le_refl _) (by omega)) hno)
      refine lv_aload_n hx hb dX5_store_58 rfl (lv_at hl 0 rfl) ?_
      refine lv_iload_n hx hb dX5_store_59 rfl (lv_at hl 1 rfl) ?_
      refine lv_bipush (v := 8) hx hb dX5_store_60 (by decide) ?_
      refine lv_icmp_ne (tgt := 69) hx hb dX5_store_62 (by decide) (fun hc2 => ?_) (fun hc2 => ?_)
      · refine lv_aload_n hx hb dX5_store_69 rfl (lv_at hl 0 rfl) ?_
        refine va_get (D := D) (ci := 5) (v := .int nd.2.1) (fs := [.int th, .int N, .ref (b 1), .ref (b 2), .ref (b 3), .ref (b 4), .ref (b 5), .ref (b 6), .int 22, .int 95, .int nd.1, .int nd.2.2.1, .int nd.2.1, .long nd.2.2.2, .int t.2.1, .int t.2.2.1, .int t.2.2.2.1, .int t.2.2.2.2.1, .int t.2.2.2.2.2, .ref (b 7), .long q, .int sg, .ref (b 8), .ref (b 9), .ref (b 10), .int ((ro z ob).2.2.2.1), .int ((ro z ob).2.2.2.2)]) (C := RX5) (T := TX5) (N := 27) hx hb htb inX5 hown hK hP 0 rfl rfl 12 (by decide) (htb _ kF_X5_91) (fun _ h9 => h9) rfl dX5_store_70 ?_
        refine va_put (D := D) (ci := 5) (v := .int nd.2.1) (fs := [.int th, .int N, .ref (b 1), .ref (b 2), .ref (b 3), .ref (b 4), .ref (b 5), .ref (b 6), .int 22, .int 95, .int nd.1, .int nd.2.2.1, .int nd.2.1, .long nd.2.2.2, .int t.2.1, .int t.2.2.1, .int t.2.2.2.1, .int t.2.2.2.2.1, .int t.2.2.2.2.2, .ref (b 7), .long q, .int sg, .ref (b 8), .ref (b 9), .ref (b 10), .int ((ro z ob).2.2.2.1), .int ((ro z ob).2.2.2.2)]) (ty := .int) (C := RX5) (T := TX5) (N := 27) hx hb htb inX5 tyX5 tyX5_ok nmX5 hown hK hP hD hS 0 rfl rfl 12 (by decide) (htb _ kF_X5_91) (fun _ h9 => h9) rfl (by decide +kernel) rfl rfl (Nat.le_of_ble_eq_true rfl) dX5_store_73 (fun H locs hP hD hS => ?_)
        have hP : va_P D vwCl (rw0 b cA cJ N (va_cpy t.1 f 0 (xP e) (k)) (ro z ob) t nd q sg th) H := hP
        have hD : va_D A (rw0 b cA cJ N (va_cpy t.1 f 0 (xP e) (k)) (ro z ob) t nd q sg th) := hD
        refine lv_aload_n hx hb dX5_store_76 rfl (lv_at hl 0 rfl) ?_
        refine lv_iload_n hx hb dX5_store_77 rfl (lv_at hl 1 rfl) ?_
        refine lv_iconst (v := 2) hx hb dX5_store_78 (by decide) ?_
        refine lv_icmp_ne (tgt := 86) hx hb dX5_store_79 (by decide) (fun hc3 => ?_) (fun hc3 => ?_)
        · refine lv_aload_n hx hb dX5_store_86 rfl (lv_at hl 0 rfl) ?_
          refine va_get (D := D) (ci := 5) (v := .int nd.2.2.1) (fs := [.int th, .int N, .ref (b 1), .ref (b 2), .ref (b 3), .ref (b 4), .ref (b 5), .ref (b 6), .int 22, .int 95, .int nd.1, .int nd.2.2.1, .int nd.2.1, .long nd.2.2.2, .int t.2.1, .int t.2.2.1, .int t.2.2.2.1, .int t.2.2.2.2.1, .int t.2.2.2.2.2, .ref (b 7), .long q, .int sg, .ref (b 8), .ref (b 9), .ref (b 10), .int ((ro z ob).2.2.2.1), .int ((ro z ob).2.2.2.2)]) (C := RX5) (T := TX5) (N := 27) hx hb htb inX5 hown hK hP 0 rfl rfl 11 (by decide) (htb _ kF_X5_88) (fun _ h9 => h9) rfl dX5_store_87 ?_
          refine va_put (D := D) (ci := 5) (v := .int nd.2.2.1) (fs := [.int th, .int N, .ref (b 1), .ref (b 2), .ref (b 3), .ref (b 4), .ref (b 5), .ref (b 6), .int 22, .int 95, .int nd.1, .int nd.2.2.1, .int nd.2.1, .long nd.2.2.2, .int t.2.1, .int t.2.2.1, .int t.2.2.2.1, .int t.2.2.2.2.1, .int t.2.2.2.2.2, .ref (b 7), .long q, .int sg, .ref (b 8), .ref (b 9), .ref (b 10), .int ((ro z ob).2.2.2.1), .int ((ro z ob).2.2.2.2)]) (ty := .int) (C := RX5) (T := TX5) (N := 27) hx hb htb inX5 tyX5 tyX5_ok nmX5 hown hK hP hD hS 0 rfl rfl 11 (by decide) (htb _ kF_X5_88) (fun _ h9 => h9) rfl (by decide +kernel) rfl rfl (Nat.le_of_ble_eq_true rfl) dX5_store_90 (fun H locs hP hD hS => ?_)
          have hP : va_P D vwCl (rw0 b cA cJ N (va_cpy t.1 f 0 (xP e) (k)) (ro z ob) t nd q sg th) H := hP
          have hD : va_D A (rw0 b cA cJ N (va_cpy t.1 f 0 (xP e) (k)) (ro z ob) t nd q sg th) := hD
          refine lv_iconst (v := 1) hx hb dX5_store_93 (by decide) ?_
          rw [hQ]
          have hw9 : (rw0 b cA cJ N (va_cpy t.1 f 0 (xP e) (k)) (ro z ob) t nd q sg th) = (rw0 b cA cJ N (fSto f t.1 e) (ro z ob) t (nSto e nd) q sg th) := by first | (rw [hk0_lp]; simp only [fSto, nSto, if_neg hc2, if_neg hc3]; done) | (rw [hk0_lp]; simp only [fSto, nSto, if_neg hc2, if_neg hc3]; rfl)
          exact W.zret (v := 1) hx hb hr (rfl) (fun t9 ht hW => ⟨congrArg (fun z => Outcome.returned (some (Value.int z))) (rfl), by rw [ht, ← hw9]; exact hP, by rw [← hw9]; exact hD, hS.F ht⟩) hS.2.2 dX5_store_94
        refine lv_iconst (v := 0) hx hb dX5_store_82 (by decide) ?_
        refine lv_goto (tgt := 90) hx hb dX5_store_83 (by decide) ?_
        refine va_put (D := D) (ci := 5) (v := .int 0) (fs := [.int th, .int N, .ref (b 1), .ref (b 2), .ref (b 3), .ref (b 4), .ref (b 5), .ref (b 6), .int 22, .int 95, .int nd.1, .int nd.2.2.1, .int nd.2.1, .long nd.2.2.2, .int t.2.1, .int t.2.2.1, .int t.2.2.2.1, .int t.2.2.2.2.1, .int t.2.2.2.2.2, .ref (b 7), .long q, .int sg, .ref (b 8), .ref (b 9), .ref (b 10), .int ((ro z ob).2.2.2.1), .int ((ro z ob).2.2.2.2)]) (ty := .int) (C := RX5) (T := TX5) (N := 27) hx hb htb inX5 tyX5 tyX5_ok nmX5 hown hK hP hD hS 0 rfl rfl 11 (by decide) (htb _ kF_X5_88) (fun _ h9 => h9) rfl (by decide +kernel) rfl rfl (Nat.le_of_ble_eq_true rfl) dX5_store_90 (fun H locs hP hD hS => ?_)
        have hP : va_P D vwCl (rw0 b cA cJ N (va_cpy t.1 f 0 (xP e) (k)) (ro z ob) t (nd.1, nd.2.1, 0, nd.2.2.2) q sg th) H := hP
        have hD : va_D A (rw0 b cA cJ N (va_cpy t.1 f 0 (xP e) (k)) (ro z ob) t (nd.1, nd.2.1, 0, nd.2.2.2) q sg th) := hD
        refine lv_iconst (v := 1) hx hb dX5_store_93 (by decide) ?_
        rw [hQ]
        have hw9 : (rw0 b cA cJ N (va_cpy t.1 f 0 (xP e) (k)) (ro z ob) t (nd.1, nd.2.1, 0, nd.2.2.2) q sg th) = (rw0 b cA cJ N (fSto f t.1 e) (ro z ob) t (nSto e nd) q sg th) := by first | (rw [hk0_lp]; simp only [fSto, nSto, if_neg hc2, if_pos hc3]; done) | (rw [hk0_lp]; simp only [fSto, nSto, if_neg hc2, if_pos hc3]; rfl)
        exact W.zret (v := 1) hx hb hr (rfl) (fun t9 ht hW => ⟨congrArg (fun z => Outcome.returned (some (Value.int z))) (rfl), by rw [ht, ← hw9]; exact hP, by rw [← hw9]; exact hD, hS.F ht⟩) hS.2.2 dX5_store_94
      refine lv_iconst (v := 0) hx hb dX5_store_65 (by decide) ?_
      refine lv_goto (tgt := 73) hx hb dX5_store_66 (by decide) ?_
      refine va_put (D := D) (ci := 5) (v := .int 0) (fs := [.int th, .int N, .ref (b 1), .ref (b 2), .ref (b 3), .ref (b 4), .ref (b 5), .ref (b 6), .int 22, .int 95, .int nd.1, .int nd.2.2.1, .int nd.2.1, .long nd.2.2.2, .int t.2.1, .int t.2.2.1, .int t.2.2.2.1, .int t.2.2.2.2.1, .int t.2.2.2.2.2, .ref (b 7), .long q, .int sg, .ref (b 8), .ref (b 9), .ref (b 10), .int ((ro z ob).2.2.2.1), .int ((ro z ob).2.2.2.2)]) (ty := .int) (C := RX5) (T := TX5) (N := 27) hx hb htb inX5 tyX5 tyX5_ok nmX5 hown hK hP hD hS 0 rfl rfl 12 (by decide) (htb _ kF_X5_91) (fun _ h9 => h9) rfl (by decide +kernel) rfl rfl (Nat.le_of_ble_eq_true rfl) dX5_store_73 (fun H locs hP hD hS => ?_)
      have hP : va_P D vwCl (rw0 b cA cJ N (va_cpy t.1 f 0 (xP e) (k)) (ro z ob) t (nd.1, 0, nd.2.2.1, nd.2.2.2) q sg th) H := hP
      have hD : va_D A (rw0 b cA cJ N (va_cpy t.1 f 0 (xP e) (k)) (ro z ob) t (nd.1, 0, nd.2.2.1, nd.2.2.2) q sg th) := hD
      refine lv_aload_n hx hb dX5_store_76 rfl (lv_at hl 0 rfl) ?_
      refine lv_iload_n hx hb dX5_store_77 rfl (lv_at hl 1 rfl) ?_
      refine lv_iconst (v := 2) hx hb dX5_store_78 (by decide) ?_
      refine lv_icmp_ne (tgt := 86) hx hb dX5_store_79 (by decide) (fun hc4 => ?_) (fun hc4 => ?_)
      · refine lv_aload_n hx hb dX5_store_86 rfl (lv_at hl 0 rfl) ?_
        refine va_get (D := D) (ci := 5) (v := .int nd.2.2.1) (fs := [.int th, .int N, .ref (b 1), .ref (b 2), .ref (b 3), .ref (b 4), .ref (b 5), .ref (b 6), .int 22, .int 95, .int nd.1, .int nd.2.2.1, .int 0, .long nd.2.2.2, .int t.2.1, .int t.2.2.1, .int t.2.2.2.1, .int t.2.2.2.2.1, .int t.2.2.2.2.2, .ref (b 7), .long q, .int sg, .ref (b 8), .ref (b 9), .ref (b 10), .int ((ro z ob).2.2.2.1), .int ((ro z ob).2.2.2.2)]) (C := RX5) (T := TX5) (N := 27) hx hb htb inX5 hown hK hP 0 rfl rfl 11 (by decide) (htb _ kF_X5_88) (fun _ h9 => h9) rfl dX5_store_87 ?_
        refine va_put (D := D) (ci := 5) (v := .int nd.2.2.1) (fs := [.int th, .int N, .ref (b 1), .ref (b 2), .ref (b 3), .ref (b 4), .ref (b 5), .ref (b 6), .int 22, .int 95, .int nd.1, .int nd.2.2.1, .int 0, .long nd.2.2.2, .int t.2.1, .int t.2.2.1, .int t.2.2.2.1, .int t.2.2.2.2.1, .int t.2.2.2.2.2, .ref (b 7), .long q, .int sg, .ref (b 8), .ref (b 9), .ref (b 10), .int ((ro z ob).2.2.2.1), .int ((ro z ob).2.2.2.2)]) (ty := .int) (C := RX5) (T := TX5) (N := 27) hx hb htb inX5 tyX5 tyX5_ok nmX5 hown hK hP hD hS 0 rfl rfl 11 (by decide) (htb _ kF_X5_88) (fun _ h9 => h9) rfl (by decide +kernel) rfl rfl (Nat.le_of_ble_eq_true rfl) dX5_store_90 (fun H locs hP hD hS => ?_)
        have hP : va_P D vwCl (rw0 b cA cJ N (va_cpy t.1 f 0 (xP e) (k)) (ro z ob) t (nd.1, 0, nd.2.2.1, nd.2.2.2) q sg th) H := hP
        have hD : va_D A (rw0 b cA cJ N (va_cpy t.1 f 0 (xP e) (k)) (ro z ob) t (nd.1, 0, nd.2.2.1, nd.2.2.2) q sg th) := hD
        refine lv_iconst (v := 1) hx hb dX5_store_93 (by decide) ?_
        rw [hQ]
        have hw9 : (rw0 b cA cJ N (va_cpy t.1 f 0 (xP e) (k)) (ro z ob) t (nd.1, 0, nd.2.2.1, nd.2.2.2) q sg th) = (rw0 b cA cJ N (fSto f t.1 e) (ro z ob) t (nSto e nd) q sg th) := by first | (rw [hk0_lp]; simp only [fSto, nSto, if_pos hc2, if_neg hc4]; done) | (rw [hk0_lp]; simp only [fSto, nSto, if_pos hc2, if_neg hc4]; rfl)
        exact W.zret (v := 1) hx hb hr (rfl) (fun t9 ht hW => ⟨congrArg (fun z => Outcome.returned (some (Value.int z))) (rfl), by rw [ht, ← hw9]; exact hP, by rw [← hw9]; exact hD, hS.F ht⟩) hS.2.2 dX5_store_94
      refine lv_iconst (v := 0) hx hb dX5_store_82 (by decide) ?_
      refine lv_goto (tgt := 90) hx hb dX5_store_83 (by decide) ?_
      refine va_put (D := D) (ci := 5) (v := .int 0) (fs := [.int th, .int N, .ref (b 1), .ref (b 2), .ref (b 3), .ref (b 4), .ref (b 5), .ref (b 6), .int 22, .int 95, .int nd.1, .int nd.2.2.1, .int 0, .long nd.2.2.2, .int t.2.1, .int t.2.2.1, .int t.2.2.2.1, .int t.2.2.2.2.1, .int t.2.2.2.2.2, .ref (b 7), .long q, .int sg, .ref (b 8), .ref (b 9), .ref (b 10), .int ((ro z ob).2.2.2.1), .int ((ro z ob).2.2.2.2)]) (ty := .int) (C := RX5) (T := TX5) (N := 27) hx hb htb inX5 tyX5 tyX5_ok nmX5 hown hK hP hD hS 0 rfl rfl 11 (by decide) (htb _ kF_X5_88) (fun _ h9 => h9) rfl (by decide +kernel) rfl rfl (Nat.le_of_ble_eq_true rfl) dX5_store_90 (fun H locs hP hD hS => ?_)
      have hP : va_P D vwCl (rw0 b cA cJ N (va_cpy t.1 f 0 (xP e) (k)) (ro z ob) t (nd.1, 0, 0, nd.2.2.2) q sg th) H := hP
      have hD : va_D A (rw0 b cA cJ N (va_cpy t.1 f 0 (xP e) (k)) (ro z ob) t (nd.1, 0, 0, nd.2.2.2) q sg th) := hD
      refine lv_iconst (v := 1) hx hb dX5_store_93 (by decide) ?_
      rw [hQ]
      have hw9 : (rw0 b cA cJ N (va_cpy t.1 f 0 (xP e) (k)) (ro z ob) t (nd.1, 0, 0, nd.2.2.2) q sg th) = (rw0 b cA cJ N (fSto f t.1 e) (ro z ob) t (nSto e nd) q sg th) := absurd (hc2.symm.trans hc4) (by decide)
      exact W.zret (v := 1) hx hb hr (rfl) (fun t9 ht hW => ⟨congrArg (fun z => Outcome.returned (some (Value.int z))) (rfl), by rw [ht, ← hw9]; exact hP, by rw [← hw9]; exact hD, hS.F ht⟩) hS.2.2 dX5_store_94
    | succ nn ih_lp =>
      intro k ls H locs hP hD hS hk_lp  hl
      have hk1_lp : k < xZ e := by omega
      refine lv_iload_n hx hb dX5_store_23 rfl (lv_at hl 3 rfl) ?_
      refine lv_aload_n hx hb dX5_store_24 rfl (lv_at hl 0 rfl) ?_
      refine va_get (D := D) (ci := 5) (v := .ref (b 3)) (fs := [.int th, .int N, .ref (b 1), .ref (b 2), .ref (b 3), .ref (b 4), .ref (b 5), .ref (b 6), .int 22, .int 95, .int nd.1, .int nd.2.2.1, .int nd.2.1, .long nd.2.2.2, .int t.2.1, .int t.2.2.1, .int t.2.2.2.1, .int t.2.2.2.2.1, .int t.2.2.2.2.2, .ref (b 7), .long q, .int sg, .ref (b 8), .ref (b 9), .ref (b 10), .int ((ro z ob).2.2.2.1), .int ((ro z ob).2.2.2.2)]) (C := RX5) (T := TX5) (N := 27) hx hb htb inX5 hown hK hP 0 rfl rfl 4 (by decide) (htb _ kF_X5_16) (fun _ h9 => h9) rfl dX5_store_25 ?_
      refine lv_iload_n hx hb dX5_store_28 rfl (lv_at hl 1 rfl) ?_
      refine va_iald (i := nI e) hx hb hK hP 3 0 rfl rfl (vp_in_nI (by omega) (by decide)) dX5_store_29 ?_
      refine zb_ti (y := nI (xZ e)) (by rw [nI_clamp (by omega)]) ?_
      refine lv_icmp_ge (tgt := 58) hx hb dX5_store_30 (by decide) (fun hno => absurd hno (nI_ge (a := k) (b := xZ e) hk1_lp (by omega))) (fun _ => ?_)
      refine lv_aload_n hx hb dX5_store_33 rfl (lv_at hl 0 rfl) ?_
      refine va_get (D := D) (ci := 5) (v := .ref (b 6)) (fs := [.int th, .int N, .ref (b 1), .ref (b 2), .ref (b 3), .ref (b 4), .ref (b 5), .ref (b 6), .int 22, .int 95, .int nd.1, .int nd.2.2.1, .int nd.2.1, .long nd.2.2.2, .int t.2.1, .int t.2.2.1, .int t.2.2.2.1, .int t.2.2.2.2.1, .int t.2.2.2.2.2, .ref (b 7), .long q, .int sg, .ref (b 8), .ref (b 9), .ref (b 10), .int ((ro z ob).2.2.2.1), .int ((ro z ob).2.2.2.2)]) (C := RX5) (T := TX5) (N := 27) hx hb htb inX5 hown hK hP 0 rfl rfl 7 (by decide) (htb _ kF_X5_25) (fun _ h9 => h9) rfl dX5_store_34 ?_
      refine lv_aload_n hx hb dX5_store_37 rfl (lv_at hl 0 rfl) ?_
      refine va_get (D := D) (ci := 5) (v := .ref (b 5)) (fs := [.int th, .int N, .ref (b 1), .ref (b 2), .ref (b 3), .ref (b 4), .ref (b 5), .ref (b 6), .int 22, .int 95, .int nd.1, .int nd.2.2.1, .int nd.2.1, .long nd.2.2.2, .int t.2.1, .int t.2.2.1, .int t.2.2.2.1, .int t.2.2.2.2.1, .int t.2.2.2.2.2, .ref (b 7), .long q, .int sg, .ref (b 8), .ref (b 9), .ref (b 10), .int ((ro z ob).2.2.2.1), .int ((ro z ob).2.2.2.2)]) (C := RX5) (T := TX5) (N := 27) hx hb htb inX5 hown hK hP 0 rfl rfl 6 (by decide) (htb _ kF_X5_22) (fun _ h9 => h9) rfl dX5_store_38 ?_
      refine lv_iload_n hx hb dX5_store_41 rfl (lv_at hl 1 rfl) ?_
      refine va_iald (i := nI e) hx hb hK hP 5 0 rfl rfl (vp_in_nI (by omega) (by decide)) dX5_store_42 ?_
      refine zb_ti (y := nI (xP e)) (by rw [nI_clamp (by omega)]) ?_
      refine lv_iload_n hx hb dX5_store_43 rfl (lv_at hl 3 rfl) ?_
      refine lv_iadd hx hb dX5_store_44 ?_
      refine zb_ti (nI_add (xP e) (k)) ?_
      refine lv_aload_n hx hb dX5_store_45 rfl (lv_at hl 0 rfl) ?_
      refine va_get (D := D) (ci := 5) (v := .ref (b 7)) (fs := [.int th, .int N, .ref (b 1), .ref (b 2), .ref (b 3), .ref (b 4), .ref (b 5), .ref (b 6), .int 22, .int 95, .int nd.1, .int nd.2.2.1, .int nd.2.1, .long nd.2.2.2, .int t.2.1, .int t.2.2.1, .int t.2.2.2.1, .int t.2.2.2.2.1, .int t.2.2.2.2.2, .ref (b 7), .long q, .int sg, .ref (b 8), .ref (b 9), .ref (b 10), .int ((ro z ob).2.2.2.1), .int ((ro z ob).2.2.2.2)]) (C := RX5) (T := TX5) (N := 27) hx hb htb inX5 hown hK hP 0 rfl rfl 19 (by decide) (htb _ kF_X5_28) (fun _ h9 => h9) rfl dX5_store_46 ?_
      refine lv_iload_n hx hb dX5_store_49 rfl (lv_at hl 3 rfl) ?_
      refine va_iald (i := nI (k)) hx hb hK hP 7 0 rfl rfl (vp_in_nI (by omega) (by decide)) dX5_store_50 ?_
      refine zb_ti (y := t.1 (k)) (by rw [nI_clamp (by omega)]) ?_
      refine va_iast (i := nI ((xP e) + (k))) (x := t.1 (k)) hx hb hK hP hD hS 6 0 rfl rfl (vp_in_nI (by omega) (by decide)) dX5_store_51 (fun H locs hP hD hS => ?_)
      rw [nI_clamp (by omega)] at hP hD
      have hP : va_P D vwCl (rw0 b cA cJ N (upd (va_cpy t.1 f 0 (xP e) (k)) ((xP e) + (k)) (t.1 (k))) (ro z ob) t nd q sg th) H := hP
      have hD : va_D A (rw0 b cA cJ N (upd (va_cpy t.1 f 0 (xP e) (k)) ((xP e) + (k)) (t.1 (k))) (ro z ob) t nd q sg th) := hD
      rw [cpy_up] at hP hD
      have hP : va_P D vwCl (rw0 b cA cJ N (va_cpy t.1 f 0 (xP e) (k + 1)) (ro z ob) t nd q sg th) H := hP
      have hD : va_D A (rw0 b cA cJ N (va_cpy t.1 f 0 (xP e) (k + 1)) (ro z ob) t nd q sg th) := hD
      refine lv_iinc (k := 3) (v := nI ((k) + 1)) hx hb dX5_store_52 hl rfl (nI_1 (k)) (by decide) rfl (fun ls hl => ?_)
      have hl : lv_has ls 4 [(3, .int (nI ((k) + 1))), (0, .ref (b 0)), (1, .int (nI e)), (2, .int (nI (stF nd.1 f e (sm t.1 0 (min (xZ e) 4)))))] := hl
      refine lv_goto (tgt := 23) hx hb dX5_store_55 (by decide) ?_
      exact ih_lp (k + 1) ls _ _ hP hD hS (by omega) (lv_sub hl [1, 2, 3, 0] rfl)
  exact lp (xZ e - 0) (0) ls _ _ hP hD hS (by omega) (lv_sub hl [2, 3, 1, 0] rfl)
set_option maxHeartbeats 4000000 in
set_option maxRecDepth 100000 in
theorem r_storeNo0 (l : Launch) (D : va_G) (b : Nat → Nat) (cA cJ : ClassId) (N : Int32) (f : Nat → Int32) (z : Int32) (ob : OB) (t : RT) (nd : ND) (x : Nat) (th : Int32) (sz : Nat) (e ad : Nat) (hB : isB f) (hBh : isB t.1) (he : e < 22) (ho : obK ob) (had : x / 256 % 65536 + 65536 * bN x 3 = ad) (hF : ¬ nI (stF nd.1 f e (sm t.1 0 (min (xZ e) 4))) = 0) : Met l yX5_store (wX5_store :: wb) ({ frames := 3, cells := 0, slots := 0, locals := 74 } : Room) (va_Pc [.ref (b 0), .int (nI e)] (zPre D [(cA, .int), (cJ, .long)] (rw0 b cA cJ N f (ro z ob) t nd (lN x) 0 th) sz)) (zb_Vi 0 D vwCl (rw0 b cA cJ N f (ro z (kAns N ob 128 ad (stF nd.1 f e (sm t.1 0 (min (xZ e) 4))))) (t.1, 0, t.2.2) nd (lN x) 0 th) (va_A (rw0 b cA cJ N f (ro z ob) t nd (lN x) 0 th) sz)) 0 0 (va_A (rw0 b cA cJ N f (ro z ob) t nd (lN x) 0 th) sz) := by
  refine Met.ofW (cc := cX5_store) (maxL := 4) (ret := (some .boolean)) (by decide) rfl ?_
  intro p ev s m args below meth c s₁ B hml hv
  obtain ⟨rfl, hsz, hP, hK, hD0, hSt, hnw⟩ := hv
  have hx := B.exec
  have hb := B.bytes
  have hr := B.returns
  have hts := atoms_spec (ws := wX5_store :: wb) B.pre
  have htb : ∀ w ∈ wb, w.before ([.ref (b 0), .int (nI e)]).toArray s = true := fun w h => hts w (List.mem_cons_of_mem _ h)
  have hown : s.vm.findClass RX5 = some m.cls := findClass_of_methodNamed B.named
  have hlocks := B.notSynchronized
  subst hsz
  have hD := hD0.self (sz := s.heap.size)
  clear hD0
  generalize hAe : va_A (rw0 b cA cJ N f (ro z ob) t nd (lN x) 0 th) s.heap.size = A at hD hSt ⊢
  have hA : ∀ q : Nat, s.heap.size ≤ q → A q := fun q h => by rw [← hAe]; exact Or.inr h
  have hS : va_S A s.heap s.heap [] := va_S.rf
  obtain ⟨⟨tt, ff, hZT, hTT, hZF, hTF⟩, hXS⟩ := id hSt
  have hl := lv_entry ([.ref (b 0), .int (nI e)]) (n := 4) (Nat.le_of_ble_eq_true rfl)
  rw [lg_entry_eq]
  generalize (lg_sl ([.ref (b 0), .int (nI e)]) ++ List.replicate (4 - (lg_sl ([.ref (b 0), .int (nI e)])).length) Slot.unset).toArray = ls at hl ⊢
  have hl : lv_has ls 4 [(0, .ref (b 0)), (1, .int (nI e))] := hl
  refine zb_abs (fun Q hQ => ?_)
  refine lv_aload_n hx hb dX5_store_0 rfl (lv_at hl 0 rfl) ?_
  refine lv_iload_n hx hb dX5_store_1 rfl (lv_at hl 1 rfl) ?_
  refine zb_ci (va_runV (As := [.int (nI e)]) (rest := []) ⟨hx, hb, hml, hown, htb⟩ (r_storing l D b cA cJ N f (ro z ob) t nd (lN x) 0 th e hB hBh he) (cwV 1 htb (wb_V kM_X5_145 kI_X5_storing kS_X5_storing kN_X5 kD_X5_storing) rfl rfl rfl (by decide +kernel) ⟨Nat.le_of_ble_eq_true rfl, Nat.le_of_ble_eq_true rfl⟩) (zp_V 0 rfl rfl hP hK hSt hS hnw) rfl rfl hl.1 rfl (lv_room (Nat.le_of_ble_eq_true rfl)) dX5_store_2 ⟨Nat.le_of_ble_eq_true rfl, Nat.le_of_ble_eq_true rfl⟩) ?_
  refine lv_istore_n hx hb dX5_store_5 rfl hl (by decide) rfl (fun ls hl => ?_)
  have hl : lv_has ls 4 [(2, .int (nI (stF nd.1 f e (sm t.1 0 (min (xZ e) 4))))), (0, .ref (b 0)), (1, .int (nI e))] := hl
  refine lv_iload_n hx hb dX5_store_6 rfl (lv_at hl 0 rfl) ?_
  refine lv_if_eq (tgt := 21) hx hb dX5_store_7 (by decide) (fun hno => absurd hno (hF)) (fun _ => ?_)
  refine lv_aload_n hx hb dX5_store_10 rfl (lv_at hl 1 rfl) ?_
  refine lv_iload_n hx hb dX5_store_11 rfl (lv_at hl 0 rfl) ?_
  refine lv_aload_n hx hb dX5_store_12 rfl (lv_at hl 1 rfl) ?_
  refine va_get (D := D) (ci := 5) (v := .int 0) (fs := [.int th, .int N, .ref (b 1), .ref (b 2), .ref (b 3), .ref (b 4), .ref (b 5), .ref (b 6), .int 22, .int 95, .int nd.1, .int nd.2.2.1, .int nd.2.1, .long nd.2.2.2, .int t.2.1, .int t.2.2.1, .int t.2.2.2.1, .int t.2.2.2.2.1, .int t.2.2.2.2.2, .ref (b 7), .long (lN x), .int 0, .ref (b 8), .ref (b 9), .ref (b 10), .int ((ro z ob).2.2.2.1), .int ((ro z ob).2.2.2.2)]) (C := RX5) (T := TX5) (N := 27) hx hb htb inX5 hown hK hP 0 rfl rfl 21 (by decide) (htb _ kF_X5_148) (fun _ h9 => h9) rfl dX5_store_13 ?_
  refine zb_cv (va_runV (As := [.int (nI (stF nd.1 f e (sm t.1 0 (min (xZ e) 4)))), .int 0]) (rest := []) ⟨hx, hb, hml, hown, htb⟩ (r_abort0 l D b cA cJ N f z ob t nd x 0 th _ ad (stF nd.1 f e (sm t.1 0 (min (xZ e) 4))) ho had (stF_lt _ _ _ _)) (cwV 2 htb (wb_V kM_X5_152 kI_X5_abort kS_X5_abort kN_X5 kD_X5_abort) rfl rfl rfl (by decide +kernel) ⟨Nat.le_of_ble_eq_true rfl, Nat.le_of_ble_eq_true rfl⟩) (zp_VW 0 rfl rfl hP hD hK hSt hS hA hnw) rfl rfl hl.1 rfl (lv_room (Nat.le_of_ble_eq_true rfl)) dX5_store_16 ⟨Nat.le_of_ble_eq_true rfl, Nat.le_of_ble_eq_true rfl⟩) hD hS hA (fun H locs hP hD hS => ?_)
  have hP : va_P D vwCl (rw0 b cA cJ N f (ro z (kAns N ob 128 ad (stF nd.1 f e (sm t.1 0 (min (xZ e) 4))))) (t.1, 0, t.2.2.1, t.2.2.2.1, t.2.2.2.2.1, t.2.2.2.2.2) nd (lN x) 0 th) H := hP
  have hD : va_D A (rw0 b cA cJ N f (ro z (kAns N ob 128 ad (stF nd.1 f e (sm t.1 0 (min (xZ e) 4))))) (t.1, 0, t.2.2.1, t.2.2.2.1, t.2.2.2.2.1, t.2.2.2.2.2) nd (lN x) 0 th) := hD
  refine lv_iconst (v := 0) hx hb dX5_store_19 (by decide) ?_
  rw [hQ]
  have hw9 : (rw0 b cA cJ N f (ro z (kAns N ob 128 ad (stF nd.1 f e (sm t.1 0 (min (xZ e) 4))))) (t.1, 0, t.2.2.1, t.2.2.2.1, t.2.2.2.2.1, t.2.2.2.2.2) nd (lN x) 0 th) = (rw0 b cA cJ N f (ro z (kAns N ob 128 ad (stF nd.1 f e (sm t.1 0 (min (xZ e) 4))))) (t.1, 0, t.2.2) nd (lN x) 0 th) := rfl
  exact W.zret (v := 0) hx hb hr (rfl) (fun t9 ht hW => ⟨congrArg (fun z => Outcome.returned (some (Value.int z))) (rfl), by rw [ht, ← hw9]; exact hP, by rw [← hw9]; exact hD, hS.F ht⟩) hS.2.2 dX5_store_20
set_option maxHeartbeats 4000000 in
set_option maxRecDepth 100000 in
theorem r_storeNo1 (l : Launch) (D : va_G) (b : Nat → Nat) (cA cJ : ClassId) (N : Int32) (f : Nat → Int32) (z : Int32) (ob : OB) (t : RT) (nd : ND) (x : Nat) (th : Int32) (sz : Nat) (e ad : Nat) (hB : isB f) (hBh : isB t.1) (he : e < 22) (ho : obK ob) (tr : TR) (e1 d1 : Nat) (hN : trN tr e1 d1 ad) (hrel : rel tr t e1 d1 ad) (hF : ¬ nI (stF nd.1 f e (sm t.1 0 (min (xZ e) 4))) = 0) : Met l yX5_store (wX5_store :: wb) ({ frames := 3, cells := 0, slots := 0, locals := 74 } : Room) (va_Pc [.ref (b 0), .int (nI e)] (zPre D [(cA, .int), (cJ, .long)] (rw0 b cA cJ N f (ro z ob) t nd (lN x) 1 th) sz)) (zb_Vi 0 D vwCl (rw0 b cA cJ N f (ro z (kAns N ob 128 ad (stF nd.1 f e (sm t.1 0 (min (xZ e) 4))))) (t.1, 0, t.2.2) nd (lN x) 1 th) (va_A (rw0 b cA cJ N f (ro z ob) t nd (lN x) 1 th) sz)) 0 0 (va_A (rw0 b cA cJ N f (ro z ob) t nd (lN x) 1 th) sz) := by
  refine Met.ofW (cc := cX5_store) (maxL := 4) (ret := (some .boolean)) (by decide) rfl ?_
  intro p ev s m args below meth c s₁ B hml hv
  obtain ⟨rfl, hsz, hP, hK, hD0, hSt, hnw⟩ := hv
  have hx := B.exec
  have hb := B.bytes
  have hr := B.returns
  have hts := atoms_spec (ws := wX5_store :: wb) B.pre
  have htb : ∀ w ∈ wb, w.before ([.ref (b 0), .int (nI e)]).toArray s = true := fun w h => hts w (List.mem_cons_of_mem _ h)
  have hown : s.vm.findClass RX5 = some m.cls := findClass_of_methodNamed B.named
  have hlocks := B.notSynchronized
  subst hsz
  have hD := hD0.self (sz := s.heap.size)
  clear hD0
  generalize hAe : va_A (rw0 b cA cJ N f (ro z ob) t nd (lN x) 1 th) s.heap.size = A at hD hSt ⊢
  have hA : ∀ q : Nat, s.heap.size ≤ q → A q := fun q h => by rw [← hAe]; exact Or.inr h
  have hS : va_S A s.heap s.heap [] := va_S.rf
  obtain ⟨⟨tt, ff, hZT, hTT, hZF, hTF⟩, hXS⟩ := id hSt
  have hl := lv_entry ([.ref (b 0), .int (nI e)]) (n := 4) (Nat.le_of_ble_eq_true rfl)
  rw [lg_entry_eq]
  generalize (lg_sl ([.ref (b 0), .int (nI e)]) ++ List.replicate (4 - (lg_sl ([.ref (b 0), .int (nI e)])).length) Slot.unset).toArray = ls at hl ⊢
  have hl : lv_has ls 4 [(0, .ref (b 0)), (1, .int (nI e))] := hl
  refine zb_abs (fun Q hQ => ?_)
  refine lv_aload_n hx hb dX5_store_0 rfl (lv_at hl 0 rfl) ?_
  refine lv_iload_n hx hb dX5_store_1 rfl (lv_at hl 1 rfl) ?_
  refine zb_ci (va_runV (As := [.int (nI e)]) (rest := []) ⟨hx, hb, hml, hown, htb⟩ (r_storing l D b cA cJ N f (ro z ob) t nd (lN x) 1 th e hB hBh he) (cwV 1 htb (wb_V kM_X5_145 kI_X5_storing kS_X5_storing kN_X5 kD_X5_storing) rfl rfl rfl (by decide +kernel) ⟨Nat.le_of_ble_eq_true rfl, Nat.le_of_ble_eq_true rfl⟩) (zp_V 0 rfl rfl hP hK hSt hS hnw) rfl rfl hl.1 rfl (lv_room (Nat.le_of_ble_eq_true rfl)) dX5_store_2 ⟨Nat.le_of_ble_eq_true rfl, Nat.le_of_ble_eq_true rfl⟩) ?_
  refine lv_istore_n hx hb dX5_store_5 rfl hl (by decide) rfl (fun ls hl => ?_)
  have hl : lv_has ls 4 [(2, .int (nI (stF nd.1 f e (sm t.1 0 (min (xZ e) 4))))), (0, .ref (b 0)), (1, .int (nI e))] := hl
  refine lv_iload_n hx hb dX5_store_6 rfl (lv_at hl 0 rfl) ?_
  refine lv_if_eq (tgt := 21) hx hb dX5_store_7 (by decide) (fun hno => absurd hno (hF)) (fun _ => ?_)
  refine lv_aload_n hx hb dX5_store_10 rfl (lv_at hl 1 rfl) ?_
  refine lv_iload_n hx hb dX5_store_11 rfl (lv_at hl 0 rfl) ?_
  refine lv_aload_n hx hb dX5_store_12 rfl (lv_at hl 1 rfl) ?_
  refine va_get (D := D) (ci := 5) (v := .int 1) (fs := [.int th, .int N, .ref (b 1), .ref (b 2), .ref (b 3), .ref (b 4), .ref (b 5), .ref (b 6), .int 22, .int 95, .int nd.1, .int nd.2.2.1, .int nd.2.1, .long nd.2.2.2, .int t.2.1, .int t.2.2.1, .int t.2.2.2.1, .int t.2.2.2.2.1, .int t.2.2.2.2.2, .ref (b 7), .long (lN x), .int 1, .ref (b 8), .ref (b 9), .ref (b 10), .int ((ro z ob).2.2.2.1), .int ((ro z ob).2.2.2.2)]) (C := RX5) (T := TX5) (N := 27) hx hb htb inX5 hown hK hP 0 rfl rfl 21 (by decide) (htb _ kF_X5_148) (fun _ h9 => h9) rfl dX5_store_13 ?_
  refine zb_cv (va_runV (As := [.int (nI (stF nd.1 f e (sm t.1 0 (min (xZ e) 4)))), .int 1]) (rest := []) ⟨hx, hb, hml, hown, htb⟩ (r_abort1 l D b cA cJ N f z ob t nd x 1 th _ tr e1 d1 ad (stF nd.1 f e (sm t.1 0 (min (xZ e) 4))) ho hN hrel (stF_lt _ _ _ _)) (cwV 2 htb (wb_V kM_X5_152 kI_X5_abort kS_X5_abort kN_X5 kD_X5_abort) rfl rfl rfl (by decide +kernel) ⟨Nat.le_of_ble_eq_true rfl, Nat.le_of_ble_eq_true rfl⟩) (zp_VW 0 rfl rfl hP hD hK hSt hS hA hnw) rfl rfl hl.1 rfl (lv_room (Nat.le_of_ble_eq_true rfl)) dX5_store_16 ⟨Nat.le_of_ble_eq_true rfl, Nat.le_of_ble_eq_true rfl⟩) hD hS hA (fun H locs hP hD hS => ?_)
  have hP : va_P D vwCl (rw0 b cA cJ N f (ro z (kAns N ob 128 ad (stF nd.1 f e (sm t.1 0 (min (xZ e) 4))))) (t.1, 0, t.2.2.1, t.2.2.2.1, t.2.2.2.2.1, t.2.2.2.2.2) nd (lN x) 1 th) H := hP
  have hD : va_D A (rw0 b cA cJ N f (ro z (kAns N ob 128 ad (stF nd.1 f e (sm t.1 0 (min (xZ e) 4))))) (t.1, 0, t.2.2.1, t.2.2.2.1, t.2.2.2.2.1, t.2.2.2.2.2) nd (lN x) 1 th) := hD
  refine lv_iconst (v := 0) hx hb dX5_store_19 (by decide) ?_
  rw [hQ]
  have hw9 : (rw0 b cA cJ N f (ro z (kAns N ob 128 ad (stF nd.1 f e (sm t.1 0 (min (xZ e) 4))))) (t.1, 0, t.2.2.1, t.2.2.2.1, t.2.2.2.2.1, t.2.2.2.2.2) nd (lN x) 1 th) = (rw0 b cA cJ N f (ro z (kAns N ob 128 ad (stF nd.1 f e (sm t.1 0 (min (xZ e) 4))))) (t.1, 0, t.2.2) nd (lN x) 1 th) := rfl
  exact W.zret (v := 0) hx hb hr (rfl) (fun t9 ht hW => ⟨congrArg (fun z => Outcome.returned (some (Value.int z))) (rfl), by rw [ht, ← hw9]; exact hP, by rw [← hw9]; exact hD, hS.F ht⟩) hS.2.2 dX5_store_20
set_option maxHeartbeats 4000000 in
set_option maxRecDepth 100000 in
theorem r_take (l : Launch) (D : va_G) (b : Nat → Nat) (cA cJ : ClassId) (N : Int32) (f : Nat → Int32) (z : Int32) (ob : OB) (t : RT) (nd : ND) (q : Int64) (sg th : Int32) (sz : Nat) (ln : Int32) (x : Nat) (hB : isB f) (hT : mapK f 3 6) (h5 : nd.1 = 5) (hcz : ¬ nI (cT f) = 0) : Met l yX5_take (wX5_take :: wb) ({ frames := 2, cells := 0, slots := 0, locals := 50 } : Room) (va_Pc [.ref (b 0), .int ln, .long (lN x)] (zPre D [(cA, .int), (cJ, .long)] (rw0 b cA cJ N f (ro z ob) t nd q sg th) sz)) (zb_Vv D vwCl (rw0 b cA cJ N (fTake f nd ln x) (ro z ob) t nd q sg th) (va_A (rw0 b cA cJ N f (ro z ob) t nd q sg th) sz)) 0 0 (va_A (rw0 b cA cJ N f (ro z ob) t nd q sg th) sz) := by
  refine Met.ofW (cc := cX5_take) (maxL := 9) (ret := none) (by decide) rfl ?_
  intro p ev s m args below meth c s₁ B hml hv
  obtain ⟨rfl, hsz, hP, hK, hD0, hSt, hnw⟩ := hv
  have hx := B.exec
  have hb := B.bytes
  have hr := B.returns
  have hts := atoms_spec (ws := wX5_take :: wb) B.pre
  have htb : ∀ w ∈ wb, w.before ([.ref (b 0), .int ln, .long (lN x)]).toArray s = true := fun w h => hts w (List.mem_cons_of_mem _ h)
  have hown : s.vm.findClass RX5 = some m.cls := findClass_of_methodNamed B.named
  have hlocks := B.notSynchronized
  subst hsz
  have hD := hD0.self (sz := s.heap.size)
  clear hD0
  generalize hAe : va_A (rw0 b cA cJ N f (ro z ob) t nd q sg th) s.heap.size = A at hD hSt ⊢
  have hA : ∀ q : Nat, s.heap.size ≤ q → A q := fun q h => by rw [← hAe]; exact Or.inr h
  have hS : va_S A s.heap s.heap [] := va_S.rf
  obtain ⟨⟨tt, ff, hZT, hTT, hZF, hTF⟩, hXS⟩ := id hSt
  have hl := lv_entry ([.ref (b 0), .int ln, .long (lN x)]) (n := 9) (Nat.le_of_ble_eq_true rfl)
  rw [lg_entry_eq]
  generalize (lg_sl ([.ref (b 0), .int ln, .long (lN x)]) ++ List.replicate (9 - (lg_sl ([.ref (b 0), .int ln, .long (lN x)])).length) Slot.unset).toArray = ls at hl ⊢
  have hl : lv_has ls 9 [(0, .ref (b 0)), (1, .int ln), (2, .long (lN x))] := hl
  refine zb_abs (fun Q hQ => ?_)
  have hT1 : cT f ≤ 4 := hT.1
  have hT8 : mL f 3 6 (cT f) ≤ 8 := hT.2.2
  refine lv_aload_n hx hb dX5_take_0 rfl (lv_at hl 0 rfl) ?_
  refine lv_iconst (v := 3) hx hb dX5_take_1 (by decide) ?_
  refine zb_ci (va_runV (As := [.int 3]) (rest := []) ⟨hx, hb, hml, hown, htb⟩ (r_number l D b cA cJ N f (ro z ob) t nd q sg th 3 hB (by omega)) (cwV 1 htb (wb_V kM_X5_97 kI_X5_number kS_X5_number kN_X5 kD_X5_number) rfl rfl rfl (by decide +kernel) ⟨Nat.le_of_ble_eq_true rfl, Nat.le_of_ble_eq_true rfl⟩) (zp_V 0 rfl rfl hP hK hSt hS hnw) rfl rfl hl.1 rfl (lv_room (Nat.le_of_ble_eq_true rfl)) dX5_take_2 ⟨Nat.le_of_ble_eq_true rfl, Nat.le_of_ble_eq_true rfl⟩) ?_
  refine zb_ti (y := nI (cT f)) (cnt_r 3 rfl) ?_
  refine lv_istore hx hb dX5_take_5 hl (by decide) rfl (fun ls hl => ?_)
  have hl : lv_has ls 9 [(4, .int (nI (cT f))), (0, .ref (b 0)), (1, .int ln), (2, .long (lN x))] := hl
  refine lv_iload_n hx hb dX5_take_7 rfl (lv_at hl 2 rfl) ?_
  refine lv_aload_n hx hb dX5_take_8 rfl (lv_at hl 1 rfl) ?_
  refine lv_iconst (v := 3) hx hb dX5_take_9 (by decide) ?_
  refine lv_iload hx hb dX5_take_10 (lv_at hl 0 rfl) ?_
  refine zb_ci (va_runV (As := [.int 3, .int (nI (cT f))]) (rest := [.int ln]) ⟨hx, hb, hml, hown, htb⟩ (r_lengthT l D b cA cJ N f (ro z ob) t nd q sg th (cT f) hB hT.1) (cwV 2 htb (wb_V kM_X5_116 kI_X5_lengthOf kS_X5_lengthOf kN_X5 kD_X5_lengthOf) rfl rfl rfl (by decide +kernel) ⟨Nat.le_of_ble_eq_true rfl, Nat.le_of_ble_eq_true rfl⟩) (zp_V 0 rfl rfl hP hK hSt hS hnw) rfl rfl hl.1 rfl (lv_room (Nat.le_of_ble_eq_true rfl)) dX5_take_12 ⟨Nat.le_of_ble_eq_true rfl, Nat.le_of_ble_eq_true rfl⟩) ?_
  refine zb_ti (y := nI (mL f 3 6 (cT f))) (if_pos hT.2.1) ?_
  refine lv_icmp_ge (tgt := 44) hx hb dX5_take_15 (by decide) (fun hc1 => ?_) (fun hc1 => ?_)
  · refine lv_iconst (v := 0) hx hb dX5_take_44 (by decide) ?_
    refine lv_istore hx hb dX5_take_45 hl (by decide) rfl (fun ls hl => ?_)
    have hl : lv_has ls 9 [(5, .int 0), (4, .int (nI (cT f))), (0, .ref (b 0)), (1, .int ln), (2, .long (lN x))] := hl
    refine lv_iconst (v := 1) hx hb dX5_take_47 (by decide) ?_
    refine lv_istore hx hb dX5_take_48 hl (by decide) rfl (fun ls hl => ?_)
    have hl : lv_has ls 9 [(6, .int 1), (5, .int 0), (4, .int (nI (cT f))), (0, .ref (b 0)), (1, .int ln), (2, .long (lN x))] := hl
    have lp : ∀ (nn k : Nat) (ls : Array Slot) (H : Heap) (locs : List Loc), va_P D vwCl (rw0 b cA cJ N ((mW 3 6 x f (k)).1) (ro z ob) t nd q sg th) H → va_D A (rw0 b cA cJ N ((mW 3 6 x f (k)).1) (ro z ob) t nd q sg th) → va_S A s.heap H locs → k + nn = cT f → lv_has ls 9 [(0, .ref (b 0)), (2, .long (lN x)), (4, .int (nI (cT f))), (5, .int (nI ((mW 3 6 x f (k)).2))), (6, .int (nI (k + 1)))] → W p l ev ({ frames := 2, cells := 0, slots := 0, locals := 50 } : Room) s m ([.ref (b 0), .int ln, .long (lN x)]).toArray below meth c H locs 0 0 Q (F0 m 50 ls []) := by
      intro nn
      induction nn with
      | zero =>
        intro k ls H locs hP hD hS hk_lp  hl
        have hk0_lp : k = cT f := by omega
        refine lv_iload hx hb dX5_take_50 (lv_at hl 4 rfl) ?_
        refine lv_iload hx hb dX5_take_52 (lv_at hl 2 rfl) ?_
        refine lv_icmp_gt (tgt := 123) hx hb dX5_take_54 (by decide) (fun _ => ?_) (fun hno => absurd (by rw [hk0_lp]; exact nI_lt (Nat.lt_succ_self _) (by omega)) hno)
        rw [hQ]
        have hw9 : (rw0 b cA cJ N ((mW 3 6 x f (k)).1) (ro z ob) t nd q sg th) = (rw0 b cA cJ N (fTake f nd ln x) (ro z ob) t nd q sg th) := by rw [hk0_lp]; simp only [fTake, if_pos h5, if_neg hcz, if_neg (Int32.not_lt.mpr hc1)]
        exact W.vret hx hb hr (fun t9 ht hW => ⟨rfl, by rw [ht, ← hw9]; exact hP, by rw [← hw9]; exact hD, hS.F ht⟩) hS.2.2 dX5_take_123
      | succ nn ih_lp =>
        intro k ls H locs hP hD hS hk_lp  hl
        have hk1_lp : k < cT f := by omega
        refine lv_iload hx hb dX5_take_50 (lv_at hl 4 rfl) ?_
        refine lv_iload hx hb dX5_take_52 (lv_at hl 2 rfl) ?_
        refine lv_icmp_gt (tgt := 123) hx hb dX5_take_54 (by decide) (fun hno => absurd hno (nI_nlt hk1_lp (by omega))) (fun _ => ?_)
        have hz4 := (by decide : ∀ k, k < 4 → xZ (3 + (k + 1)) = 4 ∧ 3 + (k + 1) < 22) k (by omega)
        obtain ⟨e9, hme0⟩ := mOk_at hT.2.1 (show k + 1 ≤ cT f by omega)
        have hme := (mW_mE x f k (n := k + 1) (by omega) (by omega)).trans hme0
        have h22 := mE_lt hme
        have hft9 := x_fit e9 h22
        have hm9 := mL_mono f 3 6 (show k + 1 ≤ cT f by omega)
        rw [mL_s hme0, ← mW_2 x f k (by omega)] at hm9
        have hs9 := mW_s hme
        refine lv_aload_n hx hb dX5_take_57 rfl (lv_at hl 0 rfl) ?_
        refine lv_aload_n hx hb dX5_take_58 rfl (lv_at hl 0 rfl) ?_
        refine lv_iconst (v := 3) hx hb dX5_take_59 (by decide) ?_
        refine lv_iload hx hb dX5_take_60 (lv_at hl 4 rfl) ?_
        refine lv_iadd hx hb dX5_take_62 ?_
        refine zb_ti (nI_add 3 (k + 1)) ?_
        refine zb_ci (va_runV (As := [.int (nI (3 + (k + 1)))]) (rest := [.ref (b 0)]) ⟨hx, hb, hml, hown, htb⟩ (r_number l D b cA cJ N ((mW 3 6 x f (k)).1) (ro z ob) t nd q sg th (3 + (k + 1)) (mW_B hB 3 6 x k) (by omega)) (cwV 1 htb (wb_V kM_X5_97 kI_X5_number kS_X5_number kN_X5 kD_X5_number) rfl rfl rfl (by decide +kernel) ⟨Nat.le_of_ble_eq_true rfl, Nat.le_of_ble_eq_true rfl⟩) (zp_V 0 rfl rfl hP hK hSt hS hnw) rfl rfl hl.1 rfl (lv_room (Nat.le_of_ble_eq_true rfl)) dX5_take_63 ⟨Nat.le_of_ble_eq_true rfl, Nat.le_of_ble_eq_true rfl⟩) ?_
        refine zb_ti (y := nI (sm (mW 3 6 x f k).1 (xP (3 + (k + 1))) 4)) (by rw [hz4.1]; rfl) ?_
        refine lv_iconst (v := 2) hx hb dX5_take_66 (by decide) ?_
        refine zb_ci (va_runV (As := [.int (nI (sm (mW 3 6 x f k).1 (xP (3 + (k + 1))) 4)), .int 2]) (rest := []) ⟨hx, hb, hml, hown, htb⟩ (r_named l D b cA cJ N ((mW 3 6 x f (k)).1) (ro z ob) t nd q sg th (nI (sm (mW 3 6 x f k).1 (xP (3 + (k + 1))) 4)) 2 (by decide) (by decide)) (cwV 2 htb (wb_V kM_X5_104 kI_X5_named kS_X5_named kN_X5 kD_X5_named) rfl rfl rfl (by decide +kernel) ⟨Nat.le_of_ble_eq_true rfl, Nat.le_of_ble_eq_true rfl⟩) (zp_V 0 rfl rfl hP hK hSt hS hnw) rfl rfl hl.1 rfl (lv_room (Nat.le_of_ble_eq_true rfl)) dX5_take_67 ⟨Nat.le_of_ble_eq_true rfl, Nat.le_of_ble_eq_true rfl⟩) ?_
        refine zb_ti (y := nI e9) (by show oI (mE (mW 3 6 x f k).1 3 6 (k + 1)) = _; rw [hme]; rfl) ?_
        refine lv_istore hx hb dX5_take_70 hl (by decide) rfl (fun ls hl => ?_)
        have hl : lv_has ls 9 [(7, .int (nI e9)), (0, .ref (b 0)), (2, .long (lN x)), (4, .int (nI (cT f))), (5, .int (nI ((mW 3 6 x f (k)).2))), (6, .int (nI (k + 1)))] := hl
        refine lv_iconst (v := 0) hx hb dX5_take_72 (by decide) ?_
        refine lv_istore hx hb dX5_take_73 hl (by decide) rfl (fun ls hl => ?_)
        have hl : lv_has ls 9 [(8, .int 0), (7, .int (nI e9)), (0, .ref (b 0)), (2, .long (lN x)), (4, .int (nI (cT f))), (5, .int (nI ((mW 3 6 x f (k)).2))), (6, .int (nI (k + 1)))] := hl
        have e2 : ((mW 3 6 x f (k)).1 : Nat → Int32) = (pF (mW 3 6 x f k).1 (xP e9) (0) x (mW 3 6 x f k).2) := (pF_0 _ _ _ _).symm
        have hP : va_P D vwCl (rw0 b cA cJ N (pF (mW 3 6 x f k).1 (xP e9) (0) x (mW 3 6 x f k).2) (ro z ob) t nd q sg th) _ := Eq.mp (congrArg (fun zz9 : Nat → Int32 => va_P D vwCl (rw0 b cA cJ N zz9 (ro z ob) t nd q sg th) _) e2) hP
        have hD : va_D A (rw0 b cA cJ N (pF (mW 3 6 x f k).1 (xP e9) (0) x (mW 3 6 x f k).2) (ro z ob) t nd q sg th) := Eq.mp (congrArg (fun zz9 : Nat → Int32 => va_D A (rw0 b cA cJ N zz9 (ro z ob) t nd q sg th)) e2) hD
        have lq : ∀ (nn j : Nat) (ls : Array Slot) (H : Heap) (locs : List Loc), va_P D vwCl (rw0 b cA cJ N (pF (mW 3 6 x f k).1 (xP e9) (j) x (mW 3 6 x f k).2) (ro z ob) t nd q sg th) H → va_D A (rw0 b cA cJ N (pF (mW 3 6 x f k).1 (xP e9) (j) x (mW 3 6 x f k).2) (ro z ob) t nd q sg th) → va_S A s.heap H locs → j + nn = xZ e9 → lv_has ls 9 [(0, .ref (b 0)), (2, .long (lN x)), (4, .int (nI (cT f))), (5, .int (nI ((mW 3 6 x f k).2 + (j)))), (6, .int (nI (k + 1))), (7, .int (nI e9)), (8, .int (nI (j)))] → W p l ev ({ frames := 2, cells := 0, slots := 0, locals := 50 } : Room) s m ([.ref (b 0), .int ln, .long (lN x)]).toArray below meth c H locs 0 0 Q (F0 m 75 ls []) := by
          intro nn
          induction nn with
          | zero =>
            intro j ls H locs hP hD hS hk_lq  hl
            have hk0_lq : j = xZ e9 := by omega
            refine lv_iload hx hb dX5_take_75 (lv_at hl 6 rfl) ?_
            refine lv_aload_n hx hb dX5_take_77 rfl (lv_at hl 0 rfl) ?_
            refine va_get (D := D) (ci := 5) (v := .ref (b 3)) (fs := [.int th, .int N, .ref (b 1), .ref (b 2), .ref (b 3), .ref (b 4), .ref (b 5), .ref (b 6), .int 22, .int 95, .int nd.1, .int nd.2.2.1, .int nd.2.1, .long nd.2.2.2, .int t.2.1, .int t.2.2.1, .int t.2.2.2.1, .int t.2.2.2.2.1, .int t.2.2.2.2.2, .ref (b 7), .long q, .int sg, .ref (b 8), .ref (b 9), .ref (b 10), .int ((ro z ob).2.2.2.1), .int ((ro z ob).2.2.2.2)]) (C := RX5) (T := TX5) (N := 27) hx hb htb inX5 hown hK hP 0 rfl rfl 4 (by decide) (htb _ kF_X5_16) (fun _ h9 => h9) rfl dX5_take_78 ?_
            refine lv_iload hx hb dX5_take_81 (lv_at hl 5 rfl) ?_
            refine va_iald (i := nI e9) hx hb hK hP 3 0 rfl rfl (vp_in_nI (by omega) (by decide)) dX5_take_83 ?_
            refine zb_ti (y := nI (xZ e9)) (by rw [nI_clamp (by omega)]) ?_
            refine lv_icmp_ge (tgt := 117) hx hb dX5_take_84 (by decide) (fun _ => ?_) (fun hno => absurd (by rw [hk0_lq]; exact nI_le (Nat.le_refl _) (by omega)) hno)
            have e3 : ((pF (mW 3 6 x f k).1 (xP e9) (j) x (mW 3 6 x f k).2) : Nat → Int32) = (mW 3 6 x f (k + 1)).1 := by rw [hs9, hk0_lq]
            have hP : va_P D vwCl (rw0 b cA cJ N ((mW 3 6 x f (k + 1)).1) (ro z ob) t nd q sg th) _ := Eq.mp (congrArg (fun zz9 : Nat → Int32 => va_P D vwCl (rw0 b cA cJ N zz9 (ro z ob) t nd q sg th) _) e3) hP
            have hD : va_D A (rw0 b cA cJ N ((mW 3 6 x f (k + 1)).1) (ro z ob) t nd q sg th) := Eq.mp (congrArg (fun zz9 : Nat → Int32 => va_D A (rw0 b cA cJ N zz9 (ro z ob) t nd q sg th)) e3) hD
            have e4 : (nI ((mW 3 6 x f k).2 + (j)) : Int32) = nI ((mW 3 6 x f (k + 1)).2) := by rw [hs9, hk0_lq]
            have hl : lv_has ls 9 [(0, .ref (b 0)), (2, .long (lN x)), (4, .int (nI (cT f))), (5, .int (nI ((mW 3 6 x f (k + 1)).2))), (6, .int (nI (k + 1))), (7, .int (nI e9)), (8, .int (nI (j)))] := Eq.mp (congrArg (fun zz9 : Int32 => lv_has ls 9 [(0, .ref (b 0)), (2, .long (lN x)), (4, .int (nI (cT f))), (5, .int zz9), (6, .int (nI (k + 1))), (7, .int (nI e9)), (8, .int (nI (j)))]) e4) hl
            refine lv_iinc (k := 4) (v := nI ((k + 1) + 1)) hx hb dX5_take_117 hl rfl (nI_1 (k + 1)) (by decide) rfl (fun ls hl => ?_)
            have hl : lv_has ls 9 [(6, .int (nI ((k + 1) + 1))), (0, .ref (b 0)), (2, .long (lN x)), (4, .int (nI (cT f))), (5, .int (nI ((mW 3 6 x f (k + 1)).2))), (7, .int (nI e9)), (8, .int (nI (j)))] := hl
            refine lv_goto (tgt := 50) hx hb dX5_take_120 (by decide) ?_
            exact ih_lp (k + 1) ls _ _ hP hD hS (by omega) (lv_sub hl [1, 2, 3, 4, 0] rfl)
          | succ nn ih_lq =>
            intro j ls H locs hP hD hS hk_lq  hl
            have hk1_lq : j < xZ e9 := by omega
            refine lv_iload hx hb dX5_take_75 (lv_at hl 6 rfl) ?_
            refine lv_aload_n hx hb dX5_take_77 rfl (lv_at hl 0 rfl) ?_
            refine va_get (D := D) (ci := 5) (v := .ref (b 3)) (fs := [.int th, .int N, .ref (b 1), .ref (b 2), .ref (b 3), .ref (b 4), .ref (b 5), .ref (b 6), .int 22, .int 95, .int nd.1, .int nd.2.2.1, .int nd.2.1, .long nd.2.2.2, .int t.2.1, .int t.2.2.1, .int t.2.2.2.1, .int t.2.2.2.2.1, .int t.2.2.2.2.2, .ref (b 7), .long q, .int sg, .ref (b 8), .ref (b 9), .ref (b 10), .int ((ro z ob).2.2.2.1), .int ((ro z ob).2.2.2.2)]) (C := RX5) (T := TX5) (N := 27) hx hb htb inX5 hown hK hP 0 rfl rfl 4 (by decide) (htb _ kF_X5_16) (fun _ h9 => h9) rfl dX5_take_78 ?_
            refine lv_iload hx hb dX5_take_81 (lv_at hl 5 rfl) ?_
            refine va_iald (i := nI e9) hx hb hK hP 3 0 rfl rfl (vp_in_nI (by omega) (by decide)) dX5_take_83 ?_
            refine zb_ti (y := nI (xZ e9)) (by rw [nI_clamp (by omega)]) ?_
            refine lv_icmp_ge (tgt := 117) hx hb dX5_take_84 (by decide) (fun hno => absurd hno (nI_ge (a := j) (b := xZ e9) hk1_lq (by omega))) (fun _ => ?_)
            refine lv_aload_n hx hb dX5_take_87 rfl (lv_at hl 0 rfl) ?_
            refine va_get (D := D) (ci := 5) (v := .ref (b 6)) (fs := [.int th, .int N, .ref (b 1), .ref (b 2), .ref (b 3), .ref (b 4), .ref (b 5), .ref (b 6), .int 22, .int 95, .int nd.1, .int nd.2.2.1, .int nd.2.1, .long nd.2.2.2, .int t.2.1, .int t.2.2.1, .int t.2.2.2.1, .int t.2.2.2.2.1, .int t.2.2.2.2.2, .ref (b 7), .long q, .int sg, .ref (b 8), .ref (b 9), .ref (b 10), .int ((ro z ob).2.2.2.1), .int ((ro z ob).2.2.2.2)]) (C := RX5) (T := TX5) (N := 27) hx hb htb inX5 hown hK hP 0 rfl rfl 7 (by decide) (htb _ kF_X5_25) (fun _ h9 => h9) rfl dX5_take_88 ?_
            refine lv_aload_n hx hb dX5_take_91 rfl (lv_at hl 0 rfl) ?_
            refine va_get (D := D) (ci := 5) (v := .ref (b 5)) (fs := [.int th, .int N, .ref (b 1), .ref (b 2), .ref (b 3), .ref (b 4), .ref (b 5), .ref (b 6), .int 22, .int 95, .int nd.1, .int nd.2.2.1, .int nd.2.1, .long nd.2.2.2, .int t.2.1, .int t.2.2.1, .int t.2.2.2.1, .int t.2.2.2.2.1, .int t.2.2.2.2.2, .ref (b 7), .long q, .int sg, .ref (b 8), .ref (b 9), .ref (b 10), .int ((ro z ob).2.2.2.1), .int ((ro z ob).2.2.2.2)]) (C := RX5) (T := TX5) (N := 27) hx hb htb inX5 hown hK hP 0 rfl rfl 6 (by decide) (htb _ kF_X5_22) (fun _ h9 => h9) rfl dX5_take_92 ?_
            refine lv_iload hx hb dX5_take_95 (lv_at hl 5 rfl) ?_
            refine va_iald (i := nI e9) hx hb hK hP 5 0 rfl rfl (vp_in_nI (by omega) (by decide)) dX5_take_97 ?_
            refine zb_ti (y := nI (xP e9)) (by rw [nI_clamp (by omega)]) ?_
            refine lv_iload hx hb dX5_take_98 (lv_at hl 6 rfl) ?_
            refine lv_iadd hx hb dX5_take_100 ?_
            refine zb_ti (nI_add (xP e9) (j)) ?_
            refine lv_lload_n hx hb dX5_take_101 rfl (lv_at hl 1 rfl) ?_
            refine lv_iload hx hb dX5_take_102 (lv_at hl 3 rfl) ?_
            refine zb_ci (va_runS (As := [.long (lN x), .int (nI ((mW 3 6 x f k).2 + (j)))]) (rest := [.int (nI ((xP e9) + (j))), .ref (b 6)]) ⟨hx, hb, hml, hown, htb⟩ (r_byteOf l D b cA cJ N (pF (mW 3 6 x f k).1 (xP e9) (j) x (mW 3 6 x f k).2) (ro z ob) t nd q sg th x ((mW 3 6 x f k).2 + (j)) (by omega)) (va_cwS 2 htb (wb_S kM_X5_119 kZ_X5_byteOf kN_X5 kD_X5_byteOf) rfl rfl rfl (by decide +kernel) ⟨Nat.le_of_ble_eq_true rfl, Nat.le_of_ble_eq_true rfl⟩) (zp_S hP hK hSt hS hnw) rfl rfl hl.1 rfl (lv_room (Nat.le_of_ble_eq_true rfl)) dX5_take_104 ⟨Nat.le_of_ble_eq_true rfl, Nat.le_of_ble_eq_true rfl⟩) ?_
            refine va_iast (i := nI ((xP e9) + (j))) (x := nI (bN x ((mW 3 6 x f k).2 + (j)))) hx hb hK hP hD hS 6 0 rfl rfl (vp_in_nI (by omega) (by decide)) dX5_take_107 (fun H locs hP hD hS => ?_)
            rw [nI_clamp (by omega)] at hP hD
            have hP : va_P D vwCl (rw0 b cA cJ N (upd (pF (mW 3 6 x f k).1 (xP e9) (j) x (mW 3 6 x f k).2) ((xP e9) + (j)) (nI (bN x ((mW 3 6 x f k).2 + (j))))) (ro z ob) t nd q sg th) H := hP
            have hD : va_D A (rw0 b cA cJ N (upd (pF (mW 3 6 x f k).1 (xP e9) (j) x (mW 3 6 x f k).2) ((xP e9) + (j)) (nI (bN x ((mW 3 6 x f k).2 + (j))))) (ro z ob) t nd q sg th) := hD
            rw [pF_up] at hP hD
            have hP : va_P D vwCl (rw0 b cA cJ N (pF (mW 3 6 x f k).1 (xP e9) (j + 1) x (mW 3 6 x f k).2) (ro z ob) t nd q sg th) H := hP
            have hD : va_D A (rw0 b cA cJ N (pF (mW 3 6 x f k).1 (xP e9) (j + 1) x (mW 3 6 x f k).2) (ro z ob) t nd q sg th) := hD
            refine lv_iinc (k := 3) (v := nI (((mW 3 6 x f k).2 + (j)) + 1)) hx hb dX5_take_108 hl rfl (nI_1 ((mW 3 6 x f k).2 + (j))) (by decide) rfl (fun ls hl => ?_)
            have hl : lv_has ls 9 [(5, .int (nI (((mW 3 6 x f k).2 + (j)) + 1))), (0, .ref (b 0)), (2, .long (lN x)), (4, .int (nI (cT f))), (6, .int (nI (k + 1))), (7, .int (nI e9)), (8, .int (nI (j)))] := hl
            refine lv_iinc (k := 6) (v := nI ((j) + 1)) hx hb dX5_take_111 hl rfl (nI_1 (j)) (by decide) rfl (fun ls hl => ?_)
            have hl : lv_has ls 9 [(8, .int (nI ((j) + 1))), (5, .int (nI (((mW 3 6 x f k).2 + (j)) + 1))), (0, .ref (b 0)), (2, .long (lN x)), (4, .int (nI (cT f))), (6, .int (nI (k + 1))), (7, .int (nI e9))] := hl
            refine lv_goto (tgt := 75) hx hb dX5_take_114 (by decide) ?_
            exact ih_lq (j + 1) ls _ _ hP hD hS (by omega) (lv_sub hl [2, 3, 4, 1, 5, 6, 0] rfl)
        exact lq (xZ e9 - 0) (0) ls _ _ hP hD hS (by omega) (lv_sub hl [2, 3, 4, 5, 6, 1, 0] rfl)
    exact lp (cT f - 0) (0) ls _ _ hP hD hS (by omega) (lv_sub hl [3, 5, 2, 1, 0] rfl)
  refine lv_aload_n hx hb dX5_take_18 rfl (lv_at hl 1 rfl) ?_
  refine va_get (D := D) (ci := 5) (v := .ref (b 6)) (fs := [.int th, .int N, .ref (b 1), .ref (b 2), .ref (b 3), .ref (b 4), .ref (b 5), .ref (b 6), .int 22, .int 95, .int nd.1, .int nd.2.2.1, .int nd.2.1, .long nd.2.2.2, .int t.2.1, .int t.2.2.1, .int t.2.2.2.1, .int t.2.2.2.2.1, .int t.2.2.2.2.2, .ref (b 7), .long q, .int sg, .ref (b 8), .ref (b 9), .ref (b 10), .int ((ro z ob).2.2.2.1), .int ((ro z ob).2.2.2.2)]) (C := RX5) (T := TX5) (N := 27) hx hb htb inX5 hown hK hP 0 rfl rfl 7 (by decide) (htb _ kF_X5_25) (fun _ h9 => h9) rfl dX5_take_19 ?_
  refine lv_aload_n hx hb dX5_take_22 rfl (lv_at hl 1 rfl) ?_
  refine va_get (D := D) (ci := 5) (v := .ref (b 5)) (fs := [.int th, .int N, .ref (b 1), .ref (b 2), .ref (b 3), .ref (b 4), .ref (b 5), .ref (b 6), .int 22, .int 95, .int nd.1, .int nd.2.2.1, .int nd.2.1, .long nd.2.2.2, .int t.2.1, .int t.2.2.1, .int t.2.2.2.1, .int t.2.2.2.2.1, .int t.2.2.2.2.2, .ref (b 7), .long q, .int sg, .ref (b 8), .ref (b 9), .ref (b 10), .int ((ro z ob).2.2.2.1), .int ((ro z ob).2.2.2.2)]) (C := RX5) (T := TX5) (N := 27) hx hb htb inX5 hown hK hP 0 rfl rfl 6 (by decide) (htb _ kF_X5_22) (fun _ h9 => h9) rfl dX5_take_23 ?_
  refine lv_iconst (v := 1) hx hb dX5_take_26 (by decide) ?_
  refine va_iald (i := nI 1) hx hb hK hP 5 0 rfl rfl (vp_in_nI (by omega) (by decide)) dX5_take_27 ?_
  refine zb_ti (y := nI (xP 1)) (by rw [nI_clamp (by omega)]) ?_
  refine lv_aload_n hx hb dX5_take_28 rfl (lv_at hl 1 rfl) ?_
  refine va_get (D := D) (ci := 5) (v := .ref (b 6)) (fs := [.int th, .int N, .ref (b 1), .ref (b 2), .ref (b 3), .ref (b 4), .ref (b 5), .ref (b 6), .int 22, .int 95, .int nd.1, .int nd.2.2.1, .int nd.2.1, .long nd.2.2.2, .int t.2.1, .int t.2.2.1, .int t.2.2.2.1, .int t.2.2.2.2.1, .int t.2.2.2.2.2, .ref (b 7), .long q, .int sg, .ref (b 8), .ref (b 9), .ref (b 10), .int ((ro z ob).2.2.2.1), .int ((ro z ob).2.2.2.2)]) (C := RX5) (T := TX5) (N := 27) hx hb htb inX5 hown hK hP 0 rfl rfl 7 (by decide) (htb _ kF_X5_25) (fun _ h9 => h9) rfl dX5_take_29 ?_
  refine lv_aload_n hx hb dX5_take_32 rfl (lv_at hl 1 rfl) ?_
  refine va_get (D := D) (ci := 5) (v := .ref (b 5)) (fs := [.int th, .int N, .ref (b 1), .ref (b 2), .ref (b 3), .ref (b 4), .ref (b 5), .ref (b 6), .int 22, .int 95, .int nd.1, .int nd.2.2.1, .int nd.2.1, .long nd.2.2.2, .int t.2.1, .int t.2.2.1, .int t.2.2.2.1, .int t.2.2.2.2.1, .int t.2.2.2.2.2, .ref (b 7), .long q, .int sg, .ref (b 8), .ref (b 9), .ref (b 10), .int ((ro z ob).2.2.2.1), .int ((ro z ob).2.2.2.2)]) (C := RX5) (T := TX5) (N := 27) hx hb htb inX5 hown hK hP 0 rfl rfl 6 (by decide) (htb _ kF_X5_22) (fun _ h9 => h9) rfl dX5_take_33 ?_
  refine lv_iconst (v := 1) hx hb dX5_take_36 (by decide) ?_
  refine va_iald (i := nI 1) hx hb hK hP 5 0 rfl rfl (vp_in_nI (by omega) (by decide)) dX5_take_37 ?_
  refine zb_ti (y := nI (xP 1)) (by rw [nI_clamp (by omega)]) ?_
  refine va_iald (i := nI (xP 1)) hx hb hK hP 6 0 rfl rfl (vp_in_nI (by decide) (by decide)) dX5_take_38 ?_
  refine zb_ti (y := f (xP 1)) (by rw [nI_clamp (by decide)]) ?_
  refine lv_bipush (v := 16) hx hb dX5_take_39 (by decide) ?_
  refine lv_ior hx hb dX5_take_41 ?_
  refine va_iast (i := nI (xP 1)) (x := (f (xP 1)) ||| 16) hx hb hK hP hD hS 6 0 rfl rfl (vp_in_nI (by decide) (by decide)) dX5_take_42 (fun H locs hP hD hS => ?_)
  rw [nI_clamp (by decide)] at hP hD
  have hP : va_P D vwCl (rw0 b cA cJ N (upd f (xP 1) ((f (xP 1)) ||| 16)) (ro z ob) t nd q sg th) H := hP
  have hD : va_D A (rw0 b cA cJ N (upd f (xP 1) ((f (xP 1)) ||| 16)) (ro z ob) t nd q sg th) := hD
  rw [hQ]
  have hw9 : (rw0 b cA cJ N (upd f (xP 1) ((f (xP 1)) ||| 16)) (ro z ob) t nd q sg th) = (rw0 b cA cJ N (fTake f nd ln x) (ro z ob) t nd q sg th) := by rw [er16 hB]; simp only [fTake, if_pos h5, if_neg hcz, if_pos (Int32.not_le.mp hc1)]
  exact W.vret hx hb hr (fun t9 ht hW => ⟨rfl, by rw [ht, ← hw9]; exact hP, by rw [← hw9]; exact hD, hS.F ht⟩) hS.2.2 dX5_take_43
