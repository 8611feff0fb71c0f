-- what stands at the start
theorem st_eT : ∀ j, j < 110 → (flatC (Jvm.Cond.and given_1 narrow_1))[105 + j]? = some (Cond.eq (.elem (.static RX0 "TABLE" "[I") (.int (Int32.ofNat j))) (.int (tT j))) := by decide +kernel
theorem st_eF : ∀ j, j < 95 → (flatC (Jvm.Cond.and given_1 narrow_1))[7 + j]? = some (Cond.eq (.elem (.static RX0 "FIRST" "[I") (.int (Int32.ofNat j))) (.int (tF j))) := by decide +kernel
theorem st_g {args : Array Value} {s : State} (hts : ∀ w ∈ lw_tbl, w.before args s = true) (htb : ∀ w ∈ wb, w.before args s = true) (hgv : (Jvm.Cond.and given_1 narrow_1).before args s = true) : gSt (fun q => s.heap.size ≤ q) s s.heap := by
  have hs := flat_of_before _ hgv
  have hA : ∀ a : Nat, a < s.heap.size → ¬ s.heap.size ≤ a := fun a h => by omega
  have hl : ∀ w ∈ tables_1, w.before args s = true := fun w h => hts w (List.mem_append_right _ h)
  obtain ⟨t, ht, hT⟩ := va_Tof (tm := .static RX0 "TABLE" "[I") (ty := .int) (f := fun j => .int (tT j)) (N := 110) (A := fun q => s.heap.size ≤ q) (by decide) (hs _ (List.mem_of_getElem? (i := 103) rfl)) (va_eqt (hs (Cond.eq (.length (.static RX0 "TABLE" "[I")) (.int 110)) (List.mem_of_getElem? (i := 104) rfl))) (fun j hj => va_eqt (hs _ (List.mem_of_getElem? (st_eT j hj)))) hA
  obtain ⟨f, hf, hF⟩ := va_Tof (tm := .static RX0 "FIRST" "[I") (ty := .int) (f := fun j => .int (tF j)) (N := 95) (A := fun q => s.heap.size ≤ q) (by decide) (hs _ (List.mem_of_getElem? (i := 5) rfl)) (va_eqt (hs (Cond.eq (.length (.static RX0 "FIRST" "[I")) (.int 95)) (List.mem_of_getElem? (i := 6) rfl))) (fun j hj => va_eqt (hs _ (List.mem_of_getElem? (st_eF j hj)))) hA
  exact ⟨⟨t, f, va_Zof (hl _ (by decide +kernel)) (htb _ kN_X0) ht hA, hT, va_Zof (hl _ (by decide +kernel)) (htb _ kN_X0) hf hA, hF⟩, vx_Zqof (hl _ (by decide +kernel)) (hl _ (by decide +kernel)) (hs _ (List.mem_of_getElem? (i := 215) rfl)) hA, vx_Zqof (hl _ (by decide +kernel)) (hl _ (by decide +kernel)) (hs _ (List.mem_of_getElem? (i := 216) rfl)) hA⟩
theorem st_K {args : Array Value} {s : State} (htb : ∀ w ∈ wb, w.before args s = true) : ∃ (D : va_G) (cA cJ : ClassId), va_K D vwCl [(cA, .int), (cJ, .long)] s ∧ s.vm.findClass ("[" ++ FieldType.int.toString) = some cA ∧ s.vm.findClass ("[" ++ FieldType.long.toString) = some cJ := by
  obtain ⟨c0, i0, h0⟩ := u_known htb inX0 (htb _ kB_X0)
  obtain ⟨c1, i1, h1⟩ := u_known htb inX1 (htb _ kB_X1)
  obtain ⟨c2, i2, h2⟩ := u_known htb inX2 (htb _ kB_X2)
  obtain ⟨c3, i3, h3⟩ := u_known htb inX3 (htb _ kB_X3)
  obtain ⟨c4, i4, h4⟩ := u_known htb inX4 (htb _ kB_X4)
  obtain ⟨c5, i5, h5⟩ := u_known htb inX5 (htb _ kB_X5)
  obtain ⟨cA, kA, pA, a1, a2, a3⟩ := Cond.arrayClass_spec (htb _ kA_int)
  obtain ⟨cJ, kJ, pJ, b1, b2, b3⟩ := Cond.arrayClass_spec (htb _ kA_long)
  refine ⟨(fun k => match k with | 0 => c0 | 1 => c1 | 2 => c2 | 3 => c3 | 4 => c4 | _ => c5, fun k => match k with | 0 => i0 | 1 => i1 | 2 => i2 | 3 => i3 | 4 => i4 | _ => i5), cA, cJ, ⟨fun c q hq => ?_, fun k q hk => ?_⟩, a1, b1⟩
  · rcases c with _ | _ | _ | _ | _ | _ | c
    · cases hq; exact h0
    · cases hq; exact h1
    · cases hq; exact h2
    · cases hq; exact h3
    · cases hq; exact h4
    · cases hq; exact h5
    · cases hq
  · rcases k with _ | _ | k
    · cases hk; exact ⟨fun n z => ⟨fun k h => (by cases h), kA, a2, pA, a3⟩, a1⟩
    · cases hk; exact ⟨fun n z => ⟨fun k h => (by cases h), kJ, b2, pJ, b3⟩, b1⟩
    · cases hk
theorem I0_start (N : Int32) : I0 (fI, kBoot N ob0, tr_end tr0, nBoot (0, 0, 0, 0)) :=
  ⟨iF_reset (fun _ => ⟨0, by decide, rfl⟩) (by decide), obK_send ⟨0, by decide, rfl⟩ _ _ _, iT_end (fun _ => ⟨0, by decide, rfl⟩), ⟨127, by decide, rfl⟩⟩
theorem rel_start : rel2 (tr_end tr0) t00 := ⟨0, 0, 0, ⟨by decide, Nat.zero_le _, rfl, rfl, rfl, by decide⟩, rfl, Or.inl ⟨rfl, rfl, rfl⟩⟩
/-! THE CLAIM OUT OF ONE WALK OF THE LAW'S BODY. Your part is whole_start (and what it stands on); all else here is the same for every law, but numbers. -/
def R_law : String := "MappedBusNodeLaw"
def lw_P (b : Addr) (xs : List Int32) (args : Array Value) (s : State) : Prop := args = #[.ref b] ∧ s.IntsAt b xs ∧ xs.length ≤ 2561 ∧ (Jvm.Cond.and given_1 narrow_1).before args s = true
def lw_Q (_ : Array Value) (s : State) (o : Outcome) (t : State) : Prop := o = .returned (some (.int 1)) ∧ Framed s o t [] 1049 8836
def lw_Z (below : List Frame) (a : Array Value) (s : State) : State → Prop := fun t => ∃ o, t.status = .running ∧ Ended t below o ∧ lw_Q a s o t
/-- the law's own end, with 1 on the stack, nothing written that was there before, its room as the claim has it -/
theorem lw_ret {p : Program} {l : Launch} {e : Env} {s : State} {m : MethodId} {below : List Frame} {meth : Method} {c : Code} {b : Nat} (hx : p.tables.exec = Jvm.exec) (hb : c.code = code) (hr : meth.sig.returnType = ret) (hlocks : meth.locks = false) {pc : Nat} {H : Heap} {ls : Array Slot} (hdg : decode code pc = .ok (.ireturn, 1)) : W p l e room_1 s m #[Value.ref b] below meth c H [] 1049 8836 (lw_Z below #[Value.ref b] s) (F0 m pc ls [.int 1]) := by
  intro T hT X
  obtain ⟨fs, hret, hrun, hended, hW, hframe⟩ := X.leave (v := some (.int 1)) (hlocks := hlocks) (fun h => by rw [hr] at h; cases h)
  have hmeth' : T.vm.method? m = some meth := X.method'
  refine ⟨T.setFrames fs, ?_, .returned (some (.int 1)), hrun, hended, rfl, ⟨_, rfl⟩, hW, hframe⟩
  jvm_step X.here [X.here.top, hx, hb, hdg, hmeth', hr, ret, narrow_b1]
  (try refine ⟨rfl, ?_⟩); (try refine ⟨rfl, ?_⟩)
  first | (intro acts; rw [hret _ acts rfl rfl rfl]) | rw [hret _ _ rfl rfl rfl]
  exact Steps.refl _
/-- what holds at the law's entry: the machine, the code, the tables' words (any of lw_tbl by 'hts w (by decide +kernel)'), the script of L ints xs at the cell b, what the Statement gives of the start (any of its parts by flat_of_before) -/
def lw_At (p : Program) (s : State) (m : MethodId) (meth : Method) (c : Code) (b L : Nat) (xs : Nat → Int32) : Prop :=
  p.tables.exec = Jvm.exec ∧ c.code = code ∧ meth.sig.returnType = ret ∧ c.maxLocals = 7 ∧ s.vm.findClass R_law = some m.cls ∧ (∀ w ∈ lw_tbl, w.before #[Value.ref b] s = true) ∧ va_X b L xs s s.heap ∧ b < s.heap.size ∧ meth.locks = false ∧ (Jvm.Cond.and given_1 narrow_1).before #[Value.ref b] s = true
set_option maxHeartbeats 4000000 in
set_option maxRecDepth 100000 in
theorem whole_start {p : Program} {e : Env} {s : State} {m : MethodId} {below : List Frame} {meth : Method} {c : Code} (l : Launch) (hfl : l.flags = pinnedFlags ++ [noTraceFlag]) {b L : Nat} {xs : Nat → Int32} (hL : L ≤ 2561) (C0 : lw_At p s m meth c b L xs) : W p l e room_1 s m #[Value.ref b] below meth c s.heap [] 0 0 (lw_Z below #[Value.ref b] s) (entryFrame m ([Value.ref b] : List Value).toArray 7) := by
  obtain ⟨hx, hb, hr, hml, hown, hts, hX, hbl, hlocks, hgv⟩ := C0
  have htb : ∀ w ∈ wb, w.before #[Value.ref b] s = true := fun w h => hts w (List.mem_filter.mp h).1
  have hSt := st_g hts htb hgv
  obtain ⟨D, cA, cJ, hK, hfA, hfJ⟩ := st_K htb
  have hnw : nw s := fun w hw => va_Nw.of (nw_on (nwL_kind w hw)) (hts w (List.mem_append_right _ (nwL_in w hw)))
  have htw : tw s := fun w hw => va_Nw.of (tw_on (twL_kind w hw)) (hts w (List.mem_append_right _ (twL_in w hw)))
  generalize hAe : (fun q : Nat => s.heap.size ≤ q) = A at hSt
  have hA : ∀ q, s.heap.size ≤ q → A q := fun q h => by rw [← hAe]; exact h
  have hbA : ¬ A b := by rw [← hAe]; exact Nat.not_le.mpr hbl
  have hA2 : ∀ q, A q → s.heap.size ≤ q := fun q h => by rw [← hAe] at h; exact h
  have hS : va_S A s.heap s.heap [] := va_S.rf
  have hP : va_P D vwCl [] s.heap := fun k q h => by simp at h
  have hD : va_D A [] := ⟨fun i j p q h => by simp at h, fun k q h => by simp at h⟩
  have hl := lv_entry ([.ref b]) (n := 7) (Nat.le_of_ble_eq_true rfl)
  rw [lg_entry_eq]
  generalize (lg_sl ([.ref b]) ++ List.replicate (7 - (lg_sl ([.ref b])).length) Slot.unset).toArray = ls at hl ⊢
  have hl : lv_has ls 7 [(0, .ref b)] := hl
  refine va_new (ci := 4) (fs := [.int 0, .null, .null, .null, .null, .null, .int 0, .int 0, .int 0, .long 0]) (C := RX4) (T := TX4) (N := 10) hx hb htb inX4 tyX4 tyX4_ok hown (htb _ kC_L_8) (htb _ kB_X4) (htb _ kN_X4) hK hP hD hS hA rfl (fun j hj => by rcases (show j = 0 ∨ j = 1 ∨ j = 2 ∨ j = 3 ∨ j = 4 ∨ j = 5 ∨ j = 6 ∨ j = 7 ∨ j = 8 ∨ j = 9 by omega) with rfl | rfl | rfl | rfl | rfl | rfl | rfl | rfl | rfl | rfl <;> rfl) (Nat.le_of_ble_eq_true rfl) (Nat.le_of_ble_eq_true rfl) dL_law_0 (fun q0 H hP hD hS => ?_)
  have hP : va_P D vwCl ([(q0, .inr (4, [.int 0, .null, .null, .null, .null, .null, .int 0, .int 0, .int 0, .long 0]))] ++ []) H := hP
  have hD : va_D A ([(q0, .inr (4, [.int 0, .null, .null, .null, .null, .null, .int 0, .int 0, .int 0, .long 0]))] ++ []) := hD
  refine W.widen (k := 1) (n := 10) (by omega) (by omega) ?_
  refine lv_dup hx hb dL_law_3 rfl ?_
  refine lv_aload_n hx hb dL_law_4 rfl (lv_at hl 0 rfl) ?_
  refine lv_iconst (v := 0) hx hb dL_law_5 (by decide) ?_
  refine zb_ci (va_runS (As := [.ref b, .int 0]) (rest := [.ref q0, .ref q0]) ⟨hx, hb, hml, hown, htb⟩ (l_cell l b L xs hL) (va_cwS 2 htb (wb_S kM_L_30 kZ_L_cell kN_L kD_L_cell) rfl rfl rfl (by decide +kernel) ⟨Nat.le_of_ble_eq_true rfl, Nat.le_of_ble_eq_true rfl⟩) ⟨fun a U g mk h => ⟨h.1, va_X.moved (u := U) (U := U.calling g mk a) (Vm.Alike.refl U.vm) h.2⟩, fun U hU hW => ⟨rfl, by show va_X b L xs U U.heap; rw [hU]; exact va_X.moved hW.alike (va_X.kept hX (hS.2.1 b hbl hbA))⟩⟩ rfl rfl hl.1 rfl (lv_room (Nat.le_of_ble_eq_true rfl)) dL_law_6 ⟨Nat.le_of_ble_eq_true rfl, Nat.le_of_ble_eq_true rfl⟩) ?_
  refine zb_cg (w0 := [(q0, .inr (4, [.int 0, .null, .null, .null, .null, .null, .int 0, .int 0, .int 0, .long 0]))]) (wr := []) (a := #[]) (va_runI (As := [.int (if 0 < L then xs 0 else 0)]) (rest := [.ref q0]) ⟨hx, hb, hml, hown, htb⟩ (c_X4_init l D cA cJ H.size q0 (if 0 < L then xs 0 else 0)) (cwI 1 htb (wb_gd kD_X4_init) rfl rfl rfl (htb _ kN_X4) (htb _ kM_L_36) (htb _ kI_X4_init) rfl (by decide +kernel) ⟨Nat.le_of_ble_eq_true rfl, Nat.le_of_ble_eq_true rfl⟩) (zp_I (wP_l hP) (wD_l hD) hK hSt hS hA hnw hfA hfJ) rfl rfl hl.1 rfl (lv_room (Nat.le_of_ble_eq_true rfl)) dL_law_9 ⟨Nat.le_of_ble_eq_true rfl, Nat.le_of_ble_eq_true rfl⟩) (fun _ _ _ h => h) hP hD hS hA (fun a ha H locs hP2 hD2 hS => ?_)
  have ha : a 0 = q0 := ha
  subst ha
  clear hP hD
  have hP := hP2
  have hD := hD2
  refine W.widen (k := 9) (n := 271) (by omega) (by omega) ?_
  refine lv_astore_n hx hb dL_law_12 rfl hl (by decide) rfl (fun ls hl => ?_)
  have hl : lv_has ls 7 [(1, .ref (a 0)), (0, .ref b)] := hl
  refine va_new (ci := 5) (fs := [.int 0, .int 0, .null, .null, .null, .null, .null, .null, .int 0, .int 0, .int 0, .int 0, .int 0, .long 0, .int 0, .int 0, .int 0, .int 0, .int 0, .null, .long 0, .int 0, .null, .null, .null, .int 0, .int 0]) (C := RX5) (T := TX5) (N := 27) hx hb htb inX5 tyX5 tyX5_ok hown (htb _ kC_L_39) (htb _ kB_X5) (htb _ kN_X5) hK hP hD hS hA rfl (fun j hj => by rcases (show j = 0 ∨ j = 1 ∨ j = 2 ∨ j = 3 ∨ j = 4 ∨ j = 5 ∨ j = 6 ∨ j = 7 ∨ j = 8 ∨ j = 9 ∨ j = 10 ∨ j = 11 ∨ j = 12 ∨ j = 13 ∨ j = 14 ∨ j = 15 ∨ j = 16 ∨ j = 17 ∨ j = 18 ∨ j = 19 ∨ j = 20 ∨ j = 21 ∨ j = 22 ∨ j = 23 ∨ j = 24 ∨ j = 25 ∨ j = 26 by omega) with rfl | rfl | rfl | rfl | rfl | rfl | rfl | rfl | rfl | rfl | rfl | rfl | rfl | rfl | rfl | rfl | rfl | rfl | rfl | rfl | rfl | rfl | rfl | rfl | rfl | rfl | rfl <;> rfl) (Nat.le_of_ble_eq_true rfl) (Nat.le_of_ble_eq_true rfl) dL_law_13 (fun q1 H hP hD hS => ?_)
  have hP := wP_s hP
  have hD := wD_s hD
  refine W.widen (k := 10) (n := 298) (by omega) (by omega) ?_
  refine lv_dup hx hb dL_law_16 rfl ?_
  refine lv_aload_n hx hb dL_law_17 rfl (lv_at hl 1 rfl) ?_
  refine lv_iconst (v := 0) hx hb dL_law_18 (by decide) ?_
  refine zb_ci (va_runS (As := [.ref b, .int 0]) (rest := [.ref q1, .ref q1]) ⟨hx, hb, hml, hown, htb⟩ (l_cell l b L xs hL) (va_cwS 2 htb (wb_S kM_L_30 kZ_L_cell kN_L kD_L_cell) rfl rfl rfl (by decide +kernel) ⟨Nat.le_of_ble_eq_true rfl, Nat.le_of_ble_eq_true rfl⟩) ⟨fun a U g mk h => ⟨h.1, va_X.moved (u := U) (U := U.calling g mk a) (Vm.Alike.refl U.vm) h.2⟩, fun U hU hW => ⟨rfl, by show va_X b L xs U U.heap; rw [hU]; exact va_X.moved hW.alike (va_X.kept hX (hS.2.1 b hbl hbA))⟩⟩ rfl rfl hl.1 rfl (lv_room (Nat.le_of_ble_eq_true rfl)) dL_law_19 ⟨Nat.le_of_ble_eq_true rfl, Nat.le_of_ble_eq_true rfl⟩) ?_
  refine zb_cg (w0 := [(q1, .inr (5, [.int 0, .int 0, .null, .null, .null, .null, .null, .null, .int 0, .int 0, .int 0, .int 0, .int 0, .long 0, .int 0, .int 0, .int 0, .int 0, .int 0, .null, .long 0, .int 0, .null, .null, .null, .int 0, .int 0]))]) (wr := (cw a cA (nN (if 0 < L then xs 0 else 0)) fI (kBoot (nN (if 0 < L then xs 0 else 0)) ob0) (tr_end tr0) (nBoot (0, 0, 0, 0)) ++ [])) (a := #[]) (va_runI (As := [.int (if 0 < L then xs 0 else 0)]) (rest := [.ref q1]) ⟨hx, hb, hml, hown, htb⟩ (c_X5_init l D cA cJ H.size q1 (if 0 < L then xs 0 else 0)) (cwI 1 htb (wb_gd kD_X5_init) rfl rfl rfl (htb _ kN_X5) (htb _ kM_L_41) (htb _ kI_X5_init) rfl (by decide +kernel) ⟨Nat.le_of_ble_eq_true rfl, Nat.le_of_ble_eq_true rfl⟩) (zp_I (wP_l hP) (wD_l hD) hK hSt hS hA hnw hfA hfJ) rfl rfl hl.1 rfl (lv_room (Nat.le_of_ble_eq_true rfl)) dL_law_22 ⟨Nat.le_of_ble_eq_true rfl, Nat.le_of_ble_eq_true rfl⟩) (fun _ _ _ h => h) hP hD hS hA (fun bb hbb H locs hP2 hD2 hS => ?_)
  have hbb : bb 0 = q1 := hbb
  subst hbb
  clear hP hD
  have hP := hP2
  have hD := hD2
  refine W.widen (k := 20) (n := 619) (by omega) (by omega) ?_
  refine lv_astore_n hx hb dL_law_25 rfl hl (by decide) rfl (fun ls hl => ?_)
  have hl : lv_has ls 7 [(2, .ref (bb 0)), (1, .ref (a 0)), (0, .ref b)] := hl
  refine lv_iconst (v := 1) hx hb dL_law_26 (by decide) ?_
  refine zb_newa (atype := .long) (ty := .long) (a0 := (1, .inr (.inl (fun _ => 0)))) (N' := 1) (tys := []) hx hb (htb _ kA_long) rfl hfJ hP hD hS hA (fun _ => rfl) (by decide) rfl (by decide) (Nat.le_of_ble_eq_true rfl) (Nat.le_of_ble_eq_true rfl) dL_law_27 (fun oo H hP hD hS => ?_)
  rw [List.append_nil, List.append_assoc] at hP hD
  have hP := wP_213 hP
  have hD := wD_213 hD
  refine W.widen (k := 21) (n := 620) (by omega) (by omega) ?_
  refine lv_astore_n hx hb dL_law_29 rfl hl (by decide) rfl (fun ls hl => ?_)
  refine lv_iconst (v := 1) hx hb dL_law_30 (by decide) ?_
  refine lv_istore hx hb dL_law_31 hl (by decide) rfl (fun ls hl => ?_)
  have hl : lv_has ls 7 [(4, .int 1), (3, .ref oo), (2, .ref (bb 0)), (1, .ref (a 0)), (0, .ref b)] := hl
  obtain ⟨n, hn1, hn15, hNn⟩ := nN_nat (if 0 < L then xs 0 else 0)
  refine W.widen (k := 21 + 0) (n := 620 + 6 * 0) (by omega) (by omega) ?_
  exact lw_loop hx hb hml hown htb hX hbl hbA hA hL hK hSt hnw htw hfl hNn hn1 hn15
    (fun ls H locs cells slots h1 h2 hS => lv_iconst (v := 1) hx hb dL_law_544 (by decide) (va_forget (fun q hq => hA2 _ (hS.2.2 q hq)) (W.widen h1 h2 (lw_ret hx hb hr hlocks dL_law_545))))
    L 0 ls H _ fI (kBoot (nN (if 0 < L then xs 0 else 0)) ob0) (tr_end tr0) (nBoot (0, 0, 0, 0)) t00 0 0 0 0 (fun _ => 0) (by omega) (by omega) (I0_start _) rel_start hP hD hS (lv_sub hl [4, 3, 2, 1, 0] rfl)
set_option maxHeartbeats 4000000 in
theorem lw_walk (l : Launch) (hfl : l.flags = pinnedFlags ++ [noTraceFlag]) (b : Addr) (xs : List Int32) : MetFree l x (headSpec (Jvm.Cond.code x code maxLocals ret :: tables_1) room_1) (lw_P b xs) (fun _ _ _ _ _ => True) lw_Q := by
  refine MetFree.of_bodyS (code := code) (maxLocals := maxLocals) (ret := ret) (by decide) ?_ ?_
  · intro args s m h hn
    obtain ⟨meth, c, h1, h2, h3, h4, h5, h6, -, -⟩ := Cond.code_spec hn (atoms_spec (ws := Jvm.Cond.code x code maxLocals ret :: tables_1) h _ List.mem_cons_self)
    exact ⟨meth, c, h1, h2, h3, h4, h5, h6⟩
  · intro p e s m args below meth c s₁ B hml0 hP _
    obtain ⟨rfl, hx, hbd, hgv⟩ := hP
    obtain ⟨scr, harrAt, hlist, hof, hsmall⟩ := hx
    obtain ⟨hcb, hkn, -, -⟩ := State.arrayAt?_spec harrAt
    have hown : s.vm.findClass R_law = some m.cls := findClass_of_methodNamed B.named
    have hts0 : ∀ c ∈ (Jvm.Cond.code x code maxLocals ret :: tables_1), c.before #[Value.ref b] s = true := atoms_spec (ws := Jvm.Cond.code x code maxLocals ret :: tables_1) B.pre
    have hts : ∀ w ∈ lw_tbl, w.before #[Value.ref b] s = true := k2_hts_sels lw_privs (fun w hw => hts0 w (List.mem_cons_of_mem _ hw)) lw_privs_ok
    have hml : c.maxLocals = 7 := B.maxLocals_eq (hts0 _ List.mem_cons_self)
    have X₀ : Stand p l e room_1 s m #[Value.ref b] below meth c s₁ [] 0 0 := Stand.of_body B
    have hh0 : s₁.heap = s.heap := by rw [B.state]; rfl
    have hsz : scr.slots.size = xs.length := by rw [← Array.length_toList, hlist, List.length_map]
    have hval : ∀ j : Nat, j < xs.length → scr.slots[j]? = some (.int (xs.getD j 0)) := fun j hj => by
      rw [← Array.getElem?_toList, hlist]
      simp [hj]
    have hbl : b < s.heap.size := (Array.getElem?_eq_some_iff.mp hcb).1
    have hX : va_X b xs.length (fun j => xs.getD j 0) s s.heap := ⟨scr, hcb, hof, hkn, hsz, hval⟩
    have K : W p l e room_1 s m #[Value.ref b] below meth c s₁.heap [] 0 0 (lw_Z below #[Value.ref b] s) (entryFrame m ([Value.ref b] : List Value).toArray 7) := by
      rw [hh0]
      exact whole_start l hfl hbd ⟨B.exec, B.bytes, B.returns, hml, hown, hts, hX, hbl, B.notSynchronized, hgv⟩
    obtain ⟨t, a1, o, b1, b2, b3⟩ := K s₁ rfl X₀
    exact ⟨t, o, a1, b1, b2, b3⟩
theorem lw_pre_spec {args : Array Value} {s : State} (h : (Jvm.Cond.and given_1 narrow_1).before args s = true) (hr : rest_1_c.before args s = true) : ∃ (b : Addr) (xs : List Int32), lw_P b xs args s := by
  have hs := flat_of_before _ h
  have hq := flat_of_before _ hr
  have hc : (Cond.count 1).before args s = true := hs _ (by decide +kernel)
  have harr : (Cond.arrayOf (.arg 0) .int).before args s = true := hs _ (by decide +kernel)
  have hle : (Cond.le (.length (.arg 0)) (.int 2561)).before args s = true := hs _ (by decide +kernel)
  have hlen : (Cond.isInt (.length (.arg 0))).before args s = true := hq _ (by decide +kernel)
  have hall : (Cond.all (.arg 0) (.isInt (.elem (.arg 0) (.index 0)))).before args s = true := hq _ (by decide +kernel)
  obtain ⟨b, xs, hb, hx⟩ := State.ints_of_pre rfl harr hlen hall
  have hsm : xs.length < 2 ^ 31 := hx.choose_spec.2.2.2
  have hev : (Term.length (.arg 0)).eval args s none [] s = some (.int xs.length.toInt32) := hx.length_eval hb
  have hv := Cond.le_ints hev (show (Term.int 2561).eval args s none [] s = some (.int 2561) from rfl)
  have hd : xs.length.toInt32 ≤ 2561 := by
    simpa [Cond.before, Cond.holds, hv] using hle
  have hN : xs.length ≤ 2561 := (Int32.ofNat_le_ofNat hsm (by decide)).mp (show Int32.ofNat xs.length ≤ Int32.ofNat 2561 from hd)
  exact ⟨b, xs, Cond.one_arg hc (show args[0]? = some (.ref b) from hb), hx, hN, h⟩
theorem lw_comes (l : Launch) (hfl : l.flags = pinnedFlags ++ [noTraceFlag]) : Comes l x (Jvm.Cond.code x code maxLocals ret :: tables_1) room_1 (fun tb e args s => Calls_1 tb e args s ∧ rest_1 tb e args s ∧ Pre_1 tb e args s)
    (fun _ _ args s o t => lw_Q args s o t) := by
  intro p e ha hc hk s m args below hf hfit hheap happ hpre
  obtain ⟨b, xs, hP⟩ := lw_pre_spec hpre.2.2 hpre.2.1
  obtain ⟨k, o, h1, h2, h3, hQ⟩ := lw_walk l hfl b xs p e ha hc hk s m args below hf ((Spec.applies_iff_loose hf).mp happ).1 hP trivial
  exact ⟨k, o, h1, h2, h3, hQ⟩
theorem lw_frame {s t : State} {o : Outcome} {args : Array Value} (h : Framed s o t [] 1049 8836) :
    Framed s o t (fieldLocs frame_1_writes args s ++ arrayLocs frame_1_arrays args s ++ staticLocs frame_1_statics s) 1049 8836 := h
theorem lw_limb (L : Cond) (hL : ∀ (args : Array Value) (s t : State), L.after args s (.returned (some (.int 1))) t = true) :
    ArmFor flags0 classFile x code maxLocals ret World_1 tables_1 room_1 Calls_1 rest_1 Pre_1
      (fun tb e a s o t => postC L tb e a s o t ∧ Framed s o t (fieldLocs frame_1_writes a s ++ arrayLocs frame_1_arrays a s ++ staticLocs frame_1_statics s) 1049 8836) := by
  intro l h1_ h2_ h3_ p e ha hc hk s m args below hf hfit hheap happ hpre
  obtain ⟨k, o, h1, h2, h3, rfl, hF⟩ := lw_comes l (by first | exact h1_ | exact h2_ | exact h3_) p e ha hc hk s m args below hf hfit hheap happ hpre
  exact ⟨k, _, h1, h2, h3, hL args s _, lw_frame hF⟩
theorem i_vc : Claimed_1_1 ∧ Claimed_1_2 := ⟨lw_limb limb_1_1 (fun args s t => by simp [limb_1_1, Cond.after, Cond.holds, Cond.value]), lw_limb limb_1_2 (fun args s t => Cond.after_iff.mpr (by
  first | (rw [show limb_1_2 = Cond.eq .result (.int 1) from rfl, Cond.eq_ints (x := 1) (y := 1) rfl rfl]; simp; done) | (simp [limb_1_2, Cond.value, Term.eval]; done)))⟩
