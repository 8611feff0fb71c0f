-- a constructor's start: the array classes are known
def zPc (D : va_G) (tys : List (ClassId × FieldType)) (w : va_W) (sz : Nat) (cA cJ : ClassId) (U : State) : Prop := zPre D tys w sz U ∧ U.vm.findClass ("[" ++ FieldType.int.toString) = some cA ∧ U.vm.findClass ("[" ++ FieldType.long.toString) = some cJ
theorem zPc_blind {D : va_G} {tys : List (ClassId × FieldType)} {w : va_W} {sz : Nat} {cA cJ : ClassId} {av : List Value} : FrameBlind (va_Pc av (zPc D tys w sz cA cJ)) := fun a U g mk h => by
  obtain ⟨h0, h1, h2, h3⟩ := h
  exact ⟨h0, (zPre_blind (av := av) a U g mk ⟨h0, h1⟩).2, h2, h3⟩
theorem zp_I {s : State} {H : Heap} {locs : List Loc} {A : Nat → Prop} {D : va_G} {tys' : List (ClassId × FieldType)} {w : va_W} {As : List Value} {cA cJ : ClassId} (hP : va_P D vwCl w H) (hD : va_D A w) (hK : va_K D vwCl tys' s) (hSt : gSt A s s.heap) (hS : va_S A s.heap H locs) (hA : ∀ q, s.heap.size ≤ q → A q) (hnw : nw s) (hfA : s.vm.findClass ("[" ++ FieldType.int.toString) = some cA) (hfJ : s.vm.findClass ("[" ++ FieldType.long.toString) = some cJ) :
    PreS s H (va_Pc As (zPc D tys' w H.size cA cJ)) As := ⟨zPc_blind, fun U hU hW => ⟨rfl, zp_atW hP hD hK hSt hS hA hnw U hU hW, by rw [hW.alike.findClass]; exact hfA, by rw [hW.alike.findClass]; exact hfJ⟩⟩
def nN (n : Int32) : Int32 := if 1 < (if n < 15 then n else 15) then (if n < 15 then n else 15) else 1
def f00 : Nat → Int32 := fun _ => 0
def ob0 : OB := (f00, 0, 0)
def tr0 : TR := (f00, 0, 0, 0, 0, 0, 0, 0)
def fI : Nat → Int32 := va_cpy tF f00 0 0 95
set_option maxHeartbeats 4000000 in
set_option maxRecDepth 100000 in
theorem c_resetAllS (l : Launch) (D : va_G) (dd gg : Nat) (cA cJ : ClassId) (f : Nat → Int32) (sz : Nat)   : Met l yX0_resetAll (wX0_resetAll :: wb) ({ frames := 1, cells := 0, slots := 0, locals := 60 } : Room) (va_Pc [.ref dd] (zPre D [(cA, .int), (cJ, .long)] [(dd, .inr (0, [.ref gg])), (gg, .inl (cA, 95, .inl f))] sz)) (zb_Vv D vwCl [(dd, .inr (0, [.ref gg])), (gg, .inl (cA, 95, .inl (va_cpy tF f 0 0 95)))] (va_A [(dd, .inr (0, [.ref gg])), (gg, .inl (cA, 95, .inl f))] sz)) 0 0 (va_A [(dd, .inr (0, [.ref gg])), (gg, .inl (cA, 95, .inl f))] sz) := by
  refine Met.ofW (cc := cX0_resetAll) (maxL := 1) (ret := none) (by decide) rfl ?_
  intro p ev s m args below meth c s₁ B hml hv
  obtain ⟨rfl, hsz, hP, hK, hD0, hSt, hnw⟩ := hv
  have hx := B.exec
  have hb := B.bytes
  have hr := B.returns
  have hts := atoms_spec (ws := wX0_resetAll :: wb) B.pre
  have htb : ∀ w ∈ wb, w.before ([.ref dd]).toArray s = true := fun w h => hts w (List.mem_cons_of_mem _ h)
  have hown : s.vm.findClass RX0 = some m.cls := findClass_of_methodNamed B.named
  have hlocks := B.notSynchronized
  subst hsz
  have hD := hD0.self (sz := s.heap.size)
  clear hD0
  generalize hAe : va_A [(dd, .inr (0, [.ref gg])), (gg, .inl (cA, 95, .inl f))] s.heap.size = A at hD hSt ⊢
  have hA : ∀ q : Nat, s.heap.size ≤ q → A q := fun q h => by rw [← hAe]; exact Or.inr h
  have hS : va_S A s.heap s.heap [] := va_S.rf
  obtain ⟨⟨tt, ff, hZT, hTT, hZF, hTF⟩, hXS⟩ := id hSt
  have hl := lv_entry ([.ref dd]) (n := 1) (Nat.le_of_ble_eq_true rfl)
  rw [lg_entry_eq]
  generalize (lg_sl ([.ref dd]) ++ List.replicate (1 - (lg_sl ([.ref dd])).length) Slot.unset).toArray = ls at hl ⊢
  have hl : lv_has ls 1 [(0, .ref dd)] := hl
  refine zb_abs (fun Q hQ => ?_)
  refine va_gets hx hb hZF hS hown (htb _ kF_X0_16) (fun _ h9 => h9) dX0_resetAll_0 ?_
  refine lv_iconst (v := 0) hx hb dX0_resetAll_3 (by decide) ?_
  refine lv_aload_n hx hb dX0_resetAll_4 rfl (lv_at hl 0 rfl) ?_
  refine va_get (D := D) (ci := 0) (v := .ref gg) (fs := [.ref gg]) (C := RX0) (T := TX0) (N := 1) hx hb htb inX0 hown hK hP 0 rfl rfl 0 (by decide) (htb _ kF_X0_9) (fun _ h9 => h9) rfl dX0_resetAll_5 ?_
  refine lv_iconst (v := 0) hx hb dX0_resetAll_8 (by decide) ?_
  refine lv_bipush (v := 95) hx hb dX0_resetAll_9 (by decide) ?_
  refine zb_copyT (k := 95) hx hb (by rw [hml]; exact hl.1.symm) hown (htb _ kM_X0_19) (htb _ kV_acopy) (htb _ kZ_acopy) (htb _ kN_System) hK hP hD hS hTF 1 0 rfl rfl (by decide) (by decide) (by decide) (Nat.le_of_ble_eq_true rfl) (Nat.le_of_ble_eq_true rfl) dX0_resetAll_11 (fun H locs hP hD hS => ?_)
  have hP : va_P D vwCl [(dd, .inr (0, [.ref gg])), (gg, .inl (cA, 95, .inl (va_cpy tF f 0 0 95)))] H := hP
  have hD : va_D A [(dd, .inr (0, [.ref gg])), (gg, .inl (cA, 95, .inl (va_cpy tF f 0 0 95)))] := hD
  rw [hQ]
  have hw9 : ([(dd, .inr (0, [.ref gg])), (gg, .inl (cA, 95, .inl (va_cpy tF f 0 0 95)))] : va_W) = [(dd, .inr (0, [.ref gg])), (gg, .inl (cA, 95, .inl (va_cpy tF f 0 0 95)))] := rfl
  exact W.vret hx hb hr (fun t9 ht hW => ⟨rfl, by rw [ht, ← hw9]; exact hP, by rw [← hw9]; exact hD, hS.F ht⟩) hS.2.2 dX0_resetAll_14
set_option maxHeartbeats 4000000 in
set_option maxRecDepth 100000 in
theorem c_X0_init (l : Launch) (D : va_G) (cA cJ : ClassId) (sz : Nat) (dd : Nat) : Met l yX0_init (wX0_init :: wb) ({ frames := 2, cells := 1, slots := 95, locals := 80 } : Room) (va_Pc [.ref dd] (zPc D [(cA, .int), (cJ, .long)] [(dd, .inr (0, [.null]))] sz cA cJ)) (zb_G (X := Nat) (fun _ => none) D vwCl (fun gg => [(dd, .inr (0, [.ref gg])), (gg, .inl (cA, 95, .inl fI))]) (fun _ => True) (va_A [(dd, .inr (0, [.null]))] sz)) 1 95 (va_A [(dd, .inr (0, [.null]))] sz) := by
  refine Met.ofW (cc := cX0_init) (maxL := 1) (ret := none) (by decide) rfl ?_
  intro p ev s m args below meth c s₁ B hml hv
  obtain ⟨rfl, ⟨hsz, hP, hK, hD0, hSt, hnw⟩, hfA, hfJ⟩ := hv
  have hx := B.exec
  have hb := B.bytes
  have hr := B.returns
  have hts := atoms_spec (ws := wX0_init :: wb) B.pre
  have htb : ∀ w ∈ wb, w.before ([.ref dd]).toArray s = true := fun w h => hts w (List.mem_cons_of_mem _ h)
  have hown : s.vm.findClass RX0 = some m.cls := findClass_of_methodNamed B.named
  have hin : meth.name = "<init>" := (name_of_methodNamed B.named B.method).1
  subst hsz
  have hD := hD0.self (sz := s.heap.size)
  clear hD0
  generalize hAe : va_A [(dd, .inr (0, [.null]))] s.heap.size = A at hD hSt ⊢
  have hA : ∀ q : Nat, s.heap.size ≤ q → A q := fun q h => by rw [← hAe]; exact Or.inr h
  have hS : va_S A s.heap s.heap [] := va_S.rf
  obtain ⟨⟨tt, ff, hZT, hTT, hZF, hTF⟩, hXS⟩ := id hSt
  have hl := lv_entry ([.ref dd]) (n := 1) (Nat.le_of_ble_eq_true rfl)
  rw [lg_entry_eq]
  generalize (lg_sl ([.ref dd]) ++ List.replicate (1 - (lg_sl ([.ref dd])).length) Slot.unset).toArray = ls at hl ⊢
  have hl : lv_has ls 1 [(0, .ref dd)] := hl
  refine zb_abs (fun Q hQ => ?_)
  refine lv_aload_n hx hb dX0_init_0 rfl (lv_at hl 0 rfl) ?_
  refine W.objInit hx hb hown (htb _ kM_X0_1) (htb _ kI_obj) (htb _ kD_obj) rfl (by rw [hml]; exact hl.1) rfl dX0_init_1 (Nat.le_of_ble_eq_true rfl) (Nat.le_of_ble_eq_true rfl) ?_
  refine W.eq (g2 := F0 m 4 ls []) rfl ?_
  refine lv_aload_n hx hb dX0_init_4 rfl (lv_at hl 0 rfl) ?_
  refine lv_bipush (v := 95) hx hb dX0_init_5 (by decide) ?_
  refine zb_newa (atype := .int) (ty := .int) (a0 := (95, .inl (fun _ => 0))) (N' := 95) (tys := []) hx hb (htb _ kA_int) rfl hfA hP hD hS hA (fun _ => rfl) (by decide) rfl (by decide) (Nat.le_of_ble_eq_true rfl) (Nat.le_of_ble_eq_true rfl) dX0_init_7 (fun q7 H hP hD hS => ?_)
  have hP : va_P D vwCl [(dd, .inr (0, [.null])), (q7, .inl (cA, 95, .inl (fun _ => 0)))] H := hP
  have hD : va_D A [(dd, .inr (0, [.null])), (q7, .inl (cA, 95, .inl (fun _ => 0)))] := hD
  refine W.widen (k := 1) (n := 95) (by omega) (by omega) ?_
  refine va_putF (D := D) (ci := 0) (v := .ref q7) (fs := [.null]) (ty := .array .int) (C := RX0) (T := TX0) (N := 1) hx hb htb inX0 tyX0 tyX0_ok nmX0 hown hK hP hD hS 0 rfl rfl 0 (by decide) (htb _ kF_X0_9) (fun _ h9 => h9) rfl hin rfl (by decide +kernel) rfl rfl (Nat.le_of_ble_eq_true rfl) dX0_init_9 (fun H locs hP hD hS => ?_)
  have hP : va_P D vwCl [(dd, .inr (0, [.ref q7])), (q7, .inl (cA, 95, .inl (fun _ => 0)))] H := hP
  have hD : va_D A [(dd, .inr (0, [.ref q7])), (q7, .inl (cA, 95, .inl (fun _ => 0)))] := hD
  refine lv_aload_n hx hb dX0_init_12 rfl (lv_at hl 0 rfl) ?_
  refine zb_cv (va_runV (As := []) (rest := []) ⟨hx, hb, hml, hown, htb⟩ (c_resetAllS l D dd q7 cA cJ (fun _ => 0) _) (cwV 0 htb (wb_V kM_X0_13 kI_X0_resetAll kS_X0_resetAll kN_X0 kD_X0_resetAll) rfl rfl rfl (by decide +kernel) ⟨Nat.le_of_ble_eq_true rfl, Nat.le_of_ble_eq_true rfl⟩) (zp_VW 0 rfl rfl hP hD hK hSt hS hA hnw) rfl rfl hl.1 rfl (lv_room (Nat.le_of_ble_eq_true rfl)) dX0_init_13 ⟨Nat.le_of_ble_eq_true rfl, Nat.le_of_ble_eq_true rfl⟩) hD hS hA (fun H locs hP hD hS => ?_)
  have hP : va_P D vwCl [(dd, .inr (0, [.ref q7])), (q7, .inl (cA, 95, .inl fI))] H := hP
  have hD : va_D A [(dd, .inr (0, [.ref q7])), (q7, .inl (cA, 95, .inl fI))] := hD
  refine W.widen (k := 1) (n := 95) (by omega) (by omega) ?_
  rw [hQ]
  have hw9 : ([(dd, .inr (0, [.ref q7])), (q7, .inl (cA, 95, .inl fI))] : va_W) = (fun gg => [(dd, .inr (0, [.ref gg])), (gg, .inl (cA, 95, .inl fI))]) q7 := rfl
  exact W.vret hx hb hr (fun t9 ht hW => ⟨q7, trivial, rfl, by rw [ht, ← hw9]; exact hP, by rw [← hw9]; exact hD, hS.F ht⟩) hS.2.2 dX0_init_16
set_option maxHeartbeats 4000000 in
set_option maxRecDepth 100000 in
theorem c_X1_init (l : Launch) (D : va_G) (cA cJ : ClassId) (sz : Nat) (mm dd : Nat) (ce rr : Int32) : Met l yX1_init (wX1_init :: wb) ({ frames := 1, cells := 0, slots := 0, locals := 12 } : Room) (va_Pc [.ref mm, .ref dd, .int ce, .int rr] (zPc D [(cA, .int), (cJ, .long)] [(mm, .inr (1, [.null, .int 0, .int 0]))] sz cA cJ)) (zb_G (X := Unit) (fun _ => none) D vwCl (fun _ => [(mm, .inr (1, [.ref dd, .int ce, .int (rr ||| 4)]))]) (fun _ => True) (va_A [(mm, .inr (1, [.null, .int 0, .int 0]))] sz)) 0 0 (va_A [(mm, .inr (1, [.null, .int 0, .int 0]))] sz) := by
  refine Met.ofW (cc := cX1_init) (maxL := 4) (ret := none) (by decide) rfl ?_
  intro p ev s m args below meth c s₁ B hml hv
  obtain ⟨rfl, ⟨hsz, hP, hK, hD0, hSt, hnw⟩, hfA, hfJ⟩ := hv
  have hx := B.exec
  have hb := B.bytes
  have hr := B.returns
  have hts := atoms_spec (ws := wX1_init :: wb) B.pre
  have htb : ∀ w ∈ wb, w.before ([.ref mm, .ref dd, .int ce, .int rr]).toArray s = true := fun w h => hts w (List.mem_cons_of_mem _ h)
  have hown : s.vm.findClass RX1 = some m.cls := findClass_of_methodNamed B.named
  have hin : meth.name = "<init>" := (name_of_methodNamed B.named B.method).1
  subst hsz
  have hD := hD0.self (sz := s.heap.size)
  clear hD0
  generalize hAe : va_A [(mm, .inr (1, [.null, .int 0, .int 0]))] s.heap.size = A at hD hSt ⊢
  have hA : ∀ q : Nat, s.heap.size ≤ q → A q := fun q h => by rw [← hAe]; exact Or.inr h
  have hS : va_S A s.heap s.heap [] := va_S.rf
  obtain ⟨⟨tt, ff, hZT, hTT, hZF, hTF⟩, hXS⟩ := id hSt
  have hl := lv_entry ([.ref mm, .ref dd, .int ce, .int rr]) (n := 4) (Nat.le_of_ble_eq_true rfl)
  rw [lg_entry_eq]
  generalize (lg_sl ([.ref mm, .ref dd, .int ce, .int rr]) ++ List.replicate (4 - (lg_sl ([.ref mm, .ref dd, .int ce, .int rr])).length) Slot.unset).toArray = ls at hl ⊢
  have hl : lv_has ls 4 [(0, .ref mm), (1, .ref dd), (2, .int ce), (3, .int rr)] := hl
  refine zb_abs (fun Q hQ => ?_)
  refine lv_aload_n hx hb dX1_init_0 rfl (lv_at hl 0 rfl) ?_
  refine W.objInit hx hb hown (htb _ kM_X1_3) (htb _ kI_obj) (htb _ kD_obj) rfl (by rw [hml]; exact hl.1) rfl dX1_init_1 (Nat.le_of_ble_eq_true rfl) (Nat.le_of_ble_eq_true rfl) ?_
  refine W.eq (g2 := F0 m 4 ls []) rfl ?_
  refine lv_aload_n hx hb dX1_init_4 rfl (lv_at hl 0 rfl) ?_
  refine lv_aload_n hx hb dX1_init_5 rfl (lv_at hl 1 rfl) ?_
  refine va_putF (D := D) (ci := 1) (v := .ref dd) (fs := [.null, .int 0, .int 0]) (ty := .object "MappedBusNode$Dictionary") (C := RX1) (T := TX1) (N := 3) hx hb htb inX1 tyX1 tyX1_ok nmX1 hown hK hP hD hS 0 rfl rfl 0 (by decide) (htb _ kF_X1_9) (fun _ h9 => h9) rfl hin rfl (by decide +kernel) rfl rfl (Nat.le_of_ble_eq_true rfl) dX1_init_6 (fun H locs hP hD hS => ?_)
  have hP : va_P D vwCl [(mm, .inr (1, [.ref dd, .int 0, .int 0]))] H := hP
  have hD : va_D A [(mm, .inr (1, [.ref dd, .int 0, .int 0]))] := hD
  refine lv_aload_n hx hb dX1_init_9 rfl (lv_at hl 0 rfl) ?_
  refine lv_iload_n hx hb dX1_init_10 rfl (lv_at hl 2 rfl) ?_
  refine va_putF (D := D) (ci := 1) (v := .int ce) (fs := [.ref dd, .int 0, .int 0]) (ty := .int) (C := RX1) (T := TX1) (N := 3) hx hb htb inX1 tyX1 tyX1_ok nmX1 hown hK hP hD hS 0 rfl rfl 1 (by decide) (htb _ kF_X1_15) (fun _ h9 => h9) rfl hin rfl (by decide +kernel) rfl rfl (Nat.le_of_ble_eq_true rfl) dX1_init_11 (fun H locs hP hD hS => ?_)
  have hP : va_P D vwCl [(mm, .inr (1, [.ref dd, .int ce, .int 0]))] H := hP
  have hD : va_D A [(mm, .inr (1, [.ref dd, .int ce, .int 0]))] := hD
  refine lv_aload_n hx hb dX1_init_14 rfl (lv_at hl 0 rfl) ?_
  refine lv_iload_n hx hb dX1_init_15 rfl (lv_at hl 3 rfl) ?_
  refine lv_iconst (v := 4) hx hb dX1_init_16 (by decide) ?_
  refine lv_ior hx hb dX1_init_17 ?_
  refine va_putF (D := D) (ci := 1) (v := .int (rr ||| 4)) (fs := [.ref dd, .int ce, .int 0]) (ty := .int) (C := RX1) (T := TX1) (N := 3) hx hb htb inX1 tyX1 tyX1_ok nmX1 hown hK hP hD hS 0 rfl rfl 2 (by decide) (htb _ kF_X1_21) (fun _ h9 => h9) rfl hin rfl (by decide +kernel) rfl rfl (Nat.le_of_ble_eq_true rfl) dX1_init_18 (fun H locs hP hD hS => ?_)
  have hP : va_P D vwCl [(mm, .inr (1, [.ref dd, .int ce, .int (rr ||| 4)]))] H := hP
  have hD : va_D A [(mm, .inr (1, [.ref dd, .int ce, .int (rr ||| 4)]))] := hD
  rw [hQ]
  have hw9 : ([(mm, .inr (1, [.ref dd, .int ce, .int (rr ||| 4)]))] : va_W) = (fun _ => [(mm, .inr (1, [.ref dd, .int ce, .int (rr ||| 4)]))]) () := rfl
  exact W.vret hx hb hr (fun t9 ht hW => ⟨(), trivial, rfl, by rw [ht, ← hw9]; exact hP, by rw [← hw9]; exact hD, hS.F ht⟩) hS.2.2 dX1_init_21
set_option maxHeartbeats 4000000 in
set_option maxRecDepth 100000 in
theorem c_X2_init (l : Launch) (D : va_G) (cA cJ : ClassId) (sz : Nat) (oo : Nat) : Met l yX2_init (wX2_init :: wb) ({ frames := 1, cells := 1, slots := 128, locals := 12 } : Room) (va_Pc [.ref oo] (zPc D [(cA, .int), (cJ, .long)] [(oo, .inr (2, [.null, .int 0, .int 0]))] sz cA cJ)) (zb_G (X := Nat) (fun _ => none) D vwCl (fun gg => [(oo, .inr (2, [.ref gg, .int 0, .int 0])), (gg, .inl (cA, 128, .inl f00))]) (fun _ => True) (va_A [(oo, .inr (2, [.null, .int 0, .int 0]))] sz)) 1 128 (va_A [(oo, .inr (2, [.null, .int 0, .int 0]))] sz) := by
  refine Met.ofW (cc := cX2_init) (maxL := 1) (ret := none) (by decide) rfl ?_
  intro p ev s m args below meth c s₁ B hml hv
  obtain ⟨rfl, ⟨hsz, hP, hK, hD0, hSt, hnw⟩, hfA, hfJ⟩ := hv
  have hx := B.exec
  have hb := B.bytes
  have hr := B.returns
  have hts := atoms_spec (ws := wX2_init :: wb) B.pre
  have htb : ∀ w ∈ wb, w.before ([.ref oo]).toArray s = true := fun w h => hts w (List.mem_cons_of_mem _ h)
  have hown : s.vm.findClass RX2 = some m.cls := findClass_of_methodNamed B.named
  have hin : meth.name = "<init>" := (name_of_methodNamed B.named B.method).1
  subst hsz
  have hD := hD0.self (sz := s.heap.size)
  clear hD0
  generalize hAe : va_A [(oo, .inr (2, [.null, .int 0, .int 0]))] s.heap.size = A at hD hSt ⊢
  have hA : ∀ q : Nat, s.heap.size ≤ q → A q := fun q h => by rw [← hAe]; exact Or.inr h
  have hS : va_S A s.heap s.heap [] := va_S.rf
  obtain ⟨⟨tt, ff, hZT, hTT, hZF, hTF⟩, hXS⟩ := id hSt
  have hl := lv_entry ([.ref oo]) (n := 1) (Nat.le_of_ble_eq_true rfl)
  rw [lg_entry_eq]
  generalize (lg_sl ([.ref oo]) ++ List.replicate (1 - (lg_sl ([.ref oo])).length) Slot.unset).toArray = ls at hl ⊢
  have hl : lv_has ls 1 [(0, .ref oo)] := hl
  refine zb_abs (fun Q hQ => ?_)
  refine lv_aload_n hx hb dX2_init_0 rfl (lv_at hl 0 rfl) ?_
  refine W.objInit hx hb hown (htb _ kM_X2_1) (htb _ kI_obj) (htb _ kD_obj) rfl (by rw [hml]; exact hl.1) rfl dX2_init_1 (Nat.le_of_ble_eq_true rfl) (Nat.le_of_ble_eq_true rfl) ?_
  refine W.eq (g2 := F0 m 4 ls []) rfl ?_
  refine lv_aload_n hx hb dX2_init_4 rfl (lv_at hl 0 rfl) ?_
  refine lv_sipush (v := 128) hx hb dX2_init_5 (by decide) ?_
  refine zb_newa (atype := .int) (ty := .int) (a0 := (128, .inl (fun _ => 0))) (N' := 128) (tys := []) hx hb (htb _ kA_int) rfl hfA hP hD hS hA (fun _ => rfl) (by decide) rfl (by decide) (Nat.le_of_ble_eq_true rfl) (Nat.le_of_ble_eq_true rfl) dX2_init_8 (fun q8 H hP hD hS => ?_)
  have hP : va_P D vwCl [(oo, .inr (2, [.null, .int 0, .int 0])), (q8, .inl (cA, 128, .inl (fun _ => 0)))] H := hP
  have hD : va_D A [(oo, .inr (2, [.null, .int 0, .int 0])), (q8, .inl (cA, 128, .inl (fun _ => 0)))] := hD
  refine W.widen (k := 1) (n := 128) (by omega) (by omega) ?_
  refine va_putF (D := D) (ci := 2) (v := .ref q8) (fs := [.null, .int 0, .int 0]) (ty := .array .int) (C := RX2) (T := TX2) (N := 3) hx hb htb inX2 tyX2 tyX2_ok nmX2 hown hK hP hD hS 0 rfl rfl 0 (by decide) (htb _ kF_X2_9) (fun _ h9 => h9) rfl hin rfl (by decide +kernel) rfl rfl (Nat.le_of_ble_eq_true rfl) dX2_init_10 (fun H locs hP hD hS => ?_)
  have hP : va_P D vwCl [(oo, .inr (2, [.ref q8, .int 0, .int 0])), (q8, .inl (cA, 128, .inl (fun _ => 0)))] H := hP
  have hD : va_D A [(oo, .inr (2, [.ref q8, .int 0, .int 0])), (q8, .inl (cA, 128, .inl (fun _ => 0)))] := hD
  rw [hQ]
  have hw9 : ([(oo, .inr (2, [.ref q8, .int 0, .int 0])), (q8, .inl (cA, 128, .inl (fun _ => 0)))] : va_W) = (fun gg => [(oo, .inr (2, [.ref gg, .int 0, .int 0])), (gg, .inl (cA, 128, .inl f00))]) q8 := rfl
  exact W.vret hx hb hr (fun t9 ht hW => ⟨q8, trivial, rfl, by rw [ht, ← hw9]; exact hP, by rw [← hw9]; exact hD, hS.F ht⟩) hS.2.2 dX2_init_13
set_option maxHeartbeats 4000000 in
set_option maxRecDepth 100000 in
theorem c_X3_init (l : Launch) (D : va_G) (cA cJ : ClassId) (sz : Nat) (tt9 : Nat) : Met l yX3_init (wX3_init :: wb) ({ frames := 1, cells := 1, slots := 20, locals := 12 } : Room) (va_Pc [.ref tt9] (zPc D [(cA, .int), (cJ, .long)] [(tt9, .inr (3, [.null, .int 0, .int 0, .int 0, .int 0, .int 0, .int 0, .int 0]))] sz cA cJ)) (zb_G (X := Nat) (fun _ => none) D vwCl (fun gg => [(tt9, .inr (3, [.ref gg, .int 0, .int 0, .int 0, .int 0, .int 0, .int 0, .int 0])), (gg, .inl (cA, 20, .inl f00))]) (fun _ => True) (va_A [(tt9, .inr (3, [.null, .int 0, .int 0, .int 0, .int 0, .int 0, .int 0, .int 0]))] sz)) 1 20 (va_A [(tt9, .inr (3, [.null, .int 0, .int 0, .int 0, .int 0, .int 0, .int 0, .int 0]))] sz) := by
  refine Met.ofW (cc := cX3_init) (maxL := 1) (ret := none) (by decide) rfl ?_
  intro p ev s m args below meth c s₁ B hml hv
  obtain ⟨rfl, ⟨hsz, hP, hK, hD0, hSt, hnw⟩, hfA, hfJ⟩ := hv
  have hx := B.exec
  have hb := B.bytes
  have hr := B.returns
  have hts := atoms_spec (ws := wX3_init :: wb) B.pre
  have htb : ∀ w ∈ wb, w.before ([.ref tt9]).toArray s = true := fun w h => hts w (List.mem_cons_of_mem _ h)
  have hown : s.vm.findClass RX3 = some m.cls := findClass_of_methodNamed B.named
  have hin : meth.name = "<init>" := (name_of_methodNamed B.named B.method).1
  subst hsz
  have hD := hD0.self (sz := s.heap.size)
  clear hD0
  generalize hAe : va_A [(tt9, .inr (3, [.null, .int 0, .int 0, .int 0, .int 0, .int 0, .int 0, .int 0]))] s.heap.size = A at hD hSt ⊢
  have hA : ∀ q : Nat, s.heap.size ≤ q → A q := fun q h => by rw [← hAe]; exact Or.inr h
  have hS : va_S A s.heap s.heap [] := va_S.rf
  obtain ⟨⟨tt, ff, hZT, hTT, hZF, hTF⟩, hXS⟩ := id hSt
  have hl := lv_entry ([.ref tt9]) (n := 1) (Nat.le_of_ble_eq_true rfl)
  rw [lg_entry_eq]
  generalize (lg_sl ([.ref tt9]) ++ List.replicate (1 - (lg_sl ([.ref tt9])).length) Slot.unset).toArray = ls at hl ⊢
  have hl : lv_has ls 1 [(0, .ref tt9)] := hl
  refine zb_abs (fun Q hQ => ?_)
  refine lv_aload_n hx hb dX3_init_0 rfl (lv_at hl 0 rfl) ?_
  refine W.objInit hx hb hown (htb _ kM_X3_3) (htb _ kI_obj) (htb _ kD_obj) rfl (by rw [hml]; exact hl.1) rfl dX3_init_1 (Nat.le_of_ble_eq_true rfl) (Nat.le_of_ble_eq_true rfl) ?_
  refine W.eq (g2 := F0 m 4 ls []) rfl ?_
  refine lv_aload_n hx hb dX3_init_4 rfl (lv_at hl 0 rfl) ?_
  refine lv_bipush (v := 20) hx hb dX3_init_5 (by decide) ?_
  refine zb_newa (atype := .int) (ty := .int) (a0 := (20, .inl (fun _ => 0))) (N' := 20) (tys := []) hx hb (htb _ kA_int) rfl hfA hP hD hS hA (fun _ => rfl) (by decide) rfl (by decide) (Nat.le_of_ble_eq_true rfl) (Nat.le_of_ble_eq_true rfl) dX3_init_7 (fun q7 H hP hD hS => ?_)
  have hP : va_P D vwCl [(tt9, .inr (3, [.null, .int 0, .int 0, .int 0, .int 0, .int 0, .int 0, .int 0])), (q7, .inl (cA, 20, .inl (fun _ => 0)))] H := hP
  have hD : va_D A [(tt9, .inr (3, [.null, .int 0, .int 0, .int 0, .int 0, .int 0, .int 0, .int 0])), (q7, .inl (cA, 20, .inl (fun _ => 0)))] := hD
  refine W.widen (k := 1) (n := 20) (by omega) (by omega) ?_
  refine va_putF (D := D) (ci := 3) (v := .ref q7) (fs := [.null, .int 0, .int 0, .int 0, .int 0, .int 0, .int 0, .int 0]) (ty := .array .int) (C := RX3) (T := TX3) (N := 8) hx hb htb inX3 tyX3 tyX3_ok nmX3 hown hK hP hD hS 0 rfl rfl 0 (by decide) (htb _ kF_X3_11) (fun _ h9 => h9) rfl hin rfl (by decide +kernel) rfl rfl (Nat.le_of_ble_eq_true rfl) dX3_init_9 (fun H locs hP hD hS => ?_)
  have hP : va_P D vwCl [(tt9, .inr (3, [.ref q7, .int 0, .int 0, .int 0, .int 0, .int 0, .int 0, .int 0])), (q7, .inl (cA, 20, .inl (fun _ => 0)))] H := hP
  have hD : va_D A [(tt9, .inr (3, [.ref q7, .int 0, .int 0, .int 0, .int 0, .int 0, .int 0, .int 0])), (q7, .inl (cA, 20, .inl (fun _ => 0)))] := hD
  rw [hQ]
  have hw9 : ([(tt9, .inr (3, [.ref q7, .int 0, .int 0, .int 0, .int 0, .int 0, .int 0, .int 0])), (q7, .inl (cA, 20, .inl (fun _ => 0)))] : va_W) = (fun gg => [(tt9, .inr (3, [.ref gg, .int 0, .int 0, .int 0, .int 0, .int 0, .int 0, .int 0])), (gg, .inl (cA, 20, .inl f00))]) q7 := rfl
  exact W.vret hx hb hr (fun t9 ht hW => ⟨q7, trivial, rfl, by rw [ht, ← hw9]; exact hP, by rw [← hw9]; exact hD, hS.F ht⟩) hS.2.2 dX3_init_12
set_option maxHeartbeats 4000000 in
set_option maxRecDepth 100000 in
theorem c_X4_init (l : Launch) (D : va_G) (cA cJ : ClassId) (sz : Nat) (a0 : Nat) (n0 : Int32) : Met l yX4_init (wX4_init :: wb) ({ frames := 3, cells := 8, slots := 261, locals := 100 } : Room) (va_Pc [.ref a0, .int n0] (zPc D [(cA, .int), (cJ, .long)] [(a0, .inr (4, [.int 0, .null, .null, .null, .null, .null, .int 0, .int 0, .int 0, .long 0]))] sz cA cJ)) (zb_G (X := (Nat → Nat)) (fun _ => none) D vwCl (fun a => cw a cA (nN n0) fI (kBoot (nN n0) ob0) (tr_end tr0) (nBoot (0, 0, 0, 0))) (fun a => a 0 = a0) (va_A [(a0, .inr (4, [.int 0, .null, .null, .null, .null, .null, .int 0, .int 0, .int 0, .long 0]))] sz)) 8 261 (va_A [(a0, .inr (4, [.int 0, .null, .null, .null, .null, .null, .int 0, .int 0, .int 0, .long 0]))] sz) := by
  refine Met.ofW (cc := cX4_init) (maxL := 3) (ret := none) (by decide) rfl ?_
  intro p ev s m args below meth c s₁ B hml hv
  obtain ⟨rfl, ⟨hsz, hP, hK, hD0, hSt, hnw⟩, hfA, hfJ⟩ := hv
  have hx := B.exec
  have hb := B.bytes
  have hr := B.returns
  have hts := atoms_spec (ws := wX4_init :: wb) B.pre
  have htb : ∀ w ∈ wb, w.before ([.ref a0, .int n0]).toArray s = true := fun w h => hts w (List.mem_cons_of_mem _ h)
  have hown : s.vm.findClass RX4 = some m.cls := findClass_of_methodNamed B.named
  have hin : meth.name = "<init>" := (name_of_methodNamed B.named B.method).1
  subst hsz
  have hD := hD0.self (sz := s.heap.size)
  clear hD0
  generalize hAe : va_A [(a0, .inr (4, [.int 0, .null, .null, .null, .null, .null, .int 0, .int 0, .int 0, .long 0]))] s.heap.size = A at hD hSt ⊢
  have hA : ∀ q : Nat, s.heap.size ≤ q → A q := fun q h => by rw [← hAe]; exact Or.inr h
  have hS : va_S A s.heap s.heap [] := va_S.rf
  obtain ⟨⟨tt, ff, hZT, hTT, hZF, hTF⟩, hXS⟩ := id hSt
  have hl := lv_entry ([.ref a0, .int n0]) (n := 3) (Nat.le_of_ble_eq_true rfl)
  rw [lg_entry_eq]
  generalize (lg_sl ([.ref a0, .int n0]) ++ List.replicate (3 - (lg_sl ([.ref a0, .int n0])).length) Slot.unset).toArray = ls at hl ⊢
  have hl : lv_has ls 3 [(0, .ref a0), (1, .int n0)] := hl
  refine zb_abs (fun Q hQ => ?_)
  refine lv_aload_n hx hb dX4_init_0 rfl (lv_at hl 0 rfl) ?_
  refine W.objInit hx hb hown (htb _ kM_X4_1) (htb _ kI_obj) (htb _ kD_obj) rfl (by rw [hml]; exact hl.1) rfl dX4_init_1 (Nat.le_of_ble_eq_true rfl) (Nat.le_of_ble_eq_true rfl) ?_
  refine W.eq (g2 := F0 m 4 ls []) rfl ?_
  refine lv_aload_n hx hb dX4_init_4 rfl (lv_at hl 0 rfl) ?_
  refine lv_iconst (v := 1) hx hb dX4_init_5 (by decide) ?_
  refine lv_bipush (v := 15) hx hb dX4_init_6 (by decide) ?_
  refine lv_iload_n hx hb dX4_init_8 rfl (lv_at hl 1 rfl) ?_
  refine va_mmin hx hb (by rw [hml]; exact hl.1.symm) hown (htb _ kM_X4_7) (htb _ kZ_min) (htb _ kN_Math) (htb _ kD_min) (Nat.le_of_ble_eq_true rfl) (Nat.le_of_ble_eq_true rfl) (Nat.le_of_ble_eq_true rfl) (Nat.le_of_ble_eq_true rfl) dX4_init_9 ?_
  refine va_mmax hx hb (by rw [hml]; exact hl.1.symm) hown (htb _ kM_X4_13) (htb _ kZ_max) (htb _ kN_Math) (htb _ kD_max) (Nat.le_of_ble_eq_true rfl) (Nat.le_of_ble_eq_true rfl) (Nat.le_of_ble_eq_true rfl) (Nat.le_of_ble_eq_true rfl) dX4_init_12 ?_
  refine zb_ti (y := nN n0) (rfl) ?_
  refine va_putF (D := D) (ci := 4) (v := .int (nN n0)) (fs := [.int 0, .null, .null, .null, .null, .null, .int 0, .int 0, .int 0, .long 0]) (ty := .int) (C := RX4) (T := TX4) (N := 10) hx hb htb inX4 tyX4 tyX4_ok nmX4 hown hK hP hD hS 0 rfl rfl 0 (by decide) (htb _ kF_X4_16) (fun _ h9 => h9) rfl hin rfl (by decide +kernel) rfl rfl (Nat.le_of_ble_eq_true rfl) dX4_init_15 (fun H locs hP hD hS => ?_)
  have hP : va_P D vwCl [(a0, .inr (4, [.int (nN n0), .null, .null, .null, .null, .null, .int 0, .int 0, .int 0, .long 0]))] H := hP
  have hD : va_D A [(a0, .inr (4, [.int (nN n0), .null, .null, .null, .null, .null, .int 0, .int 0, .int 0, .long 0]))] := hD
  refine va_new (ci := 0) (fs := [.null]) (C := RX0) (T := TX0) (N := 1) hx hb htb inX0 tyX0 tyX0_ok hown (htb _ kC_X4_22) (htb _ kB_X0) (htb _ kN_X0) hK hP hD hS hA rfl (fun j hj => by rcases (show j = 0 by omega) with rfl <;> rfl) (Nat.le_of_ble_eq_true rfl) (Nat.le_of_ble_eq_true rfl) dX4_init_18 (fun q18 H hP hD hS => ?_)
  have hP : va_P D vwCl [(a0, .inr (4, [.int (nN n0), .null, .null, .null, .null, .null, .int 0, .int 0, .int 0, .long 0])), (q18, .inr (0, [.null]))] H := hP
  have hD : va_D A [(a0, .inr (4, [.int (nN n0), .null, .null, .null, .null, .null, .int 0, .int 0, .int 0, .long 0])), (q18, .inr (0, [.null]))] := hD
  refine W.widen (k := 1) (n := 1) (by omega) (by omega) ?_
  refine lv_dup hx hb dX4_init_21 rfl ?_
  have hP := hP.sub (ws' := [(q18, .inr (0, [.null]))] ++ [(a0, .inr (4, [.int (nN n0), .null, .null, .null, .null, .null, .int 0, .int 0, .int 0, .long 0]))]) [1, 0] rfl
  have hD := hD.sub (ws' := [(q18, .inr (0, [.null]))] ++ [(a0, .inr (4, [.int (nN n0), .null, .null, .null, .null, .null, .int 0, .int 0, .int 0, .long 0]))]) [1, 0] (by decide) rfl
  refine zb_cg (w0 := [(q18, .inr (0, [.null]))]) (wr := [(a0, .inr (4, [.int (nN n0), .null, .null, .null, .null, .null, .int 0, .int 0, .int 0, .long 0]))]) (a := #[]) (va_runI (As := []) (rest := [.ref q18]) ⟨hx, hb, hml, hown, htb⟩ (c_X0_init l D cA cJ H.size q18) (cwI 0 htb (wb_gd kD_X0_init) rfl rfl rfl (htb _ kN_X0) (htb _ kM_X4_24) (htb _ kI_X0_init) rfl (by decide +kernel) ⟨Nat.le_of_ble_eq_true rfl, Nat.le_of_ble_eq_true rfl⟩) (zp_I (wP_l hP) (wD_l hD) hK hSt hS hA hnw hfA hfJ) rfl rfl hl.1 rfl (lv_room (Nat.le_of_ble_eq_true rfl)) dX4_init_22 ⟨Nat.le_of_ble_eq_true rfl, Nat.le_of_ble_eq_true rfl⟩) (fun _ _ _ h => h) hP hD hS hA (fun x1 hx_x1 H locs hP hD hS => ?_)
  have hP := hP.sub (ws' := [(a0, .inr (4, [.int (nN n0), .null, .null, .null, .null, .null, .int 0, .int 0, .int 0, .long 0])), (q18, .inr (0, [.ref x1])), (x1, .inl (cA, 95, .inl fI))]) [2, 0, 1] rfl
  have hD := hD.sub (ws' := [(a0, .inr (4, [.int (nN n0), .null, .null, .null, .null, .null, .int 0, .int 0, .int 0, .long 0])), (q18, .inr (0, [.ref x1])), (x1, .inl (cA, 95, .inl fI))]) [2, 0, 1] (by decide) rfl
  refine W.widen (k := 2) (n := 96) (by omega) (by omega) ?_
  refine lv_astore_n hx hb dX4_init_25 rfl hl (by decide) rfl (fun ls hl => ?_)
  have hl : lv_has ls 3 [(2, .ref q18), (0, .ref a0), (1, .int n0)] := hl
  refine lv_aload_n hx hb dX4_init_26 rfl (lv_at hl 1 rfl) ?_
  refine lv_aload_n hx hb dX4_init_27 rfl (lv_at hl 0 rfl) ?_
  refine va_putF (D := D) (ci := 4) (v := .ref q18) (fs := [.int (nN n0), .null, .null, .null, .null, .null, .int 0, .int 0, .int 0, .long 0]) (ty := .object "MappedBusNode$Dictionary") (C := RX4) (T := TX4) (N := 10) hx hb htb inX4 tyX4 tyX4_ok nmX4 hown hK hP hD hS 0 rfl rfl 1 (by decide) (htb _ kF_X4_25) (fun _ h9 => h9) rfl hin rfl (by decide +kernel) rfl rfl (Nat.le_of_ble_eq_true rfl) dX4_init_28 (fun H locs hP hD hS => ?_)
  have hP : va_P D vwCl [(a0, .inr (4, [.int (nN n0), .ref q18, .null, .null, .null, .null, .int 0, .int 0, .int 0, .long 0])), (q18, .inr (0, [.ref x1])), (x1, .inl (cA, 95, .inl fI))] H := hP
  have hD : va_D A [(a0, .inr (4, [.int (nN n0), .ref q18, .null, .null, .null, .null, .int 0, .int 0, .int 0, .long 0])), (q18, .inr (0, [.ref x1])), (x1, .inl (cA, 95, .inl fI))] := hD
  refine lv_aload_n hx hb dX4_init_31 rfl (lv_at hl 1 rfl) ?_
  refine va_new (ci := 1) (fs := [.null, .int 0, .int 0]) (C := RX1) (T := TX1) (N := 3) hx hb htb inX1 tyX1 tyX1_ok hown (htb _ kC_X4_29) (htb _ kB_X1) (htb _ kN_X1) hK hP hD hS hA rfl (fun j hj => by rcases (show j = 0 ∨ j = 1 ∨ j = 2 by omega) with rfl | rfl | rfl <;> rfl) (Nat.le_of_ble_eq_true rfl) (Nat.le_of_ble_eq_true rfl) dX4_init_32 (fun q32 H hP hD hS => ?_)
  have hP : va_P D vwCl [(a0, .inr (4, [.int (nN n0), .ref q18, .null, .null, .null, .null, .int 0, .int 0, .int 0, .long 0])), (q18, .inr (0, [.ref x1])), (x1, .inl (cA, 95, .inl fI)), (q32, .inr (1, [.null, .int 0, .int 0]))] H := hP
  have hD : va_D A [(a0, .inr (4, [.int (nN n0), .ref q18, .null, .null, .null, .null, .int 0, .int 0, .int 0, .long 0])), (q18, .inr (0, [.ref x1])), (x1, .inl (cA, 95, .inl fI)), (q32, .inr (1, [.null, .int 0, .int 0]))] := hD
  refine W.widen (k := 3) (n := 99) (by omega) (by omega) ?_
  refine lv_dup hx hb dX4_init_35 rfl ?_
  refine lv_aload_n hx hb dX4_init_36 rfl (lv_at hl 0 rfl) ?_
  refine lv_iconst (v := 3) hx hb dX4_init_37 (by decide) ?_
  refine lv_iconst (v := 2) hx hb dX4_init_38 (by decide) ?_
  have hP := hP.sub (ws' := [(q32, .inr (1, [.null, .int 0, .int 0]))] ++ [(a0, .inr (4, [.int (nN n0), .ref q18, .null, .null, .null, .null, .int 0, .int 0, .int 0, .long 0])), (q18, .inr (0, [.ref x1])), (x1, .inl (cA, 95, .inl fI))]) [3, 0, 1, 2] rfl
  have hD := hD.sub (ws' := [(q32, .inr (1, [.null, .int 0, .int 0]))] ++ [(a0, .inr (4, [.int (nN n0), .ref q18, .null, .null, .null, .null, .int 0, .int 0, .int 0, .long 0])), (q18, .inr (0, [.ref x1])), (x1, .inl (cA, 95, .inl fI))]) [3, 0, 1, 2] (by decide) rfl
  refine zb_cg (w0 := [(q32, .inr (1, [.null, .int 0, .int 0]))]) (wr := [(a0, .inr (4, [.int (nN n0), .ref q18, .null, .null, .null, .null, .int 0, .int 0, .int 0, .long 0])), (q18, .inr (0, [.ref x1])), (x1, .inl (cA, 95, .inl fI))]) (a := #[]) (va_runI (As := [.ref q18, .int 3, .int 2]) (rest := [.ref q32, .ref a0]) ⟨hx, hb, hml, hown, htb⟩ (c_X1_init l D cA cJ H.size q32 q18 3 2) (cwI 3 htb (wb_gd kD_X1_init) rfl rfl rfl (htb _ kN_X1) (htb _ kM_X4_31) (htb _ kI_X1_init) rfl (by decide +kernel) ⟨Nat.le_of_ble_eq_true rfl, Nat.le_of_ble_eq_true rfl⟩) (zp_I (wP_l hP) (wD_l hD) hK hSt hS hA hnw hfA hfJ) rfl rfl hl.1 rfl (lv_room (Nat.le_of_ble_eq_true rfl)) dX4_init_39 ⟨Nat.le_of_ble_eq_true rfl, Nat.le_of_ble_eq_true rfl⟩) (fun _ _ _ h => h) hP hD hS hA (fun x2 hx_x2 H locs hP hD hS => ?_)
  have hP := hP.sub (ws' := [(a0, .inr (4, [.int (nN n0), .ref q18, .null, .null, .null, .null, .int 0, .int 0, .int 0, .long 0])), (q18, .inr (0, [.ref x1])), (x1, .inl (cA, 95, .inl fI)), (q32, .inr (1, [.ref q18, .int 3, .int 6]))]) [1, 2, 3, 0] rfl
  have hD := hD.sub (ws' := [(a0, .inr (4, [.int (nN n0), .ref q18, .null, .null, .null, .null, .int 0, .int 0, .int 0, .long 0])), (q18, .inr (0, [.ref x1])), (x1, .inl (cA, 95, .inl fI)), (q32, .inr (1, [.ref q18, .int 3, .int 6]))]) [1, 2, 3, 0] (by decide) rfl
  refine W.widen (k := 3) (n := 99) (by omega) (by omega) ?_
  refine va_putF (D := D) (ci := 4) (v := .ref q32) (fs := [.int (nN n0), .ref q18, .null, .null, .null, .null, .int 0, .int 0, .int 0, .long 0]) (ty := .object "MappedBusNode$Mapping") (C := RX4) (T := TX4) (N := 10) hx hb htb inX4 tyX4 tyX4_ok nmX4 hown hK hP hD hS 0 rfl rfl 2 (by decide) (htb _ kF_X4_34) (fun _ h9 => h9) rfl hin rfl (by decide +kernel) rfl rfl (Nat.le_of_ble_eq_true rfl) dX4_init_42 (fun H locs hP hD hS => ?_)
  have hP : va_P D vwCl [(a0, .inr (4, [.int (nN n0), .ref q18, .ref q32, .null, .null, .null, .int 0, .int 0, .int 0, .long 0])), (q18, .inr (0, [.ref x1])), (x1, .inl (cA, 95, .inl fI)), (q32, .inr (1, [.ref q18, .int 3, .int 6]))] H := hP
  have hD : va_D A [(a0, .inr (4, [.int (nN n0), .ref q18, .ref q32, .null, .null, .null, .int 0, .int 0, .int 0, .long 0])), (q18, .inr (0, [.ref x1])), (x1, .inl (cA, 95, .inl fI)), (q32, .inr (1, [.ref q18, .int 3, .int 6]))] := hD
  refine lv_aload_n hx hb dX4_init_45 rfl (lv_at hl 1 rfl) ?_
  refine va_new (ci := 1) (fs := [.null, .int 0, .int 0]) (C := RX1) (T := TX1) (N := 3) hx hb htb inX1 tyX1 tyX1_ok hown (htb _ kC_X4_29) (htb _ kB_X1) (htb _ kN_X1) hK hP hD hS hA rfl (fun j hj => by rcases (show j = 0 ∨ j = 1 ∨ j = 2 by omega) with rfl | rfl | rfl <;> rfl) (Nat.le_of_ble_eq_true rfl) (Nat.le_of_ble_eq_true rfl) dX4_init_46 (fun q46 H hP hD hS => ?_)
  have hP : va_P D vwCl [(a0, .inr (4, [.int (nN n0), .ref q18, .ref q32, .null, .null, .null, .int 0, .int 0, .int 0, .long 0])), (q18, .inr (0, [.ref x1])), (x1, .inl (cA, 95, .inl fI)), (q32, .inr (1, [.ref q18, .int 3, .int 6])), (q46, .inr (1, [.null, .int 0, .int 0]))] H := hP
  have hD : va_D A [(a0, .inr (4, [.int (nN n0), .ref q18, .ref q32, .null, .null, .null, .int 0, .int 0, .int 0, .long 0])), (q18, .inr (0, [.ref x1])), (x1, .inl (cA, 95, .inl fI)), (q32, .inr (1, [.ref q18, .int 3, .int 6])), (q46, .inr (1, [.null, .int 0, .int 0]))] := hD
  refine W.widen (k := 4) (n := 102) (by omega) (by omega) ?_
  refine lv_dup hx hb dX4_init_49 rfl ?_
  refine lv_aload_n hx hb dX4_init_50 rfl (lv_at hl 0 rfl) ?_
  refine lv_bipush (v := 9) hx hb dX4_init_51 (by decide) ?_
  refine lv_iconst (v := 1) hx hb dX4_init_53 (by decide) ?_
  have hP := hP.sub (ws' := [(q46, .inr (1, [.null, .int 0, .int 0]))] ++ [(a0, .inr (4, [.int (nN n0), .ref q18, .ref q32, .null, .null, .null, .int 0, .int 0, .int 0, .long 0])), (q18, .inr (0, [.ref x1])), (x1, .inl (cA, 95, .inl fI)), (q32, .inr (1, [.ref q18, .int 3, .int 6]))]) [4, 0, 1, 2, 3] rfl
  have hD := hD.sub (ws' := [(q46, .inr (1, [.null, .int 0, .int 0]))] ++ [(a0, .inr (4, [.int (nN n0), .ref q18, .ref q32, .null, .null, .null, .int 0, .int 0, .int 0, .long 0])), (q18, .inr (0, [.ref x1])), (x1, .inl (cA, 95, .inl fI)), (q32, .inr (1, [.ref q18, .int 3, .int 6]))]) [4, 0, 1, 2, 3] (by decide) rfl
  refine zb_cg (w0 := [(q46, .inr (1, [.null, .int 0, .int 0]))]) (wr := [(a0, .inr (4, [.int (nN n0), .ref q18, .ref q32, .null, .null, .null, .int 0, .int 0, .int 0, .long 0])), (q18, .inr (0, [.ref x1])), (x1, .inl (cA, 95, .inl fI)), (q32, .inr (1, [.ref q18, .int 3, .int 6]))]) (a := #[]) (va_runI (As := [.ref q18, .int 9, .int 1]) (rest := [.ref q46, .ref a0]) ⟨hx, hb, hml, hown, htb⟩ (c_X1_init l D cA cJ H.size q46 q18 9 1) (cwI 3 htb (wb_gd kD_X1_init) rfl rfl rfl (htb _ kN_X1) (htb _ kM_X4_31) (htb _ kI_X1_init) rfl (by decide +kernel) ⟨Nat.le_of_ble_eq_true rfl, Nat.le_of_ble_eq_true rfl⟩) (zp_I (wP_l hP) (wD_l hD) hK hSt hS hA hnw hfA hfJ) rfl rfl hl.1 rfl (lv_room (Nat.le_of_ble_eq_true rfl)) dX4_init_54 ⟨Nat.le_of_ble_eq_true rfl, Nat.le_of_ble_eq_true rfl⟩) (fun _ _ _ h => h) hP hD hS hA (fun x3 hx_x3 H locs hP hD hS => ?_)
  have hP := hP.sub (ws' := [(a0, .inr (4, [.int (nN n0), .ref q18, .ref q32, .null, .null, .null, .int 0, .int 0, .int 0, .long 0])), (q18, .inr (0, [.ref x1])), (x1, .inl (cA, 95, .inl fI)), (q32, .inr (1, [.ref q18, .int 3, .int 6])), (q46, .inr (1, [.ref q18, .int 9, .int 5]))]) [1, 2, 3, 4, 0] rfl
  have hD := hD.sub (ws' := [(a0, .inr (4, [.int (nN n0), .ref q18, .ref q32, .null, .null, .null, .int 0, .int 0, .int 0, .long 0])), (q18, .inr (0, [.ref x1])), (x1, .inl (cA, 95, .inl fI)), (q32, .inr (1, [.ref q18, .int 3, .int 6])), (q46, .inr (1, [.ref q18, .int 9, .int 5]))]) [1, 2, 3, 4, 0] (by decide) rfl
  refine W.widen (k := 4) (n := 102) (by omega) (by omega) ?_
  refine va_putF (D := D) (ci := 4) (v := .ref q46) (fs := [.int (nN n0), .ref q18, .ref q32, .null, .null, .null, .int 0, .int 0, .int 0, .long 0]) (ty := .object "MappedBusNode$Mapping") (C := RX4) (T := TX4) (N := 10) hx hb htb inX4 tyX4 tyX4_ok nmX4 hown hK hP hD hS 0 rfl rfl 3 (by decide) (htb _ kF_X4_38) (fun _ h9 => h9) rfl hin rfl (by decide +kernel) rfl rfl (Nat.le_of_ble_eq_true rfl) dX4_init_57 (fun H locs hP hD hS => ?_)
  have hP : va_P D vwCl [(a0, .inr (4, [.int (nN n0), .ref q18, .ref q32, .ref q46, .null, .null, .int 0, .int 0, .int 0, .long 0])), (q18, .inr (0, [.ref x1])), (x1, .inl (cA, 95, .inl fI)), (q32, .inr (1, [.ref q18, .int 3, .int 6])), (q46, .inr (1, [.ref q18, .int 9, .int 5]))] H := hP
  have hD : va_D A [(a0, .inr (4, [.int (nN n0), .ref q18, .ref q32, .ref q46, .null, .null, .int 0, .int 0, .int 0, .long 0])), (q18, .inr (0, [.ref x1])), (x1, .inl (cA, 95, .inl fI)), (q32, .inr (1, [.ref q18, .int 3, .int 6])), (q46, .inr (1, [.ref q18, .int 9, .int 5]))] := hD
  refine lv_aload_n hx hb dX4_init_60 rfl (lv_at hl 1 rfl) ?_
  refine va_new (ci := 2) (fs := [.null, .int 0, .int 0]) (C := RX2) (T := TX2) (N := 3) hx hb htb inX2 tyX2 tyX2_ok hown (htb _ kC_X4_41) (htb _ kB_X2) (htb _ kN_X2) hK hP hD hS hA rfl (fun j hj => by rcases (show j = 0 ∨ j = 1 ∨ j = 2 by omega) with rfl | rfl | rfl <;> rfl) (Nat.le_of_ble_eq_true rfl) (Nat.le_of_ble_eq_true rfl) dX4_init_61 (fun q61 H hP hD hS => ?_)
  have hP : va_P D vwCl [(a0, .inr (4, [.int (nN n0), .ref q18, .ref q32, .ref q46, .null, .null, .int 0, .int 0, .int 0, .long 0])), (q18, .inr (0, [.ref x1])), (x1, .inl (cA, 95, .inl fI)), (q32, .inr (1, [.ref q18, .int 3, .int 6])), (q46, .inr (1, [.ref q18, .int 9, .int 5])), (q61, .inr (2, [.null, .int 0, .int 0]))] H := hP
  have hD : va_D A [(a0, .inr (4, [.int (nN n0), .ref q18, .ref q32, .ref q46, .null, .null, .int 0, .int 0, .int 0, .long 0])), (q18, .inr (0, [.ref x1])), (x1, .inl (cA, 95, .inl fI)), (q32, .inr (1, [.ref q18, .int 3, .int 6])), (q46, .inr (1, [.ref q18, .int 9, .int 5])), (q61, .inr (2, [.null, .int 0, .int 0]))] := hD
  refine W.widen (k := 5) (n := 105) (by omega) (by omega) ?_
  refine lv_dup hx hb dX4_init_64 rfl ?_
  have hP := hP.sub (ws' := [(q61, .inr (2, [.null, .int 0, .int 0]))] ++ [(a0, .inr (4, [.int (nN n0), .ref q18, .ref q32, .ref q46, .null, .null, .int 0, .int 0, .int 0, .long 0])), (q18, .inr (0, [.ref x1])), (x1, .inl (cA, 95, .inl fI)), (q32, .inr (1, [.ref q18, .int 3, .int 6])), (q46, .inr (1, [.ref q18, .int 9, .int 5]))]) [5, 0, 1, 2, 3, 4] rfl
  have hD := hD.sub (ws' := [(q61, .inr (2, [.null, .int 0, .int 0]))] ++ [(a0, .inr (4, [.int (nN n0), .ref q18, .ref q32, .ref q46, .null, .null, .int 0, .int 0, .int 0, .long 0])), (q18, .inr (0, [.ref x1])), (x1, .inl (cA, 95, .inl fI)), (q32, .inr (1, [.ref q18, .int 3, .int 6])), (q46, .inr (1, [.ref q18, .int 9, .int 5]))]) [5, 0, 1, 2, 3, 4] (by decide) rfl
  refine zb_cg (w0 := [(q61, .inr (2, [.null, .int 0, .int 0]))]) (wr := [(a0, .inr (4, [.int (nN n0), .ref q18, .ref q32, .ref q46, .null, .null, .int 0, .int 0, .int 0, .long 0])), (q18, .inr (0, [.ref x1])), (x1, .inl (cA, 95, .inl fI)), (q32, .inr (1, [.ref q18, .int 3, .int 6])), (q46, .inr (1, [.ref q18, .int 9, .int 5]))]) (a := #[]) (va_runIN (As := []) (rest := [.ref q61, .ref a0]) ⟨hx, hb, hml, hown, htb⟩ (c_X2_init l D cA cJ H.size q61) ⟨va_cnB 0 htb (wb_gd kD_X2_init) rfl rfl rfl (hnw _ kT_X4_43) (htb _ kN_X2) (by decide +kernel) ⟨Nat.le_of_ble_eq_true rfl, Nat.le_of_ble_eq_true rfl⟩, rfl, htb _ kI_X2_init⟩ (zp_I (wP_l hP) (wD_l hD) hK hSt hS hA hnw hfA hfJ) rfl rfl hl.1 rfl (lv_room (Nat.le_of_ble_eq_true rfl)) dX4_init_65 ⟨Nat.le_of_ble_eq_true rfl, Nat.le_of_ble_eq_true rfl⟩) (fun _ _ _ h => h) hP hD hS hA (fun x4 hx_x4 H locs hP hD hS => ?_)
  have hP := hP.sub (ws' := [(a0, .inr (4, [.int (nN n0), .ref q18, .ref q32, .ref q46, .null, .null, .int 0, .int 0, .int 0, .long 0])), (q18, .inr (0, [.ref x1])), (x1, .inl (cA, 95, .inl fI)), (q32, .inr (1, [.ref q18, .int 3, .int 6])), (q46, .inr (1, [.ref q18, .int 9, .int 5])), (q61, .inr (2, [.ref x4, .int 0, .int 0])), (x4, .inl (cA, 128, .inl f00))]) [2, 3, 4, 5, 6, 0, 1] rfl
  have hD := hD.sub (ws' := [(a0, .inr (4, [.int (nN n0), .ref q18, .ref q32, .ref q46, .null, .null, .int 0, .int 0, .int 0, .long 0])), (q18, .inr (0, [.ref x1])), (x1, .inl (cA, 95, .inl fI)), (q32, .inr (1, [.ref q18, .int 3, .int 6])), (q46, .inr (1, [.ref q18, .int 9, .int 5])), (q61, .inr (2, [.ref x4, .int 0, .int 0])), (x4, .inl (cA, 128, .inl f00))]) [2, 3, 4, 5, 6, 0, 1] (by decide) rfl
  refine W.widen (k := 6) (n := 233) (by omega) (by omega) ?_
  refine va_putF (D := D) (ci := 4) (v := .ref q61) (fs := [.int (nN n0), .ref q18, .ref q32, .ref q46, .null, .null, .int 0, .int 0, .int 0, .long 0]) (ty := .object "MappedBusNode$Outbox") (C := RX4) (T := TX4) (N := 10) hx hb htb inX4 tyX4 tyX4_ok nmX4 hown hK hP hD hS 0 rfl rfl 4 (by decide) (htb _ kF_X4_44) (fun _ h9 => h9) rfl hin rfl (by decide +kernel) rfl rfl (Nat.le_of_ble_eq_true rfl) dX4_init_68 (fun H locs hP hD hS => ?_)
  have hP : va_P D vwCl [(a0, .inr (4, [.int (nN n0), .ref q18, .ref q32, .ref q46, .ref q61, .null, .int 0, .int 0, .int 0, .long 0])), (q18, .inr (0, [.ref x1])), (x1, .inl (cA, 95, .inl fI)), (q32, .inr (1, [.ref q18, .int 3, .int 6])), (q46, .inr (1, [.ref q18, .int 9, .int 5])), (q61, .inr (2, [.ref x4, .int 0, .int 0])), (x4, .inl (cA, 128, .inl f00))] H := hP
  have hD : va_D A [(a0, .inr (4, [.int (nN n0), .ref q18, .ref q32, .ref q46, .ref q61, .null, .int 0, .int 0, .int 0, .long 0])), (q18, .inr (0, [.ref x1])), (x1, .inl (cA, 95, .inl fI)), (q32, .inr (1, [.ref q18, .int 3, .int 6])), (q46, .inr (1, [.ref q18, .int 9, .int 5])), (q61, .inr (2, [.ref x4, .int 0, .int 0])), (x4, .inl (cA, 128, .inl f00))] := hD
  refine lv_aload_n hx hb dX4_init_71 rfl (lv_at hl 1 rfl) ?_
  refine va_new (ci := 3) (fs := [.null, .int 0, .int 0, .int 0, .int 0, .int 0, .int 0, .int 0]) (C := RX3) (T := TX3) (N := 8) hx hb htb inX3 tyX3 tyX3_ok hown (htb _ kC_X4_48) (htb _ kB_X3) (htb _ kN_X3) hK hP hD hS hA rfl (fun j hj => by rcases (show j = 0 ∨ j = 1 ∨ j = 2 ∨ j = 3 ∨ j = 4 ∨ j = 5 ∨ j = 6 ∨ j = 7 by omega) with rfl | rfl | rfl | rfl | rfl | rfl | rfl | rfl <;> rfl) (Nat.le_of_ble_eq_true rfl) (Nat.le_of_ble_eq_true rfl) dX4_init_72 (fun q72 H hP hD hS => ?_)
  have hP : va_P D vwCl [(a0, .inr (4, [.int (nN n0), .ref q18, .ref q32, .ref q46, .ref q61, .null, .int 0, .int 0, .int 0, .long 0])), (q18, .inr (0, [.ref x1])), (x1, .inl (cA, 95, .inl fI)), (q32, .inr (1, [.ref q18, .int 3, .int 6])), (q46, .inr (1, [.ref q18, .int 9, .int 5])), (q61, .inr (2, [.ref x4, .int 0, .int 0])), (x4, .inl (cA, 128, .inl f00)), (q72, .inr (3, [.null, .int 0, .int 0, .int 0, .int 0, .int 0, .int 0, .int 0]))] H := hP
  have hD : va_D A [(a0, .inr (4, [.int (nN n0), .ref q18, .ref q32, .ref q46, .ref q61, .null, .int 0, .int 0, .int 0, .long 0])), (q18, .inr (0, [.ref x1])), (x1, .inl (cA, 95, .inl fI)), (q32, .inr (1, [.ref q18, .int 3, .int 6])), (q46, .inr (1, [.ref q18, .int 9, .int 5])), (q61, .inr (2, [.ref x4, .int 0, .int 0])), (x4, .inl (cA, 128, .inl f00)), (q72, .inr (3, [.null, .int 0, .int 0, .int 0, .int 0, .int 0, .int 0, .int 0]))] := hD
  refine W.widen (k := 7) (n := 241) (by omega) (by omega) ?_
  refine lv_dup hx hb dX4_init_75 rfl ?_
  have hP := hP.sub (ws' := [(q72, .inr (3, [.null, .int 0, .int 0, .int 0, .int 0, .int 0, .int 0, .int 0]))] ++ [(a0, .inr (4, [.int (nN n0), .ref q18, .ref q32, .ref q46, .ref q61, .null, .int 0, .int 0, .int 0, .long 0])), (q18, .inr (0, [.ref x1])), (x1, .inl (cA, 95, .inl fI)), (q32, .inr (1, [.ref q18, .int 3, .int 6])), (q46, .inr (1, [.ref q18, .int 9, .int 5])), (q61, .inr (2, [.ref x4, .int 0, .int 0])), (x4, .inl (cA, 128, .inl f00))]) [7, 0, 1, 2, 3, 4, 5, 6] rfl
  have hD := hD.sub (ws' := [(q72, .inr (3, [.null, .int 0, .int 0, .int 0, .int 0, .int 0, .int 0, .int 0]))] ++ [(a0, .inr (4, [.int (nN n0), .ref q18, .ref q32, .ref q46, .ref q61, .null, .int 0, .int 0, .int 0, .long 0])), (q18, .inr (0, [.ref x1])), (x1, .inl (cA, 95, .inl fI)), (q32, .inr (1, [.ref q18, .int 3, .int 6])), (q46, .inr (1, [.ref q18, .int 9, .int 5])), (q61, .inr (2, [.ref x4, .int 0, .int 0])), (x4, .inl (cA, 128, .inl f00))]) [7, 0, 1, 2, 3, 4, 5, 6] (by decide) rfl
  refine zb_cg (w0 := [(q72, .inr (3, [.null, .int 0, .int 0, .int 0, .int 0, .int 0, .int 0, .int 0]))]) (wr := [(a0, .inr (4, [.int (nN n0), .ref q18, .ref q32, .ref q46, .ref q61, .null, .int 0, .int 0, .int 0, .long 0])), (q18, .inr (0, [.ref x1])), (x1, .inl (cA, 95, .inl fI)), (q32, .inr (1, [.ref q18, .int 3, .int 6])), (q46, .inr (1, [.ref q18, .int 9, .int 5])), (q61, .inr (2, [.ref x4, .int 0, .int 0])), (x4, .inl (cA, 128, .inl f00))]) (a := #[]) (va_runIN (As := []) (rest := [.ref q72, .ref a0]) ⟨hx, hb, hml, hown, htb⟩ (c_X3_init l D cA cJ H.size q72) ⟨va_cnB 0 htb (wb_gd kD_X3_init) rfl rfl rfl (hnw _ kT_X4_50) (htb _ kN_X3) (by decide +kernel) ⟨Nat.le_of_ble_eq_true rfl, Nat.le_of_ble_eq_true rfl⟩, rfl, htb _ kI_X3_init⟩ (zp_I (wP_l hP) (wD_l hD) hK hSt hS hA hnw hfA hfJ) rfl rfl hl.1 rfl (lv_room (Nat.le_of_ble_eq_true rfl)) dX4_init_76 ⟨Nat.le_of_ble_eq_true rfl, Nat.le_of_ble_eq_true rfl⟩) (fun _ _ _ h => h) hP hD hS hA (fun x5 hx_x5 H locs hP hD hS => ?_)
  have hP := hP.sub (ws' := [(a0, .inr (4, [.int (nN n0), .ref q18, .ref q32, .ref q46, .ref q61, .null, .int 0, .int 0, .int 0, .long 0])), (q18, .inr (0, [.ref x1])), (x1, .inl (cA, 95, .inl fI)), (q32, .inr (1, [.ref q18, .int 3, .int 6])), (q46, .inr (1, [.ref q18, .int 9, .int 5])), (q61, .inr (2, [.ref x4, .int 0, .int 0])), (x4, .inl (cA, 128, .inl f00)), (q72, .inr (3, [.ref x5, .int 0, .int 0, .int 0, .int 0, .int 0, .int 0, .int 0])), (x5, .inl (cA, 20, .inl f00))]) [2, 3, 4, 5, 6, 7, 8, 0, 1] rfl
  have hD := hD.sub (ws' := [(a0, .inr (4, [.int (nN n0), .ref q18, .ref q32, .ref q46, .ref q61, .null, .int 0, .int 0, .int 0, .long 0])), (q18, .inr (0, [.ref x1])), (x1, .inl (cA, 95, .inl fI)), (q32, .inr (1, [.ref q18, .int 3, .int 6])), (q46, .inr (1, [.ref q18, .int 9, .int 5])), (q61, .inr (2, [.ref x4, .int 0, .int 0])), (x4, .inl (cA, 128, .inl f00)), (q72, .inr (3, [.ref x5, .int 0, .int 0, .int 0, .int 0, .int 0, .int 0, .int 0])), (x5, .inl (cA, 20, .inl f00))]) [2, 3, 4, 5, 6, 7, 8, 0, 1] (by decide) rfl
  refine W.widen (k := 8) (n := 261) (by omega) (by omega) ?_
  refine va_putF (D := D) (ci := 4) (v := .ref q72) (fs := [.int (nN n0), .ref q18, .ref q32, .ref q46, .ref q61, .null, .int 0, .int 0, .int 0, .long 0]) (ty := .object "MappedBusNode$Transfer") (C := RX4) (T := TX4) (N := 10) hx hb htb inX4 tyX4 tyX4_ok nmX4 hown hK hP hD hS 0 rfl rfl 5 (by decide) (htb _ kF_X4_51) (fun _ h9 => h9) rfl hin rfl (by decide +kernel) rfl rfl (Nat.le_of_ble_eq_true rfl) dX4_init_79 (fun H locs hP hD hS => ?_)
  have hP : va_P D vwCl [(a0, .inr (4, [.int (nN n0), .ref q18, .ref q32, .ref q46, .ref q61, .ref q72, .int 0, .int 0, .int 0, .long 0])), (q18, .inr (0, [.ref x1])), (x1, .inl (cA, 95, .inl fI)), (q32, .inr (1, [.ref q18, .int 3, .int 6])), (q46, .inr (1, [.ref q18, .int 9, .int 5])), (q61, .inr (2, [.ref x4, .int 0, .int 0])), (x4, .inl (cA, 128, .inl f00)), (q72, .inr (3, [.ref x5, .int 0, .int 0, .int 0, .int 0, .int 0, .int 0, .int 0])), (x5, .inl (cA, 20, .inl f00))] H := hP
  have hD : va_D A [(a0, .inr (4, [.int (nN n0), .ref q18, .ref q32, .ref q46, .ref q61, .ref q72, .int 0, .int 0, .int 0, .long 0])), (q18, .inr (0, [.ref x1])), (x1, .inl (cA, 95, .inl fI)), (q32, .inr (1, [.ref q18, .int 3, .int 6])), (q46, .inr (1, [.ref q18, .int 9, .int 5])), (q61, .inr (2, [.ref x4, .int 0, .int 0])), (x4, .inl (cA, 128, .inl f00)), (q72, .inr (3, [.ref x5, .int 0, .int 0, .int 0, .int 0, .int 0, .int 0, .int 0])), (x5, .inl (cA, 20, .inl f00))] := hD
  refine lv_aload_n hx hb dX4_init_82 rfl (lv_at hl 1 rfl) ?_
  have hP : va_P D vwCl (cw (fun k => [a0, q18, x1, q32, q46, q61, x4, q72, x5].getD k 0) cA (nN n0) fI ob0 tr0 (0, 0, 0, 0)) H := hP
  have hD : va_D A (cw (fun k => [a0, q18, x1, q32, q46, q61, x4, q72, x5].getD k 0) cA (nN n0) fI ob0 tr0 (0, 0, 0, 0)) := hD
  refine zb_cv (va_runV (As := []) (rest := []) ⟨hx, hb, hml, hown, htb⟩ (c_boot l D (fun k => [a0, q18, x1, q32, q46, q61, x4, q72, x5].getD k 0) cA (nN n0) fI ob0 tr0 (0, 0, 0, 0) _ ⟨0, by decide, rfl⟩) (cwV 0 htb (wb_V kM_X4_55 kI_X4_boot kS_X4_boot kN_X4 kD_X4_boot) rfl rfl rfl (by decide +kernel) ⟨Nat.le_of_ble_eq_true rfl, Nat.le_of_ble_eq_true rfl⟩) (zp_VW 0 rfl rfl hP hD (hK.sub (tys' := [(cA, .int)]) [0] rfl) hSt hS hA hnw) rfl rfl hl.1 rfl (lv_room (Nat.le_of_ble_eq_true rfl)) dX4_init_83 ⟨Nat.le_of_ble_eq_true rfl, Nat.le_of_ble_eq_true rfl⟩) hD hS hA (fun H locs hP hD hS => ?_)
  refine W.widen (k := 8) (n := 261) (by omega) (by omega) ?_
  rw [hQ]
  have hw9 : (cw (fun k => [a0, q18, x1, q32, q46, q61, x4, q72, x5].getD k 0) cA (nN n0) fI (kBoot (nN n0) ob0) (tr_end tr0) (nBoot (0, 0, 0, 0)) : va_W) = (fun a => cw a cA (nN n0) fI (kBoot (nN n0) ob0) (tr_end tr0) (nBoot (0, 0, 0, 0))) (fun k => [a0, q18, x1, q32, q46, q61, x4, q72, x5].getD k 0) := rfl
  exact W.vret hx hb hr (fun t9 ht hW => ⟨(fun k => [a0, q18, x1, q32, q46, q61, x4, q72, x5].getD k 0), rfl, rfl, by rw [ht, ← hw9]; exact hP, by rw [← hw9]; exact hD, hS.F ht⟩) hS.2.2 dX4_init_86
