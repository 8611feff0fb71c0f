set_option maxHeartbeats 4000000 in
set_option maxRecDepth 100000 in
theorem l_frame (l : Launch) (D : va_G) (a : Nat → Nat) (cA cJ : ClassId) (N : Int32) (f : Nat → Int32) (ob : OB) (tr : TR) (nd : ND) (oo : Nat) (fo : Nat → Int64) (sz : Nat) (fid ln : Int32) (lo hg e0 d0 ad0 : Nat) (hB : isB f) (hT : mapK f 3 6) (hG : mapK f 9 5) (ho : obK ob) (hBh : isB tr.1) (hlo : lo < 2 ^ 32) (hhg : hg < 2 ^ 32) (he0 : e0 < 22) (hen : tr.2.2.2.1 = nI e0) (hdn : tr.2.2.2.2.2.1 = nI d0) (hd0 : d0 ≤ xZ e0) (hada : tr.2.2.2.2.1 = nI ad0) (had0 : ad0 < 2 ^ 24) (h8 : (mW 3 6 (lo + 4294967296 * hg) f (cT f)).2 ≤ 8) (hB2 : isB (kMid N f ob tr nd fid ln lo hg e0 d0 ad0).1) (hG2 : mapK (kMid N f ob tr nd fid ln lo hg e0 d0 ad0).1 9 5) (ho2 : obK (kMid N f ob tr nd fid ln lo hg e0 d0 ad0).2.1) (hf0 : ¬ fid < 0) (hf1 : ¬ 2047 < fid) (hl0 : ¬ ln < 0) (hl8 : ln ≤ 8) : Met l yL_frame (wL_frame :: wb) ({ frames := 7, cells := 0, slots := 0, locals := 178 } : Room) (va_Pc [.ref (a 0), .int fid, .int ln, .int (nI lo), .int (nI hg), .ref oo] (zPre D [(cA, .int), (cJ, .long)] ((cw a cA N f ob tr nd) ++ [(oo, .inl (cJ, 1, .inr (.inl fo)))]) sz)) (zb_Vi 0 D vwCl (c4 a cA N (kEnd N (kMid N f ob tr nd fid ln lo hg e0 d0 ad0)) ++ [(oo, .inl (cJ, 1, .inr (.inl (vp_updL fo 0 ((kEnd N (kMid N f ob tr nd fid ln lo hg e0 d0 ad0)).2.1.2.2 - ob.2.2).toInt64))))]) (va_A ((cw a cA N f ob tr nd) ++ [(oo, .inl (cJ, 1, .inr (.inl fo)))]) sz)) 0 0 (va_A ((cw a cA N f ob tr nd) ++ [(oo, .inl (cJ, 1, .inr (.inl fo)))]) sz) := by
  refine va_MetW (hh := [(0, 14, 17, 13)]) (cc := cL_frame) (maxL := 7) (ret := (some .int)) (by decide) rfl ?_
  intro p ev s m args below meth c s₁ B hml hv
  obtain ⟨rfl, hsz, hP, hK, hD0, hSt, hnw⟩ := hv
  have hx := B.exec
  have hb := B.bytes
  have hr := B.returns
  have hts := atoms_spec (ws := wL_frame :: wb) B.pre
  have htb : ∀ w ∈ wb, w.before ([.ref (a 0), .int fid, .int ln, .int (nI lo), .int (nI hg), .ref oo]).toArray s = true := fun w h => hts w (List.mem_cons_of_mem _ h)
  have hown : s.vm.findClass RL = some m.cls := findClass_of_methodNamed B.named
  have hlocks := B.notSynchronized
  subst hsz
  have hD := hD0.self (sz := s.heap.size)
  clear hD0
  generalize hAe : va_A ((cw a cA N f ob tr nd) ++ [(oo, .inl (cJ, 1, .inr (.inl fo)))]) s.heap.size = A at hD hSt ⊢
  have hA : ∀ q : Nat, s.heap.size ≤ q → A q := fun q h => by rw [← hAe]; exact Or.inr h
  have hS : va_S A s.heap s.heap [] := va_S.rf
  obtain ⟨⟨tt, ff, hZT, hTT, hZF, hTF⟩, hXS⟩ := id hSt
  have hl := lv_entry ([.ref (a 0), .int fid, .int ln, .int (nI lo), .int (nI hg), .ref oo]) (n := 7) (Nat.le_of_ble_eq_true rfl)
  rw [lg_entry_eq]
  generalize (lg_sl ([.ref (a 0), .int fid, .int ln, .int (nI lo), .int (nI hg), .ref oo]) ++ List.replicate (7 - (lg_sl ([.ref (a 0), .int fid, .int ln, .int (nI lo), .int (nI hg), .ref oo])).length) Slot.unset).toArray = ls at hl ⊢
  have hl : lv_has ls 7 [(0, .ref (a 0)), (1, .int fid), (2, .int ln), (3, .int (nI lo)), (4, .int (nI hg)), (5, .ref oo)] := hl
  refine zb_abs (fun Q hQ => ?_)
  refine lv_aload hx hb dL_frame_0 (lv_at hl 5 rfl) ?_
  refine lv_iconst (v := 0) hx hb dL_frame_2 (by decide) ?_
  refine lv_aload_n hx hb dL_frame_3 rfl (lv_at hl 0 rfl) ?_
  refine lv_iload_n hx hb dL_frame_4 rfl (lv_at hl 1 rfl) ?_
  refine lv_iload_n hx hb dL_frame_5 rfl (lv_at hl 2 rfl) ?_
  refine lv_iload_n hx hb dL_frame_6 rfl (lv_at hl 3 rfl) ?_
  refine lv_iload hx hb dL_frame_7 (lv_at hl 4 rfl) ?_
  refine zb_cviA (w0 := cw a cA N f ob tr nd) (wr := [(oo, .inl (cJ, 1, .inr (.inl fo)))]) (va_runV (As := [.int fid, .int ln, .int (nI lo), .int (nI hg)]) (rest := [.int 0, .ref oo]) ⟨hx, hb, hml, hown, htb⟩ (c_frame l D a cA N f ob tr nd _ fid ln lo hg e0 d0 ad0 hB hT hG ho hBh hlo hhg he0 hen hdn hd0 hada had0 h8 hB2 hG2 ho2 hf0 hf1 hl0 hl8) (cwV 4 htb (wb_V kM_L_7 kI_X4_frame kS_X4_frame kN_X4 kD_X4_frame) rfl rfl rfl (by decide +kernel) ⟨Nat.le_of_ble_eq_true rfl, Nat.le_of_ble_eq_true rfl⟩) (zp_VW 0 rfl rfl (wP_l hP) (wD_l hD) (hK.sub (tys' := [(cA, .int)]) [0] rfl) hSt hS hA hnw) rfl rfl hl.1 rfl (lv_room (Nat.le_of_ble_eq_true rfl)) dL_frame_9 ⟨Nat.le_of_ble_eq_true rfl, Nat.le_of_ble_eq_true rfl⟩) hP hD hS hA (fun H locs hP hD hS => ?_)
  have hP : va_P D vwCl ((cw a cA N ((kEnd N (kMid N f ob tr nd fid ln lo hg e0 d0 ad0)).1) ((kEnd N (kMid N f ob tr nd fid ln lo hg e0 d0 ad0)).2.1) ((kEnd N (kMid N f ob tr nd fid ln lo hg e0 d0 ad0)).2.2.1) ((kEnd N (kMid N f ob tr nd fid ln lo hg e0 d0 ad0)).2.2.2)) ++ [(oo, .inl (cJ, 1, .inr (.inl fo)))]) H := hP
  have hD : va_D A ((cw a cA N ((kEnd N (kMid N f ob tr nd fid ln lo hg e0 d0 ad0)).1) ((kEnd N (kMid N f ob tr nd fid ln lo hg e0 d0 ad0)).2.1) ((kEnd N (kMid N f ob tr nd fid ln lo hg e0 d0 ad0)).2.2.1) ((kEnd N (kMid N f ob tr nd fid ln lo hg e0 d0 ad0)).2.2.2)) ++ [(oo, .inl (cJ, 1, .inr (.inl fo)))]) := hD
  refine lv_i2l hx hb dL_frame_12 rfl ?_
  refine va_last (i := nI 0) (x := ((kEnd N (kMid N f ob tr nd fid ln lo hg e0 d0 ad0)).2.1.2.2 - ob.2.2).toInt64) hx hb hK hP hD hS 9 1 rfl rfl (vp_in_nI (by omega) (by decide)) dL_frame_13 (fun H locs hP hD hS => ?_)
  rw [nI_clamp (by omega)] at hP hD
  have hP : va_P D vwCl ((cw a cA N ((kEnd N (kMid N f ob tr nd fid ln lo hg e0 d0 ad0)).1) ((kEnd N (kMid N f ob tr nd fid ln lo hg e0 d0 ad0)).2.1) ((kEnd N (kMid N f ob tr nd fid ln lo hg e0 d0 ad0)).2.2.1) ((kEnd N (kMid N f ob tr nd fid ln lo hg e0 d0 ad0)).2.2.2)) ++ [(oo, .inl (cJ, 1, .inr (.inl (vp_updL fo 0 (((kEnd N (kMid N f ob tr nd fid ln lo hg e0 d0 ad0)).2.1.2.2 - ob.2.2).toInt64)))))]) H := hP
  have hD : va_D A ((cw a cA N ((kEnd N (kMid N f ob tr nd fid ln lo hg e0 d0 ad0)).1) ((kEnd N (kMid N f ob tr nd fid ln lo hg e0 d0 ad0)).2.1) ((kEnd N (kMid N f ob tr nd fid ln lo hg e0 d0 ad0)).2.2.1) ((kEnd N (kMid N f ob tr nd fid ln lo hg e0 d0 ad0)).2.2.2)) ++ [(oo, .inl (cJ, 1, .inr (.inl (vp_updL fo 0 (((kEnd N (kMid N f ob tr nd fid ln lo hg e0 d0 ad0)).2.1.2.2 - ob.2.2).toInt64)))))]) := hD
  refine lv_goto (tgt := 21) hx hb dL_frame_14 (by decide) ?_
  refine lv_iconst (v := 0) hx hb dL_frame_21 (by decide) ?_
  rw [hQ]
  have hw9 : (((cw a cA N ((kEnd N (kMid N f ob tr nd fid ln lo hg e0 d0 ad0)).1) ((kEnd N (kMid N f ob tr nd fid ln lo hg e0 d0 ad0)).2.1) ((kEnd N (kMid N f ob tr nd fid ln lo hg e0 d0 ad0)).2.2.1) ((kEnd N (kMid N f ob tr nd fid ln lo hg e0 d0 ad0)).2.2.2)) ++ [(oo, .inl (cJ, 1, .inr (.inl (vp_updL fo 0 (((kEnd N (kMid N f ob tr nd fid ln lo hg e0 d0 ad0)).2.1.2.2 - ob.2.2).toInt64)))))]) : va_W) = (c4 a cA N (kEnd N (kMid N f ob tr nd fid ln lo hg e0 d0 ad0)) ++ [(oo, .inl (cJ, 1, .inr (.inl (vp_updL fo 0 ((kEnd N (kMid N f ob tr nd fid ln lo hg e0 d0 ad0)).2.1.2.2 - ob.2.2).toInt64))))]) := rfl
  exact W.iret (v := 0) hx hb hr (fun t9 ht hW => ⟨congrArg (fun z => Outcome.returned (some (Value.int z))) (rfl), by rw [ht, ← hw9]; exact hP, by rw [← hw9]; exact hD, hS.F ht⟩) hS.2.2 dL_frame_22
set_option maxHeartbeats 4000000 in
set_option maxRecDepth 100000 in
theorem l_frameNo (l : Launch) (D : va_G) (a : Nat → Nat) (cA cJ : ClassId) (N : Int32) (f : Nat → Int32) (ob : OB) (tr : TR) (nd : ND) (oo : Nat) (fo : Nat → Int64) (sz : Nat) (fid ln : Int32) (lo hg : Nat) (hfl : l.flags = pinnedFlags ++ [noTraceFlag]) (hbad : fid < 0 ∨ 2047 < fid ∨ ln < 0 ∨ 8 < ln) : Met l yL_frame (wL_frame :: wb) ({ frames := 8, cells := 1, slots := 6, locals := 198 } : Room) (va_Pc [.ref (a 0), .int fid, .int ln, .int (nI lo), .int (nI hg), .ref oo] (zPh D [(cA, .int), (cJ, .long)] ((cw a cA N f ob tr nd) ++ [(oo, .inl (cJ, 1, .inr (.inl fo)))]) sz)) (zb_Vi 1 D vwCl ((cw a cA N f ob tr nd) ++ [(oo, .inl (cJ, 1, .inr (.inl fo)))]) (va_A ((cw a cA N f ob tr nd) ++ [(oo, .inl (cJ, 1, .inr (.inl fo)))]) sz)) 1 6 (va_A ((cw a cA N f ob tr nd) ++ [(oo, .inl (cJ, 1, .inr (.inl fo)))]) sz) := by
  refine va_MetW (hh := [(0, 14, 17, 13)]) (cc := cL_frame) (maxL := 7) (ret := (some .int)) (by decide) rfl ?_
  intro p ev s m args below meth c s₁ B hml hv
  obtain ⟨rfl, ⟨hsz, hP, hK, hD0, hSt, hnw⟩, htw⟩ := hv
  have hx := B.exec
  have hb := B.bytes
  have hr := B.returns
  have hts := atoms_spec (ws := wL_frame :: wb) B.pre
  have htb : ∀ w ∈ wb, w.before ([.ref (a 0), .int fid, .int ln, .int (nI lo), .int (nI hg), .ref oo]).toArray s = true := fun w h => hts w (List.mem_cons_of_mem _ h)
  have hown : s.vm.findClass RL = some m.cls := findClass_of_methodNamed B.named
  have hlocks := B.notSynchronized
  subst hsz
  have hD := hD0.self (sz := s.heap.size)
  clear hD0
  generalize hAe : va_A ((cw a cA N f ob tr nd) ++ [(oo, .inl (cJ, 1, .inr (.inl fo)))]) s.heap.size = A at hD hSt ⊢
  have hA : ∀ q : Nat, s.heap.size ≤ q → A q := fun q h => by rw [← hAe]; exact Or.inr h
  have hS : va_S A s.heap s.heap [] := va_S.rf
  obtain ⟨⟨tt, ff, hZT, hTT, hZF, hTF⟩, hXS⟩ := id hSt
  have hl := lv_entry ([.ref (a 0), .int fid, .int ln, .int (nI lo), .int (nI hg), .ref oo]) (n := 7) (Nat.le_of_ble_eq_true rfl)
  rw [lg_entry_eq]
  generalize (lg_sl ([.ref (a 0), .int fid, .int ln, .int (nI lo), .int (nI hg), .ref oo]) ++ List.replicate (7 - (lg_sl ([.ref (a 0), .int fid, .int ln, .int (nI lo), .int (nI hg), .ref oo])).length) Slot.unset).toArray = ls at hl ⊢
  have hl : lv_has ls 7 [(0, .ref (a 0)), (1, .int fid), (2, .int ln), (3, .int (nI lo)), (4, .int (nI hg)), (5, .ref oo)] := hl
  refine zb_abs (fun Q hQ => ?_)
  refine lv_aload hx hb dL_frame_0 (lv_at hl 5 rfl) ?_
  refine lv_iconst (v := 0) hx hb dL_frame_2 (by decide) ?_
  refine lv_aload_n hx hb dL_frame_3 rfl (lv_at hl 0 rfl) ?_
  refine lv_iload_n hx hb dL_frame_4 rfl (lv_at hl 1 rfl) ?_
  refine lv_iload_n hx hb dL_frame_5 rfl (lv_at hl 2 rfl) ?_
  refine lv_iload_n hx hb dL_frame_6 rfl (lv_at hl 3 rfl) ?_
  refine lv_iload hx hb dL_frame_7 (lv_at hl 4 rfl) ?_
  obtain ⟨m9, meth9, c9, hn9, hm9, hc9, -, -, htb9, -⟩ := Cond.codeWith_spec (hts _ List.mem_cons_self)
  cases B.named.symm.trans hn9
  cases B.method.symm.trans hm9
  cases (Stand.of_body B).code.symm.trans hc9
  obtain ⟨x9, hx9, hs9, he9, hp9, hk9⟩ := tm_tab htb9
  refine tm_catchV (As := [.int fid, .int ln, .int (nI lo), .int (nI hg)]) (rest := [.int 0, .ref oo]) ⟨hx, hb, hml, hown, htb⟩ (x_frame l D a cA N f ob tr nd fid ln (nI lo) (nI hg) hbad hfl) (cwV 4 htb (wb_V kM_L_7 kI_X4_frame kS_X4_frame kN_X4 kD_X4_frame) rfl rfl rfl (by decide +kernel) ⟨Nat.le_of_ble_eq_true rfl, Nat.le_of_ble_eq_true rfl⟩) (zp_VT 0 rfl rfl (wP_l hP) (hK.sub (tys' := [(cA, .int)]) [0] rfl) hSt hS hnw htw) rfl hl.1 rfl (lv_room (Nat.le_of_ble_eq_true rfl)) dL_frame_9 ⟨Nat.le_of_ble_eq_true rfl, Nat.le_of_ble_eq_true rfl⟩ hx9 (by simp only [covers, hs9, he9]; decide) (by rw [hk9]; decide) (by rw [hk9]; exact htb _ kC_L_13) (fun H1 q9 hz1 hq1 => ?_)
  rw [hp9]
  have hP := wP_old hP hq1
  have hS := wS_old hS hz1 hq1
  refine lv_astore hx hb dL_frame_17 hl (by decide) rfl (fun ls hl => ?_)
  have hl : lv_has ls 7 [(6, .ref q9), (0, .ref (a 0)), (1, .int fid), (2, .int ln), (3, .int (nI lo)), (4, .int (nI hg)), (5, .ref oo)] := hl
  refine lv_iconst (v := 1) hx hb dL_frame_19 (by decide) ?_
  rw [hQ]
  have hw9 : (((cw a cA N f ob tr nd) ++ [(oo, .inl (cJ, 1, .inr (.inl fo)))]) : va_W) = ((cw a cA N f ob tr nd) ++ [(oo, .inl (cJ, 1, .inr (.inl fo)))]) := rfl
  exact W.iret (v := 1) hx hb hr (fun t9 ht hW => ⟨congrArg (fun z => Outcome.returned (some (Value.int z))) (rfl), by rw [ht, ← hw9]; exact hP, by rw [← hw9]; exact hD, hS.F ht⟩) hS.2.2 dL_frame_20
set_option maxHeartbeats 4000000 in
set_option maxRecDepth 100000 in
theorem l_set (l : Launch) (D : va_G) (a : Nat → Nat) (cA cJ : ClassId) (N : Int32) (f : Nat → Int32) (ob : OB) (tr : TR) (nd : ND) (oo : Nat) (fo : Nat → Int64) (sz : Nat) (i sb : Int32) (lo hg e : Nat) (hfd : fd i sb = some e) (h14 : 14 ≤ e) (hz8 : xZ e ≤ 8) (ho : obK ob) (hlo : lo < 2 ^ 32) (hhg : hg < 2 ^ 32) (hB2 : isB (pF f (xP e) (xZ e) (lo + 4294967296 * hg) 0)) (hG2 : mapK (pF f (xP e) (xZ e) (lo + 4294967296 * hg) 0) 9 5) : Met l yL_set (wL_set :: wb) ({ frames := 7, cells := 0, slots := 0, locals := 161 } : Room) (va_Pc [.ref (a 0), .int i, .int sb, .int (nI lo), .int (nI hg), .ref oo] (zPre D [(cA, .int), (cJ, .long)] ((cw a cA N f ob tr nd) ++ [(oo, .inl (cJ, 1, .inr (.inl fo)))]) sz)) (zb_Vi 0 D vwCl (c4 a cA N (kSet N f ob tr nd e (lo + 4294967296 * hg)) ++ [(oo, .inl (cJ, 1, .inr (.inl (vp_updL fo 0 ((kSet N f ob tr nd e (lo + 4294967296 * hg)).2.1.2.2 - ob.2.2).toInt64))))]) (va_A ((cw a cA N f ob tr nd) ++ [(oo, .inl (cJ, 1, .inr (.inl fo)))]) sz)) 0 0 (va_A ((cw a cA N f ob tr nd) ++ [(oo, .inl (cJ, 1, .inr (.inl fo)))]) sz) := by
  refine va_MetW (hh := [(0, 14, 17, 18)]) (cc := cL_set) (maxL := 7) (ret := (some .int)) (by decide) rfl ?_
  intro p ev s m args below meth c s₁ B hml hv
  obtain ⟨rfl, hsz, hP, hK, hD0, hSt, hnw⟩ := hv
  have hx := B.exec
  have hb := B.bytes
  have hr := B.returns
  have hts := atoms_spec (ws := wL_set :: wb) B.pre
  have htb : ∀ w ∈ wb, w.before ([.ref (a 0), .int i, .int sb, .int (nI lo), .int (nI hg), .ref oo]).toArray s = true := fun w h => hts w (List.mem_cons_of_mem _ h)
  have hown : s.vm.findClass RL = some m.cls := findClass_of_methodNamed B.named
  have hlocks := B.notSynchronized
  subst hsz
  have hD := hD0.self (sz := s.heap.size)
  clear hD0
  generalize hAe : va_A ((cw a cA N f ob tr nd) ++ [(oo, .inl (cJ, 1, .inr (.inl fo)))]) s.heap.size = A at hD hSt ⊢
  have hA : ∀ q : Nat, s.heap.size ≤ q → A q := fun q h => by rw [← hAe]; exact Or.inr h
  have hS : va_S A s.heap s.heap [] := va_S.rf
  obtain ⟨⟨tt, ff, hZT, hTT, hZF, hTF⟩, hXS⟩ := id hSt
  have hl := lv_entry ([.ref (a 0), .int i, .int sb, .int (nI lo), .int (nI hg), .ref oo]) (n := 7) (Nat.le_of_ble_eq_true rfl)
  rw [lg_entry_eq]
  generalize (lg_sl ([.ref (a 0), .int i, .int sb, .int (nI lo), .int (nI hg), .ref oo]) ++ List.replicate (7 - (lg_sl ([.ref (a 0), .int i, .int sb, .int (nI lo), .int (nI hg), .ref oo])).length) Slot.unset).toArray = ls at hl ⊢
  have hl : lv_has ls 7 [(0, .ref (a 0)), (1, .int i), (2, .int sb), (3, .int (nI lo)), (4, .int (nI hg)), (5, .ref oo)] := hl
  refine zb_abs (fun Q hQ => ?_)
  refine lv_aload hx hb dL_set_0 (lv_at hl 5 rfl) ?_
  refine lv_iconst (v := 0) hx hb dL_set_2 (by decide) ?_
  refine lv_aload_n hx hb dL_set_3 rfl (lv_at hl 0 rfl) ?_
  refine lv_iload_n hx hb dL_set_4 rfl (lv_at hl 1 rfl) ?_
  refine lv_iload_n hx hb dL_set_5 rfl (lv_at hl 2 rfl) ?_
  refine lv_iload_n hx hb dL_set_6 rfl (lv_at hl 3 rfl) ?_
  refine lv_iload hx hb dL_set_7 (lv_at hl 4 rfl) ?_
  refine zb_cviA (w0 := cw a cA N f ob tr nd) (wr := [(oo, .inl (cJ, 1, .inr (.inl fo)))]) (va_runV (As := [.int i, .int sb, .int (nI lo), .int (nI hg)]) (rest := [.int 0, .ref oo]) ⟨hx, hb, hml, hown, htb⟩ (c_set l D a cA N f ob tr nd _ i sb lo hg e hfd h14 hz8 ho hlo hhg hB2 hG2) (cwV 4 htb (wb_V kM_L_15 kI_X4_set kS_X4_set kN_X4 kD_X4_set) rfl rfl rfl (by decide +kernel) ⟨Nat.le_of_ble_eq_true rfl, Nat.le_of_ble_eq_true rfl⟩) (zp_VW 0 rfl rfl (wP_l hP) (wD_l hD) (hK.sub (tys' := [(cA, .int)]) [0] rfl) hSt hS hA hnw) rfl rfl hl.1 rfl (lv_room (Nat.le_of_ble_eq_true rfl)) dL_set_9 ⟨Nat.le_of_ble_eq_true rfl, Nat.le_of_ble_eq_true rfl⟩) hP hD hS hA (fun H locs hP hD hS => ?_)
  have hP : va_P D vwCl ((cw a cA N ((kSet N f ob tr nd e (lo + 4294967296 * hg)).1) ((kSet N f ob tr nd e (lo + 4294967296 * hg)).2.1) ((kSet N f ob tr nd e (lo + 4294967296 * hg)).2.2.1) ((kSet N f ob tr nd e (lo + 4294967296 * hg)).2.2.2)) ++ [(oo, .inl (cJ, 1, .inr (.inl fo)))]) H := hP
  have hD : va_D A ((cw a cA N ((kSet N f ob tr nd e (lo + 4294967296 * hg)).1) ((kSet N f ob tr nd e (lo + 4294967296 * hg)).2.1) ((kSet N f ob tr nd e (lo + 4294967296 * hg)).2.2.1) ((kSet N f ob tr nd e (lo + 4294967296 * hg)).2.2.2)) ++ [(oo, .inl (cJ, 1, .inr (.inl fo)))]) := hD
  refine lv_i2l hx hb dL_set_12 rfl ?_
  refine va_last (i := nI 0) (x := ((kSet N f ob tr nd e (lo + 4294967296 * hg)).2.1.2.2 - ob.2.2).toInt64) hx hb hK hP hD hS 9 1 rfl rfl (vp_in_nI (by omega) (by decide)) dL_set_13 (fun H locs hP hD hS => ?_)
  rw [nI_clamp (by omega)] at hP hD
  have hP : va_P D vwCl ((cw a cA N ((kSet N f ob tr nd e (lo + 4294967296 * hg)).1) ((kSet N f ob tr nd e (lo + 4294967296 * hg)).2.1) ((kSet N f ob tr nd e (lo + 4294967296 * hg)).2.2.1) ((kSet N f ob tr nd e (lo + 4294967296 * hg)).2.2.2)) ++ [(oo, .inl (cJ, 1, .inr (.inl (vp_updL fo 0 (((kSet N f ob tr nd e (lo + 4294967296 * hg)).2.1.2.2 - ob.2.2).toInt64)))))]) H := hP
  have hD : va_D A ((cw a cA N ((kSet N f ob tr nd e (lo + 4294967296 * hg)).1) ((kSet N f ob tr nd e (lo + 4294967296 * hg)).2.1) ((kSet N f ob tr nd e (lo + 4294967296 * hg)).2.2.1) ((kSet N f ob tr nd e (lo + 4294967296 * hg)).2.2.2)) ++ [(oo, .inl (cJ, 1, .inr (.inl (vp_updL fo 0 (((kSet N f ob tr nd e (lo + 4294967296 * hg)).2.1.2.2 - ob.2.2).toInt64)))))]) := hD
  refine lv_goto (tgt := 21) hx hb dL_set_14 (by decide) ?_
  refine lv_iconst (v := 0) hx hb dL_set_21 (by decide) ?_
  rw [hQ]
  have hw9 : (((cw a cA N ((kSet N f ob tr nd e (lo + 4294967296 * hg)).1) ((kSet N f ob tr nd e (lo + 4294967296 * hg)).2.1) ((kSet N f ob tr nd e (lo + 4294967296 * hg)).2.2.1) ((kSet N f ob tr nd e (lo + 4294967296 * hg)).2.2.2)) ++ [(oo, .inl (cJ, 1, .inr (.inl (vp_updL fo 0 (((kSet N f ob tr nd e (lo + 4294967296 * hg)).2.1.2.2 - ob.2.2).toInt64)))))]) : va_W) = (c4 a cA N (kSet N f ob tr nd e (lo + 4294967296 * hg)) ++ [(oo, .inl (cJ, 1, .inr (.inl (vp_updL fo 0 ((kSet N f ob tr nd e (lo + 4294967296 * hg)).2.1.2.2 - ob.2.2).toInt64))))]) := rfl
  exact W.iret (v := 0) hx hb hr (fun t9 ht hW => ⟨congrArg (fun z => Outcome.returned (some (Value.int z))) (rfl), by rw [ht, ← hw9]; exact hP, by rw [← hw9]; exact hD, hS.F ht⟩) hS.2.2 dL_set_22
set_option maxHeartbeats 4000000 in
set_option maxRecDepth 100000 in
theorem l_setNo (l : Launch) (D : va_G) (a : Nat → Nat) (cA cJ : ClassId) (N : Int32) (f : Nat → Int32) (ob : OB) (tr : TR) (nd : ND) (oo : Nat) (fo : Nat → Int64) (sz : Nat) (i sb : Int32) (lo hg : Nat) (hfl : l.flags = pinnedFlags ++ [noTraceFlag]) (hbad : fd i sb = none ∨ ∃ e, fd i sb = some e ∧ (e < 14 ∨ 8 < xZ e)) : Met l yL_set (wL_set :: wb) ({ frames := 8, cells := 1, slots := 6, locals := 199 } : Room) (va_Pc [.ref (a 0), .int i, .int sb, .int (nI lo), .int (nI hg), .ref oo] (zPh D [(cA, .int), (cJ, .long)] ((cw a cA N f ob tr nd) ++ [(oo, .inl (cJ, 1, .inr (.inl fo)))]) sz)) (zb_Vi 1 D vwCl ((cw a cA N f ob tr nd) ++ [(oo, .inl (cJ, 1, .inr (.inl fo)))]) (va_A ((cw a cA N f ob tr nd) ++ [(oo, .inl (cJ, 1, .inr (.inl fo)))]) sz)) 1 6 (va_A ((cw a cA N f ob tr nd) ++ [(oo, .inl (cJ, 1, .inr (.inl fo)))]) sz) := by
  refine va_MetW (hh := [(0, 14, 17, 18)]) (cc := cL_set) (maxL := 7) (ret := (some .int)) (by decide) rfl ?_
  intro p ev s m args below meth c s₁ B hml hv
  obtain ⟨rfl, ⟨hsz, hP, hK, hD0, hSt, hnw⟩, htw⟩ := hv
  have hx := B.exec
  have hb := B.bytes
  have hr := B.returns
  have hts := atoms_spec (ws := wL_set :: wb) B.pre
  have htb : ∀ w ∈ wb, w.before ([.ref (a 0), .int i, .int sb, .int (nI lo), .int (nI hg), .ref oo]).toArray s = true := fun w h => hts w (List.mem_cons_of_mem _ h)
  have hown : s.vm.findClass RL = some m.cls := findClass_of_methodNamed B.named
  have hlocks := B.notSynchronized
  subst hsz
  have hD := hD0.self (sz := s.heap.size)
  clear hD0
  generalize hAe : va_A ((cw a cA N f ob tr nd) ++ [(oo, .inl (cJ, 1, .inr (.inl fo)))]) s.heap.size = A at hD hSt ⊢
  have hA : ∀ q : Nat, s.heap.size ≤ q → A q := fun q h => by rw [← hAe]; exact Or.inr h
  have hS : va_S A s.heap s.heap [] := va_S.rf
  obtain ⟨⟨tt, ff, hZT, hTT, hZF, hTF⟩, hXS⟩ := id hSt
  have hl := lv_entry ([.ref (a 0), .int i, .int sb, .int (nI lo), .int (nI hg), .ref oo]) (n := 7) (Nat.le_of_ble_eq_true rfl)
  rw [lg_entry_eq]
  generalize (lg_sl ([.ref (a 0), .int i, .int sb, .int (nI lo), .int (nI hg), .ref oo]) ++ List.replicate (7 - (lg_sl ([.ref (a 0), .int i, .int sb, .int (nI lo), .int (nI hg), .ref oo])).length) Slot.unset).toArray = ls at hl ⊢
  have hl : lv_has ls 7 [(0, .ref (a 0)), (1, .int i), (2, .int sb), (3, .int (nI lo)), (4, .int (nI hg)), (5, .ref oo)] := hl
  refine zb_abs (fun Q hQ => ?_)
  refine lv_aload hx hb dL_set_0 (lv_at hl 5 rfl) ?_
  refine lv_iconst (v := 0) hx hb dL_set_2 (by decide) ?_
  refine lv_aload_n hx hb dL_set_3 rfl (lv_at hl 0 rfl) ?_
  refine lv_iload_n hx hb dL_set_4 rfl (lv_at hl 1 rfl) ?_
  refine lv_iload_n hx hb dL_set_5 rfl (lv_at hl 2 rfl) ?_
  refine lv_iload_n hx hb dL_set_6 rfl (lv_at hl 3 rfl) ?_
  refine lv_iload hx hb dL_set_7 (lv_at hl 4 rfl) ?_
  obtain ⟨m9, meth9, c9, hn9, hm9, hc9, -, -, htb9, -⟩ := Cond.codeWith_spec (hts _ List.mem_cons_self)
  cases B.named.symm.trans hn9
  cases B.method.symm.trans hm9
  cases (Stand.of_body B).code.symm.trans hc9
  obtain ⟨x9, hx9, hs9, he9, hp9, hk9⟩ := tm_tab htb9
  refine tm_catchV (As := [.int i, .int sb, .int (nI lo), .int (nI hg)]) (rest := [.int 0, .ref oo]) ⟨hx, hb, hml, hown, htb⟩ (x_set l D a cA N f ob tr nd i sb (nI lo) (nI hg) hbad hfl) (cwV 4 htb (wb_V kM_L_15 kI_X4_set kS_X4_set kN_X4 kD_X4_set) rfl rfl rfl (by decide +kernel) ⟨Nat.le_of_ble_eq_true rfl, Nat.le_of_ble_eq_true rfl⟩) (zp_VT 0 rfl rfl (wP_l hP) (hK.sub (tys' := [(cA, .int)]) [0] rfl) hSt hS hnw htw) rfl hl.1 rfl (lv_room (Nat.le_of_ble_eq_true rfl)) dL_set_9 ⟨Nat.le_of_ble_eq_true rfl, Nat.le_of_ble_eq_true rfl⟩ hx9 (by simp only [covers, hs9, he9]; decide) (by rw [hk9]; decide) (by rw [hk9]; exact htb _ kC_L_18) (fun H1 q9 hz1 hq1 => ?_)
  rw [hp9]
  have hP := wP_old hP hq1
  have hS := wS_old hS hz1 hq1
  refine lv_astore hx hb dL_set_17 hl (by decide) rfl (fun ls hl => ?_)
  have hl : lv_has ls 7 [(6, .ref q9), (0, .ref (a 0)), (1, .int i), (2, .int sb), (3, .int (nI lo)), (4, .int (nI hg)), (5, .ref oo)] := hl
  refine lv_iconst (v := 1) hx hb dL_set_19 (by decide) ?_
  rw [hQ]
  have hw9 : (((cw a cA N f ob tr nd) ++ [(oo, .inl (cJ, 1, .inr (.inl fo)))]) : va_W) = ((cw a cA N f ob tr nd) ++ [(oo, .inl (cJ, 1, .inr (.inl fo)))]) := rfl
  exact W.iret (v := 1) hx hb hr (fun t9 ht hW => ⟨congrArg (fun z => Outcome.returned (some (Value.int z))) (rfl), by rw [ht, ← hw9]; exact hP, by rw [← hw9]; exact hD, hS.F ht⟩) hS.2.2 dL_set_20
set_option maxHeartbeats 4000000 in
set_option maxRecDepth 100000 in
theorem l_value (l : Launch) (D : va_G) (a : Nat → Nat) (cA cJ : ClassId) (N : Int32) (f : Nat → Int32) (ob : OB) (tr : TR) (nd : ND) (oo : Nat) (fo : Nat → Int64) (sz : Nat) (i sb : Int32) (k e : Nat) (hfd : fd i sb = some e) (hk : k < xZ e) : Met l yL_value (wL_value :: wb) ({ frames := 2, cells := 0, slots := 0, locals := 48 } : Room) (va_Pc [.ref (a 0), .int i, .int sb, .int (nI k), .ref oo] (zPre D [(cA, .int), (cJ, .long)] ((cw a cA N f ob tr nd) ++ [(oo, .inl (cJ, 1, .inr (.inl fo)))]) sz)) (zb_Vi 0 D vwCl (cw a cA N f ob tr nd ++ [(oo, .inl (cJ, 1, .inr (.inl (vp_updL fo 0 (f (xP e + k)).toInt64))))]) (va_A ((cw a cA N f ob tr nd) ++ [(oo, .inl (cJ, 1, .inr (.inl fo)))]) sz)) 0 0 (va_A ((cw a cA N f ob tr nd) ++ [(oo, .inl (cJ, 1, .inr (.inl fo)))]) sz) := by
  refine va_MetW (hh := [(0, 12, 15, 18)]) (cc := cL_value) (maxL := 6) (ret := (some .int)) (by decide) rfl ?_
  intro p ev s m args below meth c s₁ B hml hv
  obtain ⟨rfl, hsz, hP, hK, hD0, hSt, hnw⟩ := hv
  have hx := B.exec
  have hb := B.bytes
  have hr := B.returns
  have hts := atoms_spec (ws := wL_value :: wb) B.pre
  have htb : ∀ w ∈ wb, w.before ([.ref (a 0), .int i, .int sb, .int (nI k), .ref oo]).toArray s = true := fun w h => hts w (List.mem_cons_of_mem _ h)
  have hown : s.vm.findClass RL = some m.cls := findClass_of_methodNamed B.named
  have hlocks := B.notSynchronized
  subst hsz
  have hD := hD0.self (sz := s.heap.size)
  clear hD0
  generalize hAe : va_A ((cw a cA N f ob tr nd) ++ [(oo, .inl (cJ, 1, .inr (.inl fo)))]) s.heap.size = A at hD hSt ⊢
  have hA : ∀ q : Nat, s.heap.size ≤ q → A q := fun q h => by rw [← hAe]; exact Or.inr h
  have hS : va_S A s.heap s.heap [] := va_S.rf
  obtain ⟨⟨tt, ff, hZT, hTT, hZF, hTF⟩, hXS⟩ := id hSt
  have hl := lv_entry ([.ref (a 0), .int i, .int sb, .int (nI k), .ref oo]) (n := 6) (Nat.le_of_ble_eq_true rfl)
  rw [lg_entry_eq]
  generalize (lg_sl ([.ref (a 0), .int i, .int sb, .int (nI k), .ref oo]) ++ List.replicate (6 - (lg_sl ([.ref (a 0), .int i, .int sb, .int (nI k), .ref oo])).length) Slot.unset).toArray = ls at hl ⊢
  have hl : lv_has ls 6 [(0, .ref (a 0)), (1, .int i), (2, .int sb), (3, .int (nI k)), (4, .ref oo)] := hl
  refine zb_abs (fun Q hQ => ?_)
  refine lv_aload hx hb dL_value_0 (lv_at hl 4 rfl) ?_
  refine lv_iconst (v := 0) hx hb dL_value_2 (by decide) ?_
  refine lv_aload_n hx hb dL_value_3 rfl (lv_at hl 0 rfl) ?_
  refine lv_iload_n hx hb dL_value_4 rfl (lv_at hl 1 rfl) ?_
  refine lv_iload_n hx hb dL_value_5 rfl (lv_at hl 2 rfl) ?_
  refine lv_iload_n hx hb dL_value_6 rfl (lv_at hl 3 rfl) ?_
  refine zb_ci (va_runV (As := [.int i, .int sb, .int (nI k)]) (rest := [.int 0, .ref oo]) ⟨hx, hb, hml, hown, htb⟩ (c_value l D a cA N f ob tr nd i sb k e hfd hk) (cwV 3 htb (wb_V kM_L_20 kI_X4_value kS_X4_value kN_X4 kD_X4_value) rfl rfl rfl (by decide +kernel) ⟨Nat.le_of_ble_eq_true rfl, Nat.le_of_ble_eq_true rfl⟩) (zp_V 0 rfl rfl (wP_l hP) (hK.sub (tys' := [(cA, .int)]) [0] rfl) hSt hS hnw) rfl rfl hl.1 rfl (lv_room (Nat.le_of_ble_eq_true rfl)) dL_value_7 ⟨Nat.le_of_ble_eq_true rfl, Nat.le_of_ble_eq_true rfl⟩) ?_
  refine lv_i2l hx hb dL_value_10 rfl ?_
  refine va_last (i := nI 0) (x := (f (xP e + k)).toInt64) hx hb hK hP hD hS 9 1 rfl rfl (vp_in_nI (by omega) (by decide)) dL_value_11 (fun H locs hP hD hS => ?_)
  rw [nI_clamp (by omega)] at hP hD
  have hP : va_P D vwCl ((cw a cA N f ob tr nd) ++ [(oo, .inl (cJ, 1, .inr (.inl (vp_updL fo 0 ((f (xP e + k)).toInt64)))))]) H := hP
  have hD : va_D A ((cw a cA N f ob tr nd) ++ [(oo, .inl (cJ, 1, .inr (.inl (vp_updL fo 0 ((f (xP e + k)).toInt64)))))]) := hD
  refine lv_goto (tgt := 19) hx hb dL_value_12 (by decide) ?_
  refine lv_iconst (v := 0) hx hb dL_value_19 (by decide) ?_
  rw [hQ]
  have hw9 : (((cw a cA N f ob tr nd) ++ [(oo, .inl (cJ, 1, .inr (.inl (vp_updL fo 0 ((f (xP e + k)).toInt64)))))]) : va_W) = (cw a cA N f ob tr nd ++ [(oo, .inl (cJ, 1, .inr (.inl (vp_updL fo 0 (f (xP e + k)).toInt64))))]) := rfl
  exact W.iret (v := 0) hx hb hr (fun t9 ht hW => ⟨congrArg (fun z => Outcome.returned (some (Value.int z))) (rfl), by rw [ht, ← hw9]; exact hP, by rw [← hw9]; exact hD, hS.F ht⟩) hS.2.2 dL_value_20
set_option maxHeartbeats 4000000 in
set_option maxRecDepth 100000 in
theorem l_valueNo (l : Launch) (D : va_G) (a : Nat → Nat) (cA cJ : ClassId) (N : Int32) (f : Nat → Int32) (ob : OB) (tr : TR) (nd : ND) (oo : Nat) (fo : Nat → Int64) (sz : Nat) (i sb : Int32) (k : Nat) (hfl : l.flags = pinnedFlags ++ [noTraceFlag]) (hbad : fd i sb = none ∨ ∃ e, fd i sb = some e ∧ (nI k < 0 ∨ nI (xZ e) ≤ nI k)) : Met l yL_value (wL_value :: wb) ({ frames := 8, cells := 1, slots := 6, locals := 197 } : Room) (va_Pc [.ref (a 0), .int i, .int sb, .int (nI k), .ref oo] (zPh D [(cA, .int), (cJ, .long)] ((cw a cA N f ob tr nd) ++ [(oo, .inl (cJ, 1, .inr (.inl fo)))]) sz)) (zb_Vi 1 D vwCl ((cw a cA N f ob tr nd) ++ [(oo, .inl (cJ, 1, .inr (.inl fo)))]) (va_A ((cw a cA N f ob tr nd) ++ [(oo, .inl (cJ, 1, .inr (.inl fo)))]) sz)) 1 6 (va_A ((cw a cA N f ob tr nd) ++ [(oo, .inl (cJ, 1, .inr (.inl fo)))]) sz) := by
  refine va_MetW (hh := [(0, 12, 15, 18)]) (cc := cL_value) (maxL := 6) (ret := (some .int)) (by decide) rfl ?_
  intro p ev s m args below meth c s₁ B hml hv
  obtain ⟨rfl, ⟨hsz, hP, hK, hD0, hSt, hnw⟩, htw⟩ := hv
  have hx := B.exec
  have hb := B.bytes
  have hr := B.returns
  have hts := atoms_spec (ws := wL_value :: wb) B.pre
  have htb : ∀ w ∈ wb, w.before ([.ref (a 0), .int i, .int sb, .int (nI k), .ref oo]).toArray s = true := fun w h => hts w (List.mem_cons_of_mem _ h)
  have hown : s.vm.findClass RL = some m.cls := findClass_of_methodNamed B.named
  have hlocks := B.notSynchronized
  subst hsz
  have hD := hD0.self (sz := s.heap.size)
  clear hD0
  generalize hAe : va_A ((cw a cA N f ob tr nd) ++ [(oo, .inl (cJ, 1, .inr (.inl fo)))]) s.heap.size = A at hD hSt ⊢
  have hA : ∀ q : Nat, s.heap.size ≤ q → A q := fun q h => by rw [← hAe]; exact Or.inr h
  have hS : va_S A s.heap s.heap [] := va_S.rf
  obtain ⟨⟨tt, ff, hZT, hTT, hZF, hTF⟩, hXS⟩ := id hSt
  have hl := lv_entry ([.ref (a 0), .int i, .int sb, .int (nI k), .ref oo]) (n := 6) (Nat.le_of_ble_eq_true rfl)
  rw [lg_entry_eq]
  generalize (lg_sl ([.ref (a 0), .int i, .int sb, .int (nI k), .ref oo]) ++ List.replicate (6 - (lg_sl ([.ref (a 0), .int i, .int sb, .int (nI k), .ref oo])).length) Slot.unset).toArray = ls at hl ⊢
  have hl : lv_has ls 6 [(0, .ref (a 0)), (1, .int i), (2, .int sb), (3, .int (nI k)), (4, .ref oo)] := hl
  refine zb_abs (fun Q hQ => ?_)
  refine lv_aload hx hb dL_value_0 (lv_at hl 4 rfl) ?_
  refine lv_iconst (v := 0) hx hb dL_value_2 (by decide) ?_
  refine lv_aload_n hx hb dL_value_3 rfl (lv_at hl 0 rfl) ?_
  refine lv_iload_n hx hb dL_value_4 rfl (lv_at hl 1 rfl) ?_
  refine lv_iload_n hx hb dL_value_5 rfl (lv_at hl 2 rfl) ?_
  refine lv_iload_n hx hb dL_value_6 rfl (lv_at hl 3 rfl) ?_
  obtain ⟨m9, meth9, c9, hn9, hm9, hc9, -, -, htb9, -⟩ := Cond.codeWith_spec (hts _ List.mem_cons_self)
  cases B.named.symm.trans hn9
  cases B.method.symm.trans hm9
  cases (Stand.of_body B).code.symm.trans hc9
  obtain ⟨x9, hx9, hs9, he9, hp9, hk9⟩ := tm_tab htb9
  refine tm_catchV (As := [.int i, .int sb, .int (nI k)]) (rest := [.int 0, .ref oo]) ⟨hx, hb, hml, hown, htb⟩ (x_value l D a cA N f ob tr nd i sb (nI k) hbad hfl) (cwV 3 htb (wb_V kM_L_20 kI_X4_value kS_X4_value kN_X4 kD_X4_value) rfl rfl rfl (by decide +kernel) ⟨Nat.le_of_ble_eq_true rfl, Nat.le_of_ble_eq_true rfl⟩) (zp_VT 0 rfl rfl (wP_l hP) (hK.sub (tys' := [(cA, .int)]) [0] rfl) hSt hS hnw htw) rfl hl.1 rfl (lv_room (Nat.le_of_ble_eq_true rfl)) dL_value_7 ⟨Nat.le_of_ble_eq_true rfl, Nat.le_of_ble_eq_true rfl⟩ hx9 (by simp only [covers, hs9, he9]; decide) (by rw [hk9]; decide) (by rw [hk9]; exact htb _ kC_L_18) (fun H1 q9 hz1 hq1 => ?_)
  rw [hp9]
  have hP := wP_old hP hq1
  have hS := wS_old hS hz1 hq1
  refine lv_astore hx hb dL_value_15 hl (by decide) rfl (fun ls hl => ?_)
  have hl : lv_has ls 6 [(5, .ref q9), (0, .ref (a 0)), (1, .int i), (2, .int sb), (3, .int (nI k)), (4, .ref oo)] := hl
  refine lv_iconst (v := 1) hx hb dL_value_17 (by decide) ?_
  rw [hQ]
  have hw9 : (((cw a cA N f ob tr nd) ++ [(oo, .inl (cJ, 1, .inr (.inl fo)))]) : va_W) = ((cw a cA N f ob tr nd) ++ [(oo, .inl (cJ, 1, .inr (.inl fo)))]) := rfl
  exact W.iret (v := 1) hx hb hr (fun t9 ht hW => ⟨congrArg (fun z => Outcome.returned (some (Value.int z))) (rfl), by rw [ht, ← hw9]; exact hP, by rw [← hw9]; exact hD, hS.F ht⟩) hS.2.2 dL_value_18
set_option maxHeartbeats 4000000 in
set_option maxRecDepth 100000 in
theorem l_out (l : Launch) (D : va_G) (a : Nat → Nat) (cA cJ : ClassId) (N : Int32) (f : Nat → Int32) (ob : OB) (tr : TR) (nd : ND) (oo : Nat) (fo : Nat → Int64) (sz : Nat) (kp k i : Nat) (hkp : ob.2.1 = nI kp) (hkp32 : kp ≤ 32) (hk : k < kp) (hi : i < 4) : Met l yL_out (wL_out :: wb) ({ frames := 2, cells := 0, slots := 0, locals := 44 } : Room) (va_Pc [.ref (a 0), .int (nI k), .int (nI i), .ref oo] (zPre D [(cA, .int), (cJ, .long)] ((cw a cA N f ob tr nd) ++ [(oo, .inl (cJ, 1, .inr (.inl fo)))]) sz)) (zb_Vi 0 D vwCl (cw a cA N f ob tr nd ++ [(oo, .inl (cJ, 1, .inr (.inl (vp_updL fo 0 (ob.1 (k * 4 + i)).toInt64))))]) (va_A ((cw a cA N f ob tr nd) ++ [(oo, .inl (cJ, 1, .inr (.inl fo)))]) sz)) 0 0 (va_A ((cw a cA N f ob tr nd) ++ [(oo, .inl (cJ, 1, .inr (.inl fo)))]) sz) := by
  refine va_MetW (hh := [(0, 10, 13, 28)]) (cc := cL_out) (maxL := 5) (ret := (some .int)) (by decide) rfl ?_
  intro p ev s m args below meth c s₁ B hml hv
  obtain ⟨rfl, hsz, hP, hK, hD0, hSt, hnw⟩ := hv
  have hx := B.exec
  have hb := B.bytes
  have hr := B.returns
  have hts := atoms_spec (ws := wL_out :: wb) B.pre
  have htb : ∀ w ∈ wb, w.before ([.ref (a 0), .int (nI k), .int (nI i), .ref oo]).toArray s = true := fun w h => hts w (List.mem_cons_of_mem _ h)
  have hown : s.vm.findClass RL = some m.cls := findClass_of_methodNamed B.named
  have hlocks := B.notSynchronized
  subst hsz
  have hD := hD0.self (sz := s.heap.size)
  clear hD0
  generalize hAe : va_A ((cw a cA N f ob tr nd) ++ [(oo, .inl (cJ, 1, .inr (.inl fo)))]) s.heap.size = A at hD hSt ⊢
  have hA : ∀ q : Nat, s.heap.size ≤ q → A q := fun q h => by rw [← hAe]; exact Or.inr h
  have hS : va_S A s.heap s.heap [] := va_S.rf
  obtain ⟨⟨tt, ff, hZT, hTT, hZF, hTF⟩, hXS⟩ := id hSt
  have hl := lv_entry ([.ref (a 0), .int (nI k), .int (nI i), .ref oo]) (n := 5) (Nat.le_of_ble_eq_true rfl)
  rw [lg_entry_eq]
  generalize (lg_sl ([.ref (a 0), .int (nI k), .int (nI i), .ref oo]) ++ List.replicate (5 - (lg_sl ([.ref (a 0), .int (nI k), .int (nI i), .ref oo])).length) Slot.unset).toArray = ls at hl ⊢
  have hl : lv_has ls 5 [(0, .ref (a 0)), (1, .int (nI k)), (2, .int (nI i)), (3, .ref oo)] := hl
  refine zb_abs (fun Q hQ => ?_)
  refine lv_aload_n hx hb dL_out_0 rfl (lv_at hl 3 rfl) ?_
  refine lv_iconst (v := 0) hx hb dL_out_1 (by decide) ?_
  refine lv_aload_n hx hb dL_out_2 rfl (lv_at hl 0 rfl) ?_
  refine lv_iload_n hx hb dL_out_3 rfl (lv_at hl 1 rfl) ?_
  refine lv_iload_n hx hb dL_out_4 rfl (lv_at hl 2 rfl) ?_
  refine zb_ci (va_runV (As := [.int (nI k), .int (nI i)]) (rest := [.int 0, .ref oo]) ⟨hx, hb, hml, hown, htb⟩ (c_out l D a cA N f ob tr nd kp k i hkp hkp32 hk hi) (cwV 2 htb (wb_V kM_L_24 kI_X4_out kS_X4_out kN_X4 kD_X4_out) rfl rfl rfl (by decide +kernel) ⟨Nat.le_of_ble_eq_true rfl, Nat.le_of_ble_eq_true rfl⟩) (zp_V 0 rfl rfl (wP_l hP) (hK.sub (tys' := [(cA, .int)]) [0] rfl) hSt hS hnw) rfl rfl hl.1 rfl (lv_room (Nat.le_of_ble_eq_true rfl)) dL_out_5 ⟨Nat.le_of_ble_eq_true rfl, Nat.le_of_ble_eq_true rfl⟩) ?_
  refine lv_i2l hx hb dL_out_8 rfl ?_
  refine va_last (i := nI 0) (x := (ob.1 (k * 4 + i)).toInt64) hx hb hK hP hD hS 9 1 rfl rfl (vp_in_nI (by omega) (by decide)) dL_out_9 (fun H locs hP hD hS => ?_)
  rw [nI_clamp (by omega)] at hP hD
  have hP : va_P D vwCl ((cw a cA N f ob tr nd) ++ [(oo, .inl (cJ, 1, .inr (.inl (vp_updL fo 0 ((ob.1 (k * 4 + i)).toInt64)))))]) H := hP
  have hD : va_D A ((cw a cA N f ob tr nd) ++ [(oo, .inl (cJ, 1, .inr (.inl (vp_updL fo 0 ((ob.1 (k * 4 + i)).toInt64)))))]) := hD
  refine lv_goto (tgt := 17) hx hb dL_out_10 (by decide) ?_
  refine lv_iconst (v := 0) hx hb dL_out_17 (by decide) ?_
  rw [hQ]
  have hw9 : (((cw a cA N f ob tr nd) ++ [(oo, .inl (cJ, 1, .inr (.inl (vp_updL fo 0 ((ob.1 (k * 4 + i)).toInt64)))))]) : va_W) = (cw a cA N f ob tr nd ++ [(oo, .inl (cJ, 1, .inr (.inl (vp_updL fo 0 (ob.1 (k * 4 + i)).toInt64))))]) := rfl
  exact W.iret (v := 0) hx hb hr (fun t9 ht hW => ⟨congrArg (fun z => Outcome.returned (some (Value.int z))) (rfl), by rw [ht, ← hw9]; exact hP, by rw [← hw9]; exact hD, hS.F ht⟩) hS.2.2 dL_out_18
set_option maxHeartbeats 4000000 in
set_option maxRecDepth 100000 in
theorem l_outNo (l : Launch) (D : va_G) (a : Nat → Nat) (cA cJ : ClassId) (N : Int32) (f : Nat → Int32) (ob : OB) (tr : TR) (nd : ND) (oo : Nat) (fo : Nat → Int64) (sz : Nat) (k i : Nat) (hfl : l.flags = pinnedFlags ++ [noTraceFlag]) (hbad : nI k < 0 ∨ ob.2.1 ≤ nI k ∨ nI i < 0 ∨ 4 ≤ nI i) : Met l yL_out (wL_out :: wb) ({ frames := 8, cells := 1, slots := 6, locals := 195 } : Room) (va_Pc [.ref (a 0), .int (nI k), .int (nI i), .ref oo] (zPh D [(cA, .int), (cJ, .long)] ((cw a cA N f ob tr nd) ++ [(oo, .inl (cJ, 1, .inr (.inl fo)))]) sz)) (zb_Vi 1 D vwCl ((cw a cA N f ob tr nd) ++ [(oo, .inl (cJ, 1, .inr (.inl fo)))]) (va_A ((cw a cA N f ob tr nd) ++ [(oo, .inl (cJ, 1, .inr (.inl fo)))]) sz)) 1 6 (va_A ((cw a cA N f ob tr nd) ++ [(oo, .inl (cJ, 1, .inr (.inl fo)))]) sz) := by
  refine va_MetW (hh := [(0, 10, 13, 28)]) (cc := cL_out) (maxL := 5) (ret := (some .int)) (by decide) rfl ?_
  intro p ev s m args below meth c s₁ B hml hv
  obtain ⟨rfl, ⟨hsz, hP, hK, hD0, hSt, hnw⟩, htw⟩ := hv
  have hx := B.exec
  have hb := B.bytes
  have hr := B.returns
  have hts := atoms_spec (ws := wL_out :: wb) B.pre
  have htb : ∀ w ∈ wb, w.before ([.ref (a 0), .int (nI k), .int (nI i), .ref oo]).toArray s = true := fun w h => hts w (List.mem_cons_of_mem _ h)
  have hown : s.vm.findClass RL = some m.cls := findClass_of_methodNamed B.named
  have hlocks := B.notSynchronized
  subst hsz
  have hD := hD0.self (sz := s.heap.size)
  clear hD0
  generalize hAe : va_A ((cw a cA N f ob tr nd) ++ [(oo, .inl (cJ, 1, .inr (.inl fo)))]) s.heap.size = A at hD hSt ⊢
  have hA : ∀ q : Nat, s.heap.size ≤ q → A q := fun q h => by rw [← hAe]; exact Or.inr h
  have hS : va_S A s.heap s.heap [] := va_S.rf
  obtain ⟨⟨tt, ff, hZT, hTT, hZF, hTF⟩, hXS⟩ := id hSt
  have hl := lv_entry ([.ref (a 0), .int (nI k), .int (nI i), .ref oo]) (n := 5) (Nat.le_of_ble_eq_true rfl)
  rw [lg_entry_eq]
  generalize (lg_sl ([.ref (a 0), .int (nI k), .int (nI i), .ref oo]) ++ List.replicate (5 - (lg_sl ([.ref (a 0), .int (nI k), .int (nI i), .ref oo])).length) Slot.unset).toArray = ls at hl ⊢
  have hl : lv_has ls 5 [(0, .ref (a 0)), (1, .int (nI k)), (2, .int (nI i)), (3, .ref oo)] := hl
  refine zb_abs (fun Q hQ => ?_)
  refine lv_aload_n hx hb dL_out_0 rfl (lv_at hl 3 rfl) ?_
  refine lv_iconst (v := 0) hx hb dL_out_1 (by decide) ?_
  refine lv_aload_n hx hb dL_out_2 rfl (lv_at hl 0 rfl) ?_
  refine lv_iload_n hx hb dL_out_3 rfl (lv_at hl 1 rfl) ?_
  refine lv_iload_n hx hb dL_out_4 rfl (lv_at hl 2 rfl) ?_
  obtain ⟨m9, meth9, c9, hn9, hm9, hc9, -, -, htb9, -⟩ := Cond.codeWith_spec (hts _ List.mem_cons_self)
  cases B.named.symm.trans hn9
  cases B.method.symm.trans hm9
  cases (Stand.of_body B).code.symm.trans hc9
  obtain ⟨x9, hx9, hs9, he9, hp9, hk9⟩ := tm_tab htb9
  refine tm_catchV (As := [.int (nI k), .int (nI i)]) (rest := [.int 0, .ref oo]) ⟨hx, hb, hml, hown, htb⟩ (x_out l D a cA N f ob tr nd (nI k) (nI i) hbad hfl) (cwV 2 htb (wb_V kM_L_24 kI_X4_out kS_X4_out kN_X4 kD_X4_out) rfl rfl rfl (by decide +kernel) ⟨Nat.le_of_ble_eq_true rfl, Nat.le_of_ble_eq_true rfl⟩) (zp_VT 0 rfl rfl (wP_l hP) (hK.sub (tys' := [(cA, .int)]) [0] rfl) hSt hS hnw htw) rfl hl.1 rfl (lv_room (Nat.le_of_ble_eq_true rfl)) dL_out_5 ⟨Nat.le_of_ble_eq_true rfl, Nat.le_of_ble_eq_true rfl⟩ hx9 (by simp only [covers, hs9, he9]; decide) (by rw [hk9]; decide) (by rw [hk9]; exact htb _ kC_L_28) (fun H1 q9 hz1 hq1 => ?_)
  rw [hp9]
  have hP := wP_old hP hq1
  have hS := wS_old hS hz1 hq1
  refine lv_astore hx hb dL_out_13 hl (by decide) rfl (fun ls hl => ?_)
  have hl : lv_has ls 5 [(4, .ref q9), (0, .ref (a 0)), (1, .int (nI k)), (2, .int (nI i)), (3, .ref oo)] := hl
  refine lv_iconst (v := 1) hx hb dL_out_15 (by decide) ?_
  rw [hQ]
  have hw9 : (((cw a cA N f ob tr nd) ++ [(oo, .inl (cJ, 1, .inr (.inl fo)))]) : va_W) = ((cw a cA N f ob tr nd) ++ [(oo, .inl (cJ, 1, .inr (.inl fo)))]) := rfl
  exact W.iret (v := 1) hx hb hr (fun t9 ht hW => ⟨congrArg (fun z => Outcome.returned (some (Value.int z))) (rfl), by rw [ht, ← hw9]; exact hP, by rw [← hw9]; exact hD, hS.F ht⟩) hS.2.2 dL_out_16
