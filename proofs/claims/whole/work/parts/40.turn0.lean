set_option maxHeartbeats 4000000 in
set_option maxRecDepth 100000 in
theorem lw_turn0 {p : Program} {l : Launch} {ev : Env} {s : State} {m : MethodId} {below : List Frame} {meth : Method} {c : Code} {A : Nat → Prop} {D : va_G} {a b : Nat → Nat} {cA cJ : ClassId} {N : Int32} {n sb L oo nn j : Nat} {xs : Nat → Int32} {Q : State → Prop}
    (hx : p.tables.exec = Jvm.exec) (hb : c.code = cL_law) (hml : c.maxLocals = 7) (hown : s.vm.findClass RL = some m.cls) (htb : ∀ w ∈ wb, w.before #[Value.ref sb] s = true) (hX : va_X sb L xs s s.heap) (hbl : sb < s.heap.size) (hbA : ¬ A sb) (hA : ∀ q, s.heap.size ≤ q → A q) (hL : L ≤ 2561) (hK : va_K D vwCl [(cA, .int), (cJ, .long)] s) (hSt : gSt A s s.heap) (hnw : nw s) (htw : tw s) (hfl : l.flags = pinnedFlags ++ [noTraceFlag]) (hNn : N = nI n) (hn1 : 1 ≤ n) (hn15 : n ≤ 15)
    (ih : ∀ (j : Nat) (ls : Array Slot) (H : Heap) (locs : List Loc) (f : Nat → Int32) (ob : OB) (tr : TR) (nd : ND) (t : RT) (z : Int32) (q : Int64) (sg th : Int32) (fo : Nat → Int64), L ≤ 5 * (j + nn) + 5 → j ≤ 512 → I0 (f, ob, tr, nd) → rel2 tr t → va_P D vwCl (cw a cA N f ob tr nd ++ (rw0 b cA cJ N f (ro z ob) t nd q sg th ++ [(oo, .inl (cJ, 1, .inr (.inl fo)))])) H → va_D A (cw a cA N f ob tr nd ++ (rw0 b cA cJ N f (ro z ob) t nd q sg th ++ [(oo, .inl (cJ, 1, .inr (.inl fo)))])) → va_S A s.heap H locs → lv_has ls 7 [(0, .ref sb), (1, .ref (a 0)), (2, .ref (b 0)), (3, .ref oo), (4, .int (nI (1 + 5 * j)))] → W p l ev room_1 s m #[.ref sb] below meth c H locs (21 + j) (620 + 6 * j) Q (F0 m 33 ls []))
    {ls : Array Slot} {H : Heap} {locs : List Loc} {f : Nat → Int32} {ob : OB} {tr : TR} {nd : ND} {t : RT} {z : Int32} {q : Int64} {sg th : Int32} {fo : Nat → Int64} (hLn : L ≤ 5 * (j + (nn + 1)) + 5) (hj5 : (1 + 5 * j) + 5 ≤ L) (hI : I0 (f, ob, tr, nd)) (hR : rel2 tr t) (hP : va_P D vwCl (cw a cA N f ob tr nd ++ (rw0 b cA cJ N f (ro z ob) t nd q sg th ++ [(oo, .inl (cJ, 1, .inr (.inl fo)))])) H) (hD : va_D A (cw a cA N f ob tr nd ++ (rw0 b cA cJ N f (ro z ob) t nd q sg th ++ [(oo, .inl (cJ, 1, .inr (.inl fo)))]))) (hS : va_S A s.heap H locs) (hl : lv_has ls 7 [(0, .ref sb), (1, .ref (a 0)), (2, .ref (b 0)), (3, .ref oo), (4, .int (nI (1 + 5 * j)))]) : W p l ev room_1 s m #[.ref sb] below meth c H locs (21 + j) (620 + 6 * j) Q (F0 m 104 ls []) := by
  obtain ⟨hF, ho, hT9, hS9⟩ := id hI
  have hB : isB f := hF.1
  have hT : mapK f 3 6 := hF.2.1
  have hG : mapK f 9 5 := hF.2.2
  have ho : obK ob := ho
  have hBh0 : isB tr.1 := hT9.1
  obtain ⟨e0, d0, ad0, hN, hrel⟩ := id hR
  have hBh : isB t.1 := by rw [hrel.1]; exact hBh0
  obtain ⟨he0, hd0, hen, hdn, hada, had0⟩ := id hN
  have hjj : j ≤ 511 := by omega
  obtain ⟨fid, e_fid⟩ : ∃ v, xs ((1 + 5 * j) + 1) = v := ⟨_, rfl⟩
  obtain ⟨ln, e_ln⟩ : ∃ v, xs ((1 + 5 * j) + 2) = v := ⟨_, rfl⟩
  obtain ⟨lo, h_lo, e_lo⟩ := wb_of32 (xs ((1 + 5 * j) + 3))
  obtain ⟨hg, h_hg, e_hg⟩ := wb_of32 (xs ((1 + 5 * j) + 4))
  have hI2 : I0 (kMid N f ob tr nd fid ln lo hg e0 d0 ad0) := I0_mid hI fid ln lo hg ad0 he0 hd0
  have h8 := mW_8 hT (lo + 4294967296 * hg)
  by_cases hbad : fid < 0 ∨ 2047 < fid ∨ ln < 0 ∨ 8 < ln
  · refine lv_aload_n hx hb dL_law_104 rfl (lv_at hl 1 rfl) ?_
    refine lv_aload_n hx hb dL_law_105 rfl (lv_at hl 0 rfl) ?_
    refine lv_iload hx hb dL_law_106 (lv_at hl 4 rfl) ?_
    refine lv_iconst (v := 1) hx hb dL_law_108 (by decide) ?_
    refine lv_iadd hx hb dL_law_109 ?_
    refine zb_ti (nI_add (1 + 5 * j) 1) ?_
    refine va_sld (i := nI ((1 + 5 * j) + 1)) hx hb hX hbl hbA hS (vp_in_nI (by omega) (by omega)) dL_law_110 ?_
    refine zb_ti (y := fid) (by rw [nI_clamp (by omega)]; exact e_fid) ?_
    refine lv_aload_n hx hb dL_law_111 rfl (lv_at hl 0 rfl) ?_
    refine lv_iload hx hb dL_law_112 (lv_at hl 4 rfl) ?_
    refine lv_iconst (v := 2) hx hb dL_law_114 (by decide) ?_
    refine lv_iadd hx hb dL_law_115 ?_
    refine zb_ti (nI_add (1 + 5 * j) 2) ?_
    refine va_sld (i := nI ((1 + 5 * j) + 2)) hx hb hX hbl hbA hS (vp_in_nI (by omega) (by omega)) dL_law_116 ?_
    refine zb_ti (y := ln) (by rw [nI_clamp (by omega)]; exact e_ln) ?_
    refine lv_aload_n hx hb dL_law_117 rfl (lv_at hl 0 rfl) ?_
    refine lv_iload hx hb dL_law_118 (lv_at hl 4 rfl) ?_
    refine lv_iconst (v := 3) hx hb dL_law_120 (by decide) ?_
    refine lv_iadd hx hb dL_law_121 ?_
    refine zb_ti (nI_add (1 + 5 * j) 3) ?_
    refine va_sld (i := nI ((1 + 5 * j) + 3)) hx hb hX hbl hbA hS (vp_in_nI (by omega) (by omega)) dL_law_122 ?_
    refine zb_ti (y := nI lo) (by rw [nI_clamp (by omega)]; exact e_lo) ?_
    refine lv_aload_n hx hb dL_law_123 rfl (lv_at hl 0 rfl) ?_
    refine lv_iload hx hb dL_law_124 (lv_at hl 4 rfl) ?_
    refine lv_iconst (v := 4) hx hb dL_law_126 (by decide) ?_
    refine lv_iadd hx hb dL_law_127 ?_
    refine zb_ti (nI_add (1 + 5 * j) 4) ?_
    refine va_sld (i := nI ((1 + 5 * j) + 4)) hx hb hX hbl hbA hS (vp_in_nI (by omega) (by omega)) dL_law_128 ?_
    refine zb_ti (y := nI hg) (by rw [nI_clamp (by omega)]; exact e_hg) ?_
    refine lv_aload_n hx hb dL_law_129 rfl (lv_at hl 3 rfl) ?_
    have hP := wP_132 hP
    have hD := wD_132 hD
    refine zb_cviA (w0 := cw a cA N f ob tr nd ++ [(oo, .inl (cJ, 1, .inr (.inl fo)))]) (wr := rw0 b cA cJ N f (ro z ob) t nd q sg th) (zb_runSW (n := 6) (mc := 1) (ms := 6) (As := [.ref (a 0), .int fid, .int ln, .int (nI lo), .int (nI hg), .ref oo]) (rest := []) ⟨hx, hb, hml, hown, htb⟩ (l_frameNo l D a cA cJ N f ob tr nd oo fo _ fid ln lo hg hfl hbad) (wb_gd kD_L_frame) rfl rfl rfl (htb _ kN_L) (htb _ kM_L_42) (htb _ kZ_L_frame) (by decide +kernel) ⟨Nat.le_of_ble_eq_true rfl, Nat.le_of_ble_eq_true rfl⟩ (zp_SH (wP_l hP) (wD_l hD) hK hSt hS hA hnw htw) rfl rfl hl.1 rfl (lv_room (Nat.le_of_ble_eq_true rfl)) dL_law_130 ⟨by have h9 : room_1.cells = 1049 := rfl; omega, by have h9 : room_1.slots = 8836 := rfl; omega⟩) hP hD hS hA (fun H locs hP hD hS => ?_)
    have hP := wP_123 hP
    have hD := wD_123 hD
    have hP : va_P D vwCl (cw a cA N f ob tr nd ++ (rw0 b cA cJ N f (ro z ob) t nd q sg th ++ [(oo, .inl (cJ, 1, .inr (.inl fo)))])) H := hP
    have hD : va_D A (cw a cA N f ob tr nd ++ (rw0 b cA cJ N f (ro z ob) t nd q sg th ++ [(oo, .inl (cJ, 1, .inr (.inl fo)))])) := hD
    refine lv_istore hx hb dL_law_133 hl (by decide) rfl (fun ls hl => ?_)
    have hl : lv_has ls 7 [(5, .int 1), (0, .ref sb), (1, .ref (a 0)), (2, .ref (b 0)), (3, .ref oo), (4, .int (nI (1 + 5 * j)))] := hl
    refine lv_aload_n hx hb dL_law_135 rfl (lv_at hl 3 rfl) ?_
    refine lv_aload_n hx hb dL_law_136 rfl (lv_at hl 1 rfl) ?_
    refine lv_iload hx hb dL_law_137 (lv_at hl 5 rfl) ?_
    refine lv_iconst (v := 1) hx hb dL_law_139 (by decide) ?_
    refine lv_iadd hx hb dL_law_140 ?_
    refine zb_ti (nI_add (1 + 5 * j) 1) ?_
    refine va_sld (i := nI ((1 + 5 * j) + 1)) hx hb hX hbl hbA hS (vp_in_nI (by omega) (by omega)) dL_law_141 ?_
    refine zb_ti (y := fid) (by rw [nI_clamp (by omega)]; exact e_fid) ?_
    refine lv_aload_n hx hb dL_law_142 rfl (lv_at hl 1 rfl) ?_
    refine lv_iload hx hb dL_law_143 (lv_at hl 5 rfl) ?_
    refine lv_iconst (v := 2) hx hb dL_law_145 (by decide) ?_
    refine lv_iadd hx hb dL_law_146 ?_
    refine zb_ti (nI_add (1 + 5 * j) 2) ?_
    refine va_sld (i := nI ((1 + 5 * j) + 2)) hx hb hX hbl hbA hS (vp_in_nI (by omega) (by omega)) dL_law_147 ?_
    refine zb_ti (y := ln) (by rw [nI_clamp (by omega)]; exact e_ln) ?_
    refine lv_aload_n hx hb dL_law_148 rfl (lv_at hl 1 rfl) ?_
    refine lv_iload hx hb dL_law_149 (lv_at hl 5 rfl) ?_
    refine lv_iconst (v := 3) hx hb dL_law_151 (by decide) ?_
    refine lv_iadd hx hb dL_law_152 ?_
    refine zb_ti (nI_add (1 + 5 * j) 3) ?_
    refine va_sld (i := nI ((1 + 5 * j) + 3)) hx hb hX hbl hbA hS (vp_in_nI (by omega) (by omega)) dL_law_153 ?_
    refine zb_ti (y := nI lo) (by rw [nI_clamp (by omega)]; exact e_lo) ?_
    refine lv_aload_n hx hb dL_law_154 rfl (lv_at hl 1 rfl) ?_
    refine lv_iload hx hb dL_law_155 (lv_at hl 5 rfl) ?_
    refine lv_iconst (v := 4) hx hb dL_law_157 (by decide) ?_
    refine lv_iadd hx hb dL_law_158 ?_
    refine zb_ti (nI_add (1 + 5 * j) 4) ?_
    refine va_sld (i := nI ((1 + 5 * j) + 4)) hx hb hX hbl hbA hS (vp_in_nI (by omega) (by omega)) dL_law_159 ?_
    refine zb_ti (y := nI hg) (by rw [nI_clamp (by omega)]; exact e_hg) ?_
    have hP := wP_213 hP
    have hD := wD_213 hD
    refine zb_cviA (w0 := rw0 b cA cJ N f (ro z ob) t nd q sg th) (wr := cw a cA N f ob tr nd ++ [(oo, .inl (cJ, 1, .inr (.inl fo)))]) (va_runV (As := [.int fid, .int ln, .int (nI lo), .int (nI hg)]) (rest := []) ⟨hx, hb, hml, hown, htb⟩ (r_frameNo l D b cA cJ N f z ob t nd q sg th _ fid ln (nI lo) (nI hg) hbad) (cwV 4 htb (wb_V kM_L_45 kI_X5_frame kS_X5_frame kN_X5 kD_X5_frame) rfl rfl rfl (by decide +kernel) ⟨Nat.le_of_ble_eq_true rfl, Nat.le_of_ble_eq_true rfl⟩) (zp_VW 0 rfl rfl (wP_l hP) (wD_l hD) hK hSt hS hA hnw) rfl rfl hl.1 rfl (lv_room (Nat.le_of_ble_eq_true rfl)) dL_law_160 ⟨by have h9 : room_1.cells = 1049 := rfl; omega, by have h9 : room_1.slots = 8836 := rfl; omega⟩) hP hD hS hA (fun H locs hP hD hS => ?_)
    have hP := wP_213 hP
    have hD := wD_213 hD
    have hP : va_P D vwCl (cw a cA N f ob tr nd ++ (rw0 b cA cJ N f (ro z ob) t nd q sg 1 ++ [(oo, .inl (cJ, 1, .inr (.inl fo)))])) H := hP
    have hD : va_D A (cw a cA N f ob tr nd ++ (rw0 b cA cJ N f (ro z ob) t nd q sg 1 ++ [(oo, .inl (cJ, 1, .inr (.inl fo)))])) := hD
    refine lv_istore hx hb dL_law_163 hl (by decide) rfl (fun ls hl => ?_)
    have hl : lv_has ls 7 [(6, .int 0), (5, .int 1), (0, .ref sb), (1, .ref (a 0)), (2, .ref (b 0)), (3, .ref oo), (4, .int (nI (1 + 5 * j)))] := hl
    refine lv_aload_n hx hb dL_law_165 rfl (lv_at hl 4 rfl) ?_
    refine zb_ci (va_runV (As := []) (rest := []) ⟨hx, hb, hml, hown, htb⟩ (r_thrown l D b cA cJ N f (ro z ob) t nd q sg 1) (cwV 0 htb (wb_V kM_L_46 kI_X5_thrown kS_X5_thrown kN_X5 kD_X5_thrown) rfl rfl rfl (by decide +kernel) ⟨Nat.le_of_ble_eq_true rfl, Nat.le_of_ble_eq_true rfl⟩) (zp_V 0 rfl rfl (wP_l (wP_r hP)) hK hSt hS hnw) rfl rfl hl.1 rfl (lv_room (Nat.le_of_ble_eq_true rfl)) dL_law_166 ⟨by have h9 : room_1.cells = 1049 := rfl; omega, by have h9 : room_1.slots = 8836 := rfl; omega⟩) ?_
    refine lv_iload hx hb dL_law_169 (lv_at hl 1 rfl) ?_
    refine lv_icmp_eq (tgt := 176) hx hb dL_law_171 (by decide) (fun _ => ?_) (fun hno => absurd (by decide) hno)
    refine lv_iload hx hb dL_law_176 (lv_at hl 1 rfl) ?_
    refine lv_if_ne (tgt := 193) hx hb dL_law_178 (by decide) (fun _ => ?_) (fun hno => absurd hno (by decide))
    refine lv_goto (tgt := 538) hx hb dL_law_193 (by decide) ?_
    refine lv_iinc (k := 6) (v := nI (1 + 5 * (j + 1))) hx hb dL_law_538 hl rfl (by rw [show Int32.ofInt 5 = nI 5 from rfl, nI_add]; exact congrArg nI (by omega)) (by decide) rfl (fun ls hl => ?_)
    have hl : lv_has ls 7 [(4, .int (nI (1 + 5 * (j + 1)))), (6, .int 0), (5, .int 1), (0, .ref sb), (1, .ref (a 0)), (2, .ref (b 0)), (3, .ref oo)] := hl
    refine lv_goto (tgt := 33) hx hb dL_law_541 (by decide) ?_
    refine W.widen (k := 21 + (j + 1)) (n := 620 + 6 * (j + 1)) (by omega) (by omega) ?_
    exact ih (j + 1) ls H locs f ob tr nd t z q sg 1 fo (by omega) (by omega) hI hR hP hD hS (lv_sub hl [3, 4, 5, 6, 0] rfl)
  have hf0 : ¬ fid < 0 := fun h => hbad (Or.inl h)
  have hf1 : ¬ 2047 < fid := fun h => hbad (Or.inr (Or.inl h))
  have hl0 : ¬ ln < 0 := fun h => hbad (Or.inr (Or.inr (Or.inl h)))
  have hl8 : ln ≤ 8 := Int32.not_lt.mp (fun h => hbad (Or.inr (Or.inr (Or.inr h))))
  refine lv_aload_n hx hb dL_law_104 rfl (lv_at hl 1 rfl) ?_
  refine lv_aload_n hx hb dL_law_105 rfl (lv_at hl 0 rfl) ?_
  refine lv_iload hx hb dL_law_106 (lv_at hl 4 rfl) ?_
  refine lv_iconst (v := 1) hx hb dL_law_108 (by decide) ?_
  refine lv_iadd hx hb dL_law_109 ?_
  refine zb_ti (nI_add (1 + 5 * j) 1) ?_
  refine va_sld (i := nI ((1 + 5 * j) + 1)) hx hb hX hbl hbA hS (vp_in_nI (by omega) (by omega)) dL_law_110 ?_
  refine zb_ti (y := fid) (by rw [nI_clamp (by omega)]; exact e_fid) ?_
  refine lv_aload_n hx hb dL_law_111 rfl (lv_at hl 0 rfl) ?_
  refine lv_iload hx hb dL_law_112 (lv_at hl 4 rfl) ?_
  refine lv_iconst (v := 2) hx hb dL_law_114 (by decide) ?_
  refine lv_iadd hx hb dL_law_115 ?_
  refine zb_ti (nI_add (1 + 5 * j) 2) ?_
  refine va_sld (i := nI ((1 + 5 * j) + 2)) hx hb hX hbl hbA hS (vp_in_nI (by omega) (by omega)) dL_law_116 ?_
  refine zb_ti (y := ln) (by rw [nI_clamp (by omega)]; exact e_ln) ?_
  refine lv_aload_n hx hb dL_law_117 rfl (lv_at hl 0 rfl) ?_
  refine lv_iload hx hb dL_law_118 (lv_at hl 4 rfl) ?_
  refine lv_iconst (v := 3) hx hb dL_law_120 (by decide) ?_
  refine lv_iadd hx hb dL_law_121 ?_
  refine zb_ti (nI_add (1 + 5 * j) 3) ?_
  refine va_sld (i := nI ((1 + 5 * j) + 3)) hx hb hX hbl hbA hS (vp_in_nI (by omega) (by omega)) dL_law_122 ?_
  refine zb_ti (y := nI lo) (by rw [nI_clamp (by omega)]; exact e_lo) ?_
  refine lv_aload_n hx hb dL_law_123 rfl (lv_at hl 0 rfl) ?_
  refine lv_iload hx hb dL_law_124 (lv_at hl 4 rfl) ?_
  refine lv_iconst (v := 4) hx hb dL_law_126 (by decide) ?_
  refine lv_iadd hx hb dL_law_127 ?_
  refine zb_ti (nI_add (1 + 5 * j) 4) ?_
  refine va_sld (i := nI ((1 + 5 * j) + 4)) hx hb hX hbl hbA hS (vp_in_nI (by omega) (by omega)) dL_law_128 ?_
  refine zb_ti (y := nI hg) (by rw [nI_clamp (by omega)]; exact e_hg) ?_
  refine lv_aload_n hx hb dL_law_129 rfl (lv_at hl 3 rfl) ?_
  have hP := wP_132 hP
  have hD := wD_132 hD
  refine zb_cviA (w0 := cw a cA N f ob tr nd ++ [(oo, .inl (cJ, 1, .inr (.inl fo)))]) (wr := rw0 b cA cJ N f (ro z ob) t nd q sg th) (zb_runSW (n := 6) (mc := 0) (ms := 0) (As := [.ref (a 0), .int fid, .int ln, .int (nI lo), .int (nI hg), .ref oo]) (rest := []) ⟨hx, hb, hml, hown, htb⟩ (l_frame l D a cA cJ N f ob tr nd oo fo _ fid ln lo hg e0 d0 ad0 hB hT hG ho hBh0 h_lo h_hg he0 hen hdn hd0 hada had0 h8 hI2.1.1 hI2.1.2.2 hI2.2.1 hf0 hf1 hl0 hl8) (wb_gd kD_L_frame) rfl rfl rfl (htb _ kN_L) (htb _ kM_L_42) (htb _ kZ_L_frame) (by decide +kernel) ⟨Nat.le_of_ble_eq_true rfl, Nat.le_of_ble_eq_true rfl⟩ (zp_SW (wP_l hP) (wD_l hD) hK hSt hS hA hnw) rfl rfl hl.1 rfl (lv_room (Nat.le_of_ble_eq_true rfl)) dL_law_130 ⟨by have h9 : room_1.cells = 1049 := rfl; omega, by have h9 : room_1.slots = 8836 := rfl; omega⟩) hP hD hS hA (fun H locs hP hD hS => ?_)
  have hP := wP_123 hP
  have hD := wD_123 hD
  have hP : va_P D vwCl (cw a cA N ((kEnd N (kMid N f ob tr nd fid ln lo hg e0 d0 ad0)).1) ((kEnd N (kMid N f ob tr nd fid ln lo hg e0 d0 ad0)).2.1) ((kEnd N (kMid N f ob tr nd fid ln lo hg e0 d0 ad0)).2.2.1) ((kEnd N (kMid N f ob tr nd fid ln lo hg e0 d0 ad0)).2.2.2) ++ (rw0 b cA cJ N f (ro z ob) t nd q sg th ++ [(oo, .inl (cJ, 1, .inr (.inl (vp_updL fo 0 ((kEnd N (kMid N f ob tr nd fid ln lo hg e0 d0 ad0)).2.1.2.2 - ob.2.2).toInt64))))])) H := hP
  have hD : va_D A (cw a cA N ((kEnd N (kMid N f ob tr nd fid ln lo hg e0 d0 ad0)).1) ((kEnd N (kMid N f ob tr nd fid ln lo hg e0 d0 ad0)).2.1) ((kEnd N (kMid N f ob tr nd fid ln lo hg e0 d0 ad0)).2.2.1) ((kEnd N (kMid N f ob tr nd fid ln lo hg e0 d0 ad0)).2.2.2) ++ (rw0 b cA cJ N f (ro z ob) t nd q sg th ++ [(oo, .inl (cJ, 1, .inr (.inl (vp_updL fo 0 ((kEnd N (kMid N f ob tr nd fid ln lo hg e0 d0 ad0)).2.1.2.2 - ob.2.2).toInt64))))])) := hD
  refine lv_istore hx hb dL_law_133 hl (by decide) rfl (fun ls hl => ?_)
  have hl : lv_has ls 7 [(5, .int 0), (0, .ref sb), (1, .ref (a 0)), (2, .ref (b 0)), (3, .ref oo), (4, .int (nI (1 + 5 * j)))] := hl
  refine lv_aload_n hx hb dL_law_135 rfl (lv_at hl 3 rfl) ?_
  refine lv_aload_n hx hb dL_law_136 rfl (lv_at hl 1 rfl) ?_
  refine lv_iload hx hb dL_law_137 (lv_at hl 5 rfl) ?_
  refine lv_iconst (v := 1) hx hb dL_law_139 (by decide) ?_
  refine lv_iadd hx hb dL_law_140 ?_
  refine zb_ti (nI_add (1 + 5 * j) 1) ?_
  refine va_sld (i := nI ((1 + 5 * j) + 1)) hx hb hX hbl hbA hS (vp_in_nI (by omega) (by omega)) dL_law_141 ?_
  refine zb_ti (y := fid) (by rw [nI_clamp (by omega)]; exact e_fid) ?_
  refine lv_aload_n hx hb dL_law_142 rfl (lv_at hl 1 rfl) ?_
  refine lv_iload hx hb dL_law_143 (lv_at hl 5 rfl) ?_
  refine lv_iconst (v := 2) hx hb dL_law_145 (by decide) ?_
  refine lv_iadd hx hb dL_law_146 ?_
  refine zb_ti (nI_add (1 + 5 * j) 2) ?_
  refine va_sld (i := nI ((1 + 5 * j) + 2)) hx hb hX hbl hbA hS (vp_in_nI (by omega) (by omega)) dL_law_147 ?_
  refine zb_ti (y := ln) (by rw [nI_clamp (by omega)]; exact e_ln) ?_
  refine lv_aload_n hx hb dL_law_148 rfl (lv_at hl 1 rfl) ?_
  refine lv_iload hx hb dL_law_149 (lv_at hl 5 rfl) ?_
  refine lv_iconst (v := 3) hx hb dL_law_151 (by decide) ?_
  refine lv_iadd hx hb dL_law_152 ?_
  refine zb_ti (nI_add (1 + 5 * j) 3) ?_
  refine va_sld (i := nI ((1 + 5 * j) + 3)) hx hb hX hbl hbA hS (vp_in_nI (by omega) (by omega)) dL_law_153 ?_
  refine zb_ti (y := nI lo) (by rw [nI_clamp (by omega)]; exact e_lo) ?_
  refine lv_aload_n hx hb dL_law_154 rfl (lv_at hl 1 rfl) ?_
  refine lv_iload hx hb dL_law_155 (lv_at hl 5 rfl) ?_
  refine lv_iconst (v := 4) hx hb dL_law_157 (by decide) ?_
  refine lv_iadd hx hb dL_law_158 ?_
  refine zb_ti (nI_add (1 + 5 * j) 4) ?_
  refine va_sld (i := nI ((1 + 5 * j) + 4)) hx hb hX hbl hbA hS (vp_in_nI (by omega) (by omega)) dL_law_159 ?_
  refine zb_ti (y := nI hg) (by rw [nI_clamp (by omega)]; exact e_hg) ?_
  have hP := wP_213 hP
  have hD := wD_213 hD
  refine zb_ceiA (w0 := rw0 b cA cJ N f (ro z ob) t nd q sg th) (wr := cw a cA N ((kEnd N (kMid N f ob tr nd fid ln lo hg e0 d0 ad0)).1) ((kEnd N (kMid N f ob tr nd fid ln lo hg e0 d0 ad0)).2.1) ((kEnd N (kMid N f ob tr nd fid ln lo hg e0 d0 ad0)).2.2.1) ((kEnd N (kMid N f ob tr nd fid ln lo hg e0 d0 ad0)).2.2.2) ++ [(oo, .inl (cJ, 1, .inr (.inl (vp_updL fo 0 ((kEnd N (kMid N f ob tr nd fid ln lo hg e0 d0 ad0)).2.1.2.2 - ob.2.2).toInt64))))]) (va_runV (As := [.int fid, .int ln, .int (nI lo), .int (nI hg)]) (rest := []) ⟨hx, hb, hml, hown, htb⟩ (r_frame l D b cA cJ N f z ob t nd q sg th _ tr fid ln lo hg e0 d0 ad0 n hB hG hT hBh ho h_lo h_hg hN hrel hNn hn1 hn15 hI2.1.1 hI2.1.2.2 hI2.2.1 hf0 hf1 hl0 hl8) (cwV 4 htb (wb_V kM_L_45 kI_X5_frame kS_X5_frame kN_X5 kD_X5_frame) rfl rfl rfl (by decide +kernel) ⟨Nat.le_of_ble_eq_true rfl, Nat.le_of_ble_eq_true rfl⟩) (zp_VW 0 rfl rfl (wP_l hP) (wD_l hD) hK hSt hS hA hnw) rfl rfl hl.1 rfl (lv_room (Nat.le_of_ble_eq_true rfl)) dL_law_160 ⟨by have h9 : room_1.cells = 1049 := rfl; omega, by have h9 : room_1.slots = 8836 := rfl; omega⟩) hP hD hS hA (fun y2 hy2 H locs hP hD hS => ?_)
  have hP := wP_213 hP
  have hD := wD_213 hD
  have hP : va_P D vwCl (cw a cA N ((kEnd N (kMid N f ob tr nd fid ln lo hg e0 d0 ad0)).1) ((kEnd N (kMid N f ob tr nd fid ln lo hg e0 d0 ad0)).2.1) ((kEnd N (kMid N f ob tr nd fid ln lo hg e0 d0 ad0)).2.2.1) ((kEnd N (kMid N f ob tr nd fid ln lo hg e0 d0 ad0)).2.2.2) ++ (rw0 b cA cJ N ((kEnd N (kMid N f ob tr nd fid ln lo hg e0 d0 ad0)).1) (ro ob.2.2 ((kEnd N (kMid N f ob tr nd fid ln lo hg e0 d0 ad0)).2.1)) y2.1 ((kEnd N (kMid N f ob tr nd fid ln lo hg e0 d0 ad0)).2.2.2) y2.2.1 y2.2.2 0 ++ [(oo, .inl (cJ, 1, .inr (.inl (vp_updL fo 0 ((kEnd N (kMid N f ob tr nd fid ln lo hg e0 d0 ad0)).2.1.2.2 - ob.2.2).toInt64))))])) H := hP
  have hD : va_D A (cw a cA N ((kEnd N (kMid N f ob tr nd fid ln lo hg e0 d0 ad0)).1) ((kEnd N (kMid N f ob tr nd fid ln lo hg e0 d0 ad0)).2.1) ((kEnd N (kMid N f ob tr nd fid ln lo hg e0 d0 ad0)).2.2.1) ((kEnd N (kMid N f ob tr nd fid ln lo hg e0 d0 ad0)).2.2.2) ++ (rw0 b cA cJ N ((kEnd N (kMid N f ob tr nd fid ln lo hg e0 d0 ad0)).1) (ro ob.2.2 ((kEnd N (kMid N f ob tr nd fid ln lo hg e0 d0 ad0)).2.1)) y2.1 ((kEnd N (kMid N f ob tr nd fid ln lo hg e0 d0 ad0)).2.2.2) y2.2.1 y2.2.2 0 ++ [(oo, .inl (cJ, 1, .inr (.inl (vp_updL fo 0 ((kEnd N (kMid N f ob tr nd fid ln lo hg e0 d0 ad0)).2.1.2.2 - ob.2.2).toInt64))))])) := hD
  refine lv_istore hx hb dL_law_163 hl (by decide) rfl (fun ls hl => ?_)
  have hl : lv_has ls 7 [(6, .int ((kEnd N (kMid N f ob tr nd fid ln lo hg e0 d0 ad0)).2.1.2.2 - ob.2.2)), (5, .int 0), (0, .ref sb), (1, .ref (a 0)), (2, .ref (b 0)), (3, .ref oo), (4, .int (nI (1 + 5 * j)))] := hl
  refine lv_aload_n hx hb dL_law_165 rfl (lv_at hl 4 rfl) ?_
  refine zb_ci (va_runV (As := []) (rest := []) ⟨hx, hb, hml, hown, htb⟩ (r_thrown l D b cA cJ N ((kEnd N (kMid N f ob tr nd fid ln lo hg e0 d0 ad0)).1) (ro ob.2.2 ((kEnd N (kMid N f ob tr nd fid ln lo hg e0 d0 ad0)).2.1)) y2.1 ((kEnd N (kMid N f ob tr nd fid ln lo hg e0 d0 ad0)).2.2.2) y2.2.1 y2.2.2 0) (cwV 0 htb (wb_V kM_L_46 kI_X5_thrown kS_X5_thrown kN_X5 kD_X5_thrown) rfl rfl rfl (by decide +kernel) ⟨Nat.le_of_ble_eq_true rfl, Nat.le_of_ble_eq_true rfl⟩) (zp_V 0 rfl rfl (wP_l (wP_r hP)) hK hSt hS hnw) rfl rfl hl.1 rfl (lv_room (Nat.le_of_ble_eq_true rfl)) dL_law_166 ⟨by have h9 : room_1.cells = 1049 := rfl; omega, by have h9 : room_1.slots = 8836 := rfl; omega⟩) ?_
  refine lv_iload hx hb dL_law_169 (lv_at hl 1 rfl) ?_
  refine lv_icmp_eq (tgt := 176) hx hb dL_law_171 (by decide) (fun _ => ?_) (fun hno => absurd (by decide) hno)
  refine lv_iload hx hb dL_law_176 (lv_at hl 1 rfl) ?_
  refine lv_if_ne (tgt := 193) hx hb dL_law_178 (by decide) (fun hno => absurd (by decide) hno) (fun _ => ?_)
  refine lv_aload_n hx hb dL_law_181 rfl (lv_at hl 5 rfl) ?_
  refine lv_iconst (v := 0) hx hb dL_law_182 (by decide) ?_
  refine va_lald (i := nI 0) hx hb hK hP 20 1 rfl rfl (vp_in_nI (by decide) (by decide)) dL_law_183 ?_
  refine zb_tl (y := ((kEnd N (kMid N f ob tr nd fid ln lo hg e0 d0 ad0)).2.1.2.2 - ob.2.2).toInt64) rfl ?_
  refine lv_iload hx hb dL_law_184 (lv_at hl 0 rfl) ?_
  refine lv_i2l hx hb dL_law_186 rfl ?_
  refine W.lcmp hx hb dL_law_187 ?_
  refine zb_ti (y := 0) ((lg_cmp_eq _ _).mpr rfl) ?_
  refine lv_if_eq (tgt := 193) hx hb dL_law_188 (by decide) (fun _ => ?_) (fun hno => absurd (by decide) hno)
  refine lv_goto (tgt := 538) hx hb dL_law_193 (by decide) ?_
  refine lv_iinc (k := 6) (v := nI (1 + 5 * (j + 1))) hx hb dL_law_538 hl rfl (by rw [show Int32.ofInt 5 = nI 5 from rfl, nI_add]; exact congrArg nI (by omega)) (by decide) rfl (fun ls hl => ?_)
  have hl : lv_has ls 7 [(4, .int (nI (1 + 5 * (j + 1)))), (6, .int ((kEnd N (kMid N f ob tr nd fid ln lo hg e0 d0 ad0)).2.1.2.2 - ob.2.2)), (5, .int 0), (0, .ref sb), (1, .ref (a 0)), (2, .ref (b 0)), (3, .ref oo)] := hl
  refine lv_goto (tgt := 33) hx hb dL_law_541 (by decide) ?_
  refine W.widen (k := 21 + (j + 1)) (n := 620 + 6 * (j + 1)) (by omega) (by omega) ?_
  exact ih (j + 1) ls H locs ((kEnd N (kMid N f ob tr nd fid ln lo hg e0 d0 ad0)).1) ((kEnd N (kMid N f ob tr nd fid ln lo hg e0 d0 ad0)).2.1) ((kEnd N (kMid N f ob tr nd fid ln lo hg e0 d0 ad0)).2.2.1) ((kEnd N (kMid N f ob tr nd fid ln lo hg e0 d0 ad0)).2.2.2) y2.1 ob.2.2 y2.2.1 y2.2.2 0 (vp_updL fo 0 ((kEnd N (kMid N f ob tr nd fid ln lo hg e0 d0 ad0)).2.1.2.2 - ob.2.2).toInt64) (by omega) (by omega) (I0_end hI2) hy2 hP hD hS (lv_sub hl [3, 4, 5, 6, 0] rfl)
