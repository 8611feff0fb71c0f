-- a stretch of bytes grows by one; a byte of a long; a stretch is written byte by byte
theorem sm_or {f : Nat → Int32} (h : isB f) {s k : Nat} (hk : k < 8) : lN (sm f s k) ||| (f (s + k)).toInt64 <<< ((nI (8 * k)).toInt64 &&& 63) = lN (sm f s (k + 1)) := by
  obtain ⟨h1, h2⟩ := bv_of h (s + k)
  have h3 := sm_lt h s k
  have h4 := sm_lt h s (k + 1)
  have h5 : 2 ^ (8 * (k + 1)) ≤ 2 ^ 64 := Nat.pow_le_pow_right (by decide) (by omega)
  rw [h2, nI_l (by omega), wb_shl _ (by omega), g_or' rfl h3 (by simp only [sm] at h4; omega)]
  rfl
theorem and255 (n : Nat) : nI n &&& 255 = nI (n % 256) := by
  rw [pk_and (nI n) (m := 255) 8 (by decide)]
  have h : (nI n).toBitVec.toNat = n % 2 ^ 32 := by
    show (BitVec.ofNat 32 n).toNat = _
    rw [BitVec.toNat_ofNat]
  rw [h]
  congr 1
  omega
theorem put_b {x k : Nat} (hx : x < 2 ^ 64) (hk : k < 8) : ((lN x).toUInt64 >>> ((nI (8 * k)).toInt64.toUInt64 &&& Int64.toUInt64 63)).toInt64.toInt32 &&& 255 = nI (bN x k) := by
  rw [wb_shr hx (by omega), lN_i, and255]
  rfl
theorem pF_up (f : Nat → Int32) (s k x j : Nat) : upd (pF f s k x j) (s + k) (nI (bN x (j + k))) = pF f s (k + 1) x j := by
  funext z
  unfold upd pF
  by_cases h : z = s + k
  · subst h
    rw [if_pos rfl, if_pos ⟨by omega, by omega⟩]
    congr 2
    omega
  · rw [if_neg h]
    by_cases h2 : s ≤ z ∧ z < s + k
    · rw [if_pos h2, if_pos ⟨h2.1, by omega⟩]
    · rw [if_neg h2, if_neg (by omega)]
theorem pF_0 (f : Nat → Int32) (s x j : Nat) : pF f s 0 x j = f := by
  funext z
  unfold pF
  rw [if_neg (by omega)]
section ZCT
variable {p : Program} {l : Launch} {e : Env} {R : Room} {s : State} {m : MethodId} {args : Array Value} {below : List Frame} {meth : Method} {c : Code} {H : Heap} {locs : List Loc} {cells slots : Nat} {Q : State → Prop}
variable {pc : Nat} {ls : Array Slot} {rest : List Value} {D : va_G} {cl : List vw_C} {A : Nat → Prop} {a : Nat} {tys : List (ClassId × FieldType)} {ws : va_W}
/-- System.arraycopy out of a static table that nobody writes -/
theorem zb_copyT {cc : ByteArray} (hexec : p.tables.exec = Jvm.exec) (hb : c.code = cc) (hml : c.maxLocals = ls.size) {own : String} {index : Nat} (hown : s.vm.findClass own = some m.cls) (hlink : (Cond.methodLink own index arraycopyName).before args s = true) (hnat : (Cond.native arraycopyName).before args s = true) (hstat : (Cond.static arraycopyName).before args s = true) (hini : (Cond.initialized "java/lang/System").before args s = true)
    (hK : va_K D cl tys s) (hP : va_P D cl ws H) (hD : va_D A ws) (hS : va_S A s.heap H locs) {b0 n0 : Nat} {f : Nat → Int32} (hT0 : va_T .int b0 n0 (fun j => .int (f j)) A s s.heap) (q1 t1 : Nat) {c1 : ClassId} {n1 : Nat} {g : Nat → Int32} (ha1 : ws[q1]? = some (a, .inl (c1, n1, .inl g))) (ht1 : tys[t1]? = some (c1, .int))
    {k : Nat} (hk0 : k ≤ n0) (hk1 : k ≤ n1) (hk2 : k < 2 ^ 31)
    (hframes : 1 ≤ R.frames) (hlocals : (rest.map fun v => v.category).sum + (nativeFrameWords "java/lang/System" "arraycopy" 5 + 11) ≤ R.locals) (hdg : decode cc pc = .ok (.invokestatic index, 3))
    (kk : ∀ (H1 : Heap) (locs1 : List Loc), va_P D cl (ws.set q1 (a, .inl (c1, n1, .inl (va_cpy f g 0 0 k)))) H1 → va_D A (ws.set q1 (a, .inl (c1, n1, .inl (va_cpy f g 0 0 k)))) → va_S A s.heap H1 locs1 → W p l e R s m args below meth c H1 locs1 cells slots Q (F0 m (pc + 3) ls rest)) : W p l e R s m args below meth c H locs cells slots Q (F0 m pc ls (.int (nI k) :: .int 0 :: .ref a :: .int 0 :: .ref b0 :: rest)) := by
  intro T hT X
  obtain ⟨scr, t1', t2, t3, t4, -, t6, t7⟩ := hT0
  have z0 : (0 : Int32).toNatClampNeg = 0 := sb_cl0
  have zk : (nI k).toNatClampNeg = k := nI_clamp hk2
  have ik : (nI k).toInt = (k : Int) := nI_toInt hk2
  have hc0 : H[b0]? = some scr := by rw [hS.2.1 b0 (Array.getElem?_eq_some_iff.mp t1').1 t7]; exact t1'
  have hc1 : H[a]? = some (vp_cell c1 (n1, .inl g)) := hP q1 _ ha1
  obtain ⟨u1, k0, u2, cm0, u3⟩ := t2
  obtain ⟨-, k1, v1, cm1, v2⟩ := (hK.2 t1 _ ht1).1 n1 (fun j => .int (g j))
  obtain ⟨vm', X', step⟩ := X.arraycopy hexec hown hlink hnat hstat hini (src := b0) (dst := a) (cs := scr) (cd := vp_cell c1 (n1, .inl g)) (srcPos := 0) (destPos := 0) (n := nI k) (by rw [hT]; exact hc0) (by rw [hT]; exact hc1)
    u1 (fun _ h => by cases h) t3 (fun h => by cases h) u2 v1 u3 v2 (by simp [refKind]) (by decide) (by decide) (nI_pos hk2)
    (by rw [ik]; show ¬ (0 : Int) + (k : Int) > _; omega)
    (by rw [ik]; show ¬ (0 : Int) + (k : Int) > ((arrV c1 n1 (fun j => .int (g j))).slots.size : Int); rw [arrV_size]; omega)
    (fun vm₁ _ i hi => by
      rw [zk] at hi
      have e : scr.slots.getD ((0 : Int32).toNatClampNeg + i) .null = .int (f i) := by
        rw [Array.getD_eq_getD_getElem?, z0, Nat.zero_add, t6 _ (by omega)]
        rfl
      rw [e]
      exact ⟨rfl, trivial⟩)
    (g := F0 m pc ls (.int (nI k) :: .int 0 :: .ref a :: .int 0 :: .ref b0 :: rest)) rfl (by rw [hml]) (rest := rest) rfl (by rw [hb]; exact hdg) hframes (by show 2 * 0 + _ + _ ≤ _; omega)
  have e1 : copied scr (vp_cell c1 (n1, .inl g)) 0 0 (nI k) = vp_cell c1 (n1, .inl (va_cpy f g 0 0 k)) := by
    have := va_copiedX (sp := 0) (dp := 0) (n := k) (fun z => .int z) scr c1 f g (fun j hj => t6 j hj) (n1 := n1) (by omega)
    unfold copied
    rw [z0, zk]
    exact this
  rw [e1] at X' step
  have hl : a < H.size := (Array.getElem?_eq_some_iff.mp hc1).1
  have hheap : ((T.setVm vm').setCell a (vp_cell c1 (n1, .inl (va_cpy f g 0 0 k)))).heap = H.setIfInBounds a (vp_cell c1 (n1, .inl (va_cpy f g 0 0 k))) := by rw [← hT]; rfl
  have oq : ∀ q : Nat, q ≠ a → (H.setIfInBounds a (vp_cell c1 (n1, .inl (va_cpy f g 0 0 k))))[q]? = H[q]? := fun q hq => by simp [Array.getElem?_setIfInBounds, Ne.symm hq]
  obtain ⟨t, a1, b1⟩ := kk _ _ (hP.set hD ha1 (show (H.setIfInBounds a _)[a]? = some _ by simp [Array.getElem?_setIfInBounds, hl]) oq) (hD.set ha1) ⟨by simp; exact hS.1, fun q g1 g2 => by
      rw [oq q (fun e => g2 (by rw [e]; exact hD.2 q1 _ ha1))]
      exact hS.2.1 q g1 g2, fun q hq => by
      rcases List.mem_append.mp hq with h | h
      · exact hS.2.2 q h
      · obtain ⟨z, -, hz⟩ := List.mem_map.mp h
        rw [← hz]
        exact hD.2 q1 _ ha1⟩ _ hheap X'
  exact ⟨t, step t a1, b1⟩
end ZCT
