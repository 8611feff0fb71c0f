-- numbers of four bytes; what the maps' recursions give
theorem nI_or (a b : Nat) : nI a ||| nI b = nI (a ||| b) := by
  apply Int32.toBitVec_inj.1
  show BitVec.ofNat 32 a ||| BitVec.ofNat 32 b = BitVec.ofNat 32 (a ||| b)
  apply BitVec.eq_of_getLsbD_eq
  intro i hi
  simp [hi]
theorem nI_orS {k a b : Nat} (ha : a < 2 ^ k) : nI a ||| nI (b * 2 ^ k) = nI (a + b * 2 ^ k) := by
  rw [nI_or]
  congr 1
  have h := Nat.shiftLeft_add_eq_or_of_lt ha b
  rw [Nat.shiftLeft_eq] at h
  rw [Nat.or_comm, ← h, Nat.add_comm]
theorem sh31 : ∀ k, k < 4 → ((nI (8 * k) &&& 31).toBitVec.smod 32).toNat = 8 * k := by decide +kernel
theorem sm_orI {f : Nat → Int32} (h : isB f) {s k : Nat} (hk : k < 4) : nI (sm f s k) ||| f (s + k) <<< (nI (8 * k) &&& 31) = nI (sm f s (k + 1)) := by
  obtain ⟨h1, h2⟩ := bv_of h (s + k)
  have h3 := sm_lt h s k
  have h4 : bv f (s + k) * 2 ^ (8 * k) < 2 ^ 32 := by
    have h5 : 2 ^ (8 * k) ≤ 2 ^ 24 := Nat.pow_le_pow_right (by decide) (by omega)
    have h6 : bv f (s + k) * 2 ^ (8 * k) ≤ 255 * 2 ^ 24 := Nat.mul_le_mul (by omega) h5
    omega
  rw [h2, pk_shlN _ (8 * k) (sh31 k hk) h4, nI_orS h3]
  rfl
theorem ni_m1 {e : Nat} (h : e < 22) : ¬ nI e = (-1) := (by decide +kernel : ∀ e, e < 22 → ¬ nI e = (-1)) e h
theorem isB_pF {f : Nat → Int32} (h : isB f) (s n x k : Nat) : isB (pF f s n x k) := by
  intro j
  unfold pF
  split
  · exact ⟨_, Nat.mod_lt _ (by decide), rfl⟩
  · exact h j
theorem bN_sh (x p i : Nat) : bN (x / 2 ^ (8 * p)) i = bN x (p + i) := by
  unfold bN
  rw [Nat.div_div_eq_div_mul, ← Nat.pow_add, show 8 * p + 8 * i = 8 * (p + i) by omega]
theorem pF_sh (f : Nat → Int32) (s n x p : Nat) : pF f s n (x / 2 ^ (8 * p)) 0 = pF f s n x p := by
  funext j
  unfold pF
  rw [bN_sh, Nat.zero_add]
theorem mE_lt {f : Nat → Int32} {m r k e : Nat} (h : mE f m r k = some e) : e < 22 := (mp_lt h).1
theorem xz8 : ∀ e, e < 22 → xR e &&& 4 = 4 → xZ e ≤ 8 := by decide
theorem and4 : ∀ x, x < 8 → ∀ r, r < 8 → x &&& r = r → r &&& 4 = 4 → x &&& 4 = 4 := by decide
theorem mE_z {f : Nat → Int32} {m r k e : Nat} (hr : r < 8) (hr4 : r &&& 4 = 4) (h : mE f m r k = some e) : xZ e ≤ 8 := by
  obtain ⟨h1, -, h3⟩ := mp_lt h
  exact xz8 e h1 (and4 _ (x_fit e h1).2.2.2.2.2 r hr h3 hr4)
theorem mL_u (f : Nat → Int32) (m r n : Nat) : mL f m r (n + 1) = (mE f m r (n + 1)).elim (mL f m r n) (fun e => mL f m r n + xZ e) := rfl
theorem mC_u (f : Nat → Int32) (m r n : Nat) : mC f m r (n + 1) = (mE f m r (n + 1)).elim (mC f m r n) (fun e => mC f m r n + sm f (xP e) (xZ e) * 2 ^ (8 * mL f m r n)) := rfl
theorem mL_s {f : Nat → Int32} {m r n e : Nat} (h : mE f m r (n + 1) = some e) : mL f m r (n + 1) = mL f m r n + xZ e := by rw [mL_u, h]; rfl
theorem mL_n {f : Nat → Int32} {m r n : Nat} (h : mE f m r (n + 1) = none) : mL f m r (n + 1) = mL f m r n := by rw [mL_u, h]; rfl
theorem mC_s {f : Nat → Int32} {m r n e : Nat} (h : mE f m r (n + 1) = some e) : mC f m r (n + 1) = mC f m r n + sm f (xP e) (xZ e) * 2 ^ (8 * mL f m r n) := by rw [mC_u, h]; rfl
theorem mC_n {f : Nat → Int32} {m r n : Nat} (h : mE f m r (n + 1) = none) : mC f m r (n + 1) = mC f m r n := by rw [mC_u, h]; rfl
theorem mL_mono (f : Nat → Int32) (m r : Nat) {i j : Nat} (h : i ≤ j) : mL f m r i ≤ mL f m r j := by
  induction j with
  | zero => rw [show i = 0 by omega]; exact Nat.le_refl _
  | succ j ih =>
    rcases Nat.lt_or_ge j i with h1 | h1
    · rw [show i = j + 1 by omega]; exact Nat.le_refl _
    · refine Nat.le_trans (ih h1) ?_
      cases h2 : mE f m r (j + 1) with
      | none => rw [mL_n h2]; exact Nat.le_refl _
      | some e => rw [mL_s h2]; exact Nat.le_add_right _ _
theorem mC_lt {f : Nat → Int32} (hB : isB f) (m r n : Nat) : mC f m r n < 2 ^ (8 * mL f m r n) := by
  induction n with
  | zero => simp [mC, mL]
  | succ n ih =>
    cases h : mE f m r (n + 1) with
    | none => rw [mC_n h, mL_n h]; exact ih
    | some e =>
      rw [mC_s h, mL_s h]
      have h1 := sm_lt hB (xP e) (xZ e)
      have h2 : 2 ^ (8 * (mL f m r n + xZ e)) = 2 ^ (8 * xZ e) * 2 ^ (8 * mL f m r n) := by rw [← Nat.pow_add]; congr 1; omega
      have h3 : (sm f (xP e) (xZ e) + 1) * 2 ^ (8 * mL f m r n) ≤ 2 ^ (8 * xZ e) * 2 ^ (8 * mL f m r n) := Nat.mul_le_mul_right _ h1
      rw [h2]
      rw [Nat.add_mul, Nat.one_mul] at h3
      omega
theorem mC_or {f : Nat → Int32} (hB : isB f) {m r n e : Nat} (h : mE f m r (n + 1) = some e) (h8 : mL f m r (n + 1) ≤ 8) (h1 : 1 ≤ xZ e) :
    lN (mC f m r n) ||| lN (sm f (xP e) (xZ e)) <<< ((nI (8 * mL f m r n)).toInt64 &&& 63) = lN (mC f m r (n + 1)) := by
  have h2 := mC_lt hB m r n
  have h3 := mC_lt hB m r (n + 1)
  have h5 : 2 ^ (8 * mL f m r (n + 1)) ≤ 2 ^ 64 := Nat.pow_le_pow_right (by decide) (by omega)
  rw [mL_s h] at h8
  rw [wb_shl _ (by omega), g_or' rfl h2 (by rw [← mC_s h]; omega), mC_s h]
def mOk (f : Nat → Int32) (m r : Nat) : Nat → Bool
  | 0 => true
  | n + 1 => mOk f m r n && (mE f m r (n + 1)).isSome
theorem mOk_u (f : Nat → Int32) (m r n : Nat) : mOk f m r (n + 1) = (mOk f m r n && (mE f m r (n + 1)).isSome) := rfl
theorem mOk_mono {f : Nat → Int32} {m r i j : Nat} (h : i ≤ j) (hj : mOk f m r j = true) : mOk f m r i = true := by
  induction j with
  | zero => rw [show i = 0 by omega]; rfl
  | succ j ih =>
    rcases Nat.lt_or_ge j i with h1 | h1
    · rw [show i = j + 1 by omega]; exact hj
    · rw [mOk_u, Bool.and_eq_true] at hj
      exact ih h1 hj.1
theorem mOk_s {f : Nat → Int32} {m r n e : Nat} (h0 : mOk f m r n = true) (h : mE f m r (n + 1) = some e) : mOk f m r (n + 1) = true := by rw [mOk_u, h0, h]; rfl
theorem mOk_n {f : Nat → Int32} {m r n j : Nat} (h : mE f m r (n + 1) = none) (hj : n + 1 ≤ j) : mOk f m r j = false := by
  cases h9 : mOk f m r j with
  | false => rfl
  | true =>
    have h8 := mOk_mono hj h9
    rw [mOk_u, h] at h8
    simp at h8
theorem mOk_at {f : Nat → Int32} {m r n k : Nat} (h : mOk f m r n = true) (hk : k + 1 ≤ n) : ∃ e, mE f m r (k + 1) = some e := by
  have := mOk_mono hk h
  rw [mOk_u, Bool.and_eq_true] at this
  exact Option.isSome_iff_exists.mp this.2
/-- what storing a count answers; what storing a name answers -/
def cF (f : Nat → Int32) (m r v : Nat) : Nat := if 4 < v then 101253168 else if mOk f m r v = true then (if 8 < mL f m r v then 100925506 else 0) else 100925505
def nF (cn r : Nat) (nm : Int32) : Nat := if cn = 0 then (if nm = 0 then 0 else if mp nm r = none then 100925505 else 0) else 100728832
-- writing through a map
theorem mW_u (m r x n : Nat) (f : Nat → Int32) : mW m r x f (n + 1) = (mE (mW m r x f n).1 m r (n + 1)).elim (mW m r x f n) (fun e => (pF (mW m r x f n).1 (xP e) (xZ e) x (mW m r x f n).2, (mW m r x f n).2 + xZ e)) := rfl
theorem mW_s {m r x n e : Nat} {f : Nat → Int32} (h : mE (mW m r x f n).1 m r (n + 1) = some e) : mW m r x f (n + 1) = (pF (mW m r x f n).1 (xP e) (xZ e) x (mW m r x f n).2, (mW m r x f n).2 + xZ e) := by rw [mW_u, h]; rfl
theorem mW_n {m r x n : Nat} {f : Nat → Int32} (h : mE (mW m r x f n).1 m r (n + 1) = none) : mW m r x f (n + 1) = mW m r x f n := by rw [mW_u, h]; rfl
theorem mW_B {f : Nat → Int32} (hB : isB f) (m r x n : Nat) : isB (mW m r x f n).1 := by
  induction n with
  | zero => exact hB
  | succ n ih =>
    cases h : mE (mW m r x f n).1 m r (n + 1) with
    | none => rw [mW_n h]; exact ih
    | some e => rw [mW_s h]; exact isB_pF ih _ _ _ _
theorem mW_mono (m r x : Nat) (f : Nat → Int32) {i j : Nat} (h : i ≤ j) : (mW m r x f i).2 ≤ (mW m r x f j).2 := by
  induction j with
  | zero => rw [show i = 0 by omega]; exact Nat.le_refl _
  | succ j ih =>
    rcases Nat.lt_or_ge j i with h1 | h1
    · rw [show i = j + 1 by omega]; exact Nat.le_refl _
    · refine Nat.le_trans (ih h1) ?_
      cases h2 : mE (mW m r x f j).1 m r (j + 1) with
      | none => rw [mW_n h2]; exact Nat.le_refl _
      | some e => rw [mW_s h2]; exact Nat.le_add_right _ _
-- the outbox takes a frame; the transfer's steps
def ob_send (o : OB) (id ln : Int32) (x : Nat) : OB := if o.2.1 < 32 then (upd (upd (upd (upd o.1 (o.2.1.toNatClampNeg * 4) id) (o.2.1.toNatClampNeg * 4 + 1) ln) (o.2.1.toNatClampNeg * 4 + 2) (nI x)) (o.2.1.toNatClampNeg * 4 + 3) (nI (x / 4294967296)), o.2.1 + 1, o.2.2 + 1) else (o.1, o.2.1, o.2.2 + 1)
def tr_end (t : TR) : TR := (t.1, 0, t.2.2.1, t.2.2.2.1, 0, t.2.2.2.2.2)
def tr_begin (t : TR) (e ad wr : Int32) : TR := (t.1, 1, wr, e, ad, 0, 0, 0)
def tr_next (t : TR) : TR := (t.1, t.2.1, t.2.2.1, t.2.2.2.1, t.2.2.2.2.1, t.2.2.2.2.2.1, 16 - t.2.2.2.2.2.2.1, 0)
def tr_add (t : TR) (d n x : Nat) : TR := (pF t.1 d n x 0, t.2.1, t.2.2.1, t.2.2.2.1, t.2.2.2.2.1, nI (d + n), t.2.2.2.2.2.2.1, t.2.2.2.2.2.2.2)
theorem hi32 {x : Nat} (hx : x < 2 ^ 64) : ((lN x).toUInt64 >>> ((32 : Int32).toInt64.toUInt64 &&& Int64.toUInt64 63)).toInt64.toInt32 = nI (x / 4294967296) := by
  rw [show ((32 : Int32)) = nI 32 from rfl, wb_shr hx (by decide), lN_i]
