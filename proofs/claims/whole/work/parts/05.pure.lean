/-! ===== lN n to 2^64: shifts, and, or, masks, one bit ===== -/
theorem wb_tb (n : Nat) : (lN n).toBitVec = BitVec.ofNat 64 n := rfl
theorem wb_inj {a b : Int64} (h : a.toBitVec = b.toBitVec) : a = b := Int64.toBitVec_inj.mp h
theorem wb_tn {n : Nat} (h : n < 2 ^ 64) : (lN n).toBitVec.toNat = n := by rw [wb_tb, BitVec.toNat_ofNat, Nat.mod_eq_of_lt h]
theorem wb_of (x : Int64) : ∃ n, n < 2 ^ 64 ∧ x = lN n := ⟨x.toBitVec.toNat, x.toBitVec.isLt, wb_inj (by rw [wb_tb]; simp)⟩
theorem wb_of32 (x : Int32) : ∃ n, n < 2 ^ 32 ∧ x = nI n := ⟨x.toBitVec.toNat, x.toBitVec.isLt, Int32.toBitVec_inj.mp (by show _ = BitVec.ofNat 32 _; simp)⟩
theorem wb_c : ∀ k, k < 64 → ((nI k).toInt64 &&& 63) = lN k := by decide +kernel
theorem wb_cu : ∀ k, k < 64 → ((nI k).toInt64.toUInt64 &&& Int64.toUInt64 63) = UInt64.ofNat k := by decide +kernel
theorem wb_sm : ∀ k, k < 64 → (BitVec.ofNat 64 k).smod 64 = BitVec.ofNat 64 k := by decide +kernel
theorem wb_pw {a b : Nat} (h : a ≤ b) : 2 ^ b = 2 ^ a * 2 ^ (b - a) := by rw [← Nat.pow_add]; congr 1; omega
theorem wb_lt2 {a b : Nat} (h : a < b) : 2 ^ a < 2 ^ b := Nat.pow_lt_pow_right (by decide) h
theorem wb_mod (n : Nat) : lN n = lN (n % 2 ^ 64) := wb_inj (by rw [wb_tb, wb_tb]; apply BitVec.eq_of_toNat_eq; rw [BitVec.toNat_ofNat, BitVec.toNat_ofNat, Nat.mod_mod])
theorem wb_shr {n k : Nat} (hn : n < 2 ^ 64) (hk : k < 64) : ((lN n).toUInt64 >>> ((nI k).toInt64.toUInt64 &&& Int64.toUInt64 63)).toInt64 = lN (n / 2 ^ k) := by
  rw [wb_cu k hk]
  apply wb_inj
  apply BitVec.eq_of_toNat_eq
  show ((lN n).toUInt64 >>> UInt64.ofNat k).toNat = (BitVec.ofNat 64 _).toNat
  have h1 : (UInt64.ofNat k).toNat = k := by
    show (BitVec.ofNat 64 k).toNat = k
    rw [BitVec.toNat_ofNat, Nat.mod_eq_of_lt (by omega)]
  have h2 : (lN n).toUInt64.toNat = n := wb_tn hn
  rw [UInt64.toNat_shiftRight, h1, h2, Nat.mod_eq_of_lt hk, Nat.shiftRight_eq_div_pow, BitVec.toNat_ofNat, Nat.mod_eq_of_lt (Nat.lt_of_le_of_lt (Nat.div_le_self _ _) hn)]
theorem wb_shl (n : Nat) {k : Nat} (hk : k < 64) : lN n <<< ((nI k).toInt64 &&& 63) = lN (n * 2 ^ k) := by
  rw [wb_c k hk]
  apply wb_inj
  rw [Int64.toBitVec_shiftLeft, wb_tb, wb_tb, wb_tb, wb_sm k hk]
  apply BitVec.eq_of_toNat_eq
  rw [BitVec.shiftLeft_eq', BitVec.toNat_shiftLeft, BitVec.toNat_ofNat, BitVec.toNat_ofNat, BitVec.toNat_ofNat, Nat.mod_eq_of_lt (show k < 2 ^ 64 by omega), Nat.shiftLeft_eq, Nat.mul_mod, Nat.mod_mod, ← Nat.mul_mod]
theorem wb_and {a b : Nat} (ha : a < 2 ^ 64) (hb : b < 2 ^ 64) : lN a &&& lN b = lN (a &&& b) := by
  apply wb_inj
  rw [Int64.toBitVec_and, wb_tb, wb_tb, wb_tb]
  apply BitVec.eq_of_toNat_eq
  rw [BitVec.toNat_and, BitVec.toNat_ofNat, BitVec.toNat_ofNat, BitVec.toNat_ofNat, Nat.mod_eq_of_lt ha, Nat.mod_eq_of_lt hb, Nat.mod_eq_of_lt (Nat.and_lt_two_pow _ hb)]
theorem wb_or {a b : Nat} (ha : a < 2 ^ 64) (hb : b < 2 ^ 64) : lN a ||| lN b = lN (a ||| b) := by
  apply wb_inj
  rw [Int64.toBitVec_or, wb_tb, wb_tb, wb_tb]
  apply BitVec.eq_of_toNat_eq
  rw [BitVec.toNat_or, BitVec.toNat_ofNat, BitVec.toNat_ofNat, BitVec.toNat_ofNat, Nat.mod_eq_of_lt ha, Nat.mod_eq_of_lt hb, Nat.mod_eq_of_lt (Nat.or_lt_two_pow ha hb)]
theorem wb_mask {n k : Nat} (hn : n < 2 ^ 64) (hk : k < 64) : lN n &&& lN (2 ^ k - 1) = lN (n % 2 ^ k) := by
  rw [wb_and hn (by have := wb_lt2 hk; omega), Nat.and_two_pow_sub_one_eq_mod]
theorem wb_a1 {n : Nat} (hn : n < 2 ^ 64) : lN n &&& 1 = lN (n % 2) := wb_mask (k := 1) hn (by decide)
theorem wb_bit {n k : Nat} (hn : n < 2 ^ 64) (hk : k < 64) : ((lN n).toUInt64 >>> ((nI k).toInt64.toUInt64 &&& Int64.toUInt64 63)).toInt64 &&& 1 = lN (n / 2 ^ k % 2) := by
  rw [wb_shr hn hk, wb_a1 (Nat.lt_of_le_of_lt (Nat.div_le_self _ _) hn)]
theorem wb_xor {q k : Nat} (hk : k < 63) (h : 2 ^ k ≤ q) (h2 : q < 2 ^ (k + 1)) : lN q ^^^ lN (2 ^ k) = lN (q - 2 ^ k) := by
  obtain ⟨r, rfl⟩ : ∃ r, q = 2 ^ k + r := ⟨q - 2 ^ k, by omega⟩
  have hr : r < 2 ^ k := by rw [Nat.pow_succ] at h2; omega
  have hx : (2 ^ k + r) ^^^ 2 ^ k = r := by
    apply Nat.eq_of_testBit_eq
    intro i
    rw [Nat.testBit_xor, Nat.testBit_two_pow]
    rcases Nat.lt_trichotomy i k with h | h | h
    · rw [Nat.testBit_two_pow_add_gt h]
      simp [show ¬ k = i by omega]
    · subst h
      rw [Nat.testBit_two_pow_add_eq]
      simp
    · have a1 : 2 ^ (k + 1) ≤ 2 ^ i := Nat.pow_le_pow_right (by decide) h
      rw [Nat.testBit_lt_two_pow (show 2 ^ k + r < 2 ^ i by omega), Nat.testBit_lt_two_pow (show r < 2 ^ i by omega)]
      simp [show ¬ k = i by omega]
  have b1 := wb_lt2 (show k + 1 < 64 by omega)
  have b2 := wb_lt2 (show k < 64 by omega)
  apply wb_inj
  rw [Int64.toBitVec_xor, wb_tb, wb_tb, wb_tb]
  apply BitVec.eq_of_toNat_eq
  rw [BitVec.toNat_xor, BitVec.toNat_ofNat, BitVec.toNat_ofNat, BitVec.toNat_ofNat, Nat.mod_eq_of_lt (by omega : 2 ^ k + r < 2 ^ 64), Nat.mod_eq_of_lt b2, hx, Nat.add_sub_cancel_left, Nat.mod_eq_of_lt (by omega)]
/-! ===== lN: masks, 'or' of parts that don't overlap is a sum ===== -/
theorem u_tn {n : Nat} (h : n < 2 ^ 64) : (UInt64.ofNat n).toNat = n := Nat.mod_eq_of_lt h
theorem g_and {a b c : Nat} (ha : a < 2 ^ 64) (hb : b < 2 ^ 64) (hc : a &&& b = c) : lN a &&& lN b = lN c := by
  subst hc
  have h : UInt64.ofNat a &&& UInt64.ofNat b = UInt64.ofNat (a &&& b) := UInt64.toNat_inj.mp (by rw [UInt64.toNat_and, u_tn ha, u_tn hb, u_tn (Nat.and_lt_two_pow a hb)])
  have h2 := congrArg UInt64.toInt64 h
  exact h2
theorem g_and1 {a : Nat} (ha : a < 2 ^ 64) : lN a &&& 1 = lN (a % 2) := g_and (b := 1) ha (by decide) (Nat.and_two_pow_sub_one_eq_mod a 1)
theorem g_mask {a s p : Nat} (hp : 2 ^ s = p) (hs : s < 64) (ha : a < 2 ^ 64) : lN a &&& lN (p - 1) = lN (a % p) := by
  subst hp
  have := Nat.pow_lt_pow_right (show 1 < 2 by decide) hs
  exact g_and ha (by omega) (Nat.and_two_pow_sub_one_eq_mod a s)
theorem g_or {k p a b : Nat} (hp : 2 ^ k = p) (ha : a < p) (h : b * p + a < 2 ^ 64) : lN (b * p) ||| lN a = lN (b * p + a) := by
  subst hp
  have h1 : b * 2 ^ k ||| a = b * 2 ^ k + a := by rw [← Nat.shiftLeft_eq, Nat.shiftLeft_add_eq_or_of_lt ha]
  have h3 : UInt64.ofNat (b * 2 ^ k) ||| UInt64.ofNat a = UInt64.ofNat (b * 2 ^ k + a) := UInt64.toNat_inj.mp (by rw [UInt64.toNat_or, u_tn (by omega), u_tn (by omega), u_tn h, h1])
  have h2 := congrArg UInt64.toInt64 h3
  exact h2
theorem g_or' {k p a b : Nat} (hp : 2 ^ k = p) (ha : a < p) (h : a + b * p < 2 ^ 64) : lN a ||| lN (b * p) = lN (a + b * p) := by
  rw [Int64.or_comm, g_or hp ha (by omega), Nat.add_comm]
theorem g_ushr {a k p : Nat} {y : UInt64} (hy : y = UInt64.ofNat k) (hk : k < 64) (hp : 2 ^ k = p) (ha : a < 2 ^ 64) : ((lN a).toUInt64 >>> y).toInt64 = lN (a / p) := by
  subst hy hp
  have h : UInt64.ofNat a >>> UInt64.ofNat k = UInt64.ofNat (a / 2 ^ k) := UInt64.toNat_inj.mp (by rw [UInt64.toNat_shiftRight, u_tn ha, u_tn (by omega), u_tn (Nat.lt_of_le_of_lt (Nat.div_le_self _ _) ha), Nat.mod_eq_of_lt hk, Nat.shiftRight_eq_div_pow])
  have h2 := congrArg UInt64.toInt64 h
  exact h2
theorem g_shl {a k p : Nat} {y : Int64} (hy : y.toBitVec.smod 64 = BitVec.ofNat 64 k) (hk : k < 64) (hp : 2 ^ k = p) (ha : a < 2 ^ 64) : lN a <<< y = lN (a * p) := by
  subst hp
  apply Int64.toBitVec_inj.mp
  rw [Int64.toBitVec_shiftLeft, hy]
  apply BitVec.eq_of_toNat_eq
  have hb : (lN a).toBitVec.toNat = a := Nat.mod_eq_of_lt ha
  have hk' : (BitVec.ofNat 64 k).toNat = k := Nat.mod_eq_of_lt (by omega)
  have h : ((lN a).toBitVec <<< BitVec.ofNat 64 k).toNat = (a * 2 ^ k) % 2 ^ 64 := by simp only [BitVec.shiftLeft_eq', BitVec.toNat_shiftLeft, hb, hk', Nat.shiftLeft_eq]
  exact h
-- the dictionary's table, as numbers: index, sub, size, rights, where the bytes begin
def tbI : List Nat := [4096, 4097, 4119, 5632, 5632, 5632, 5632, 5632, 6144, 6656, 6656, 6656, 6656, 6656, 8192, 8193, 8194, 8195, 8196, 8197, 8198, 8199]
def tbS : List Nat := [0, 0, 0, 0, 1, 2, 3, 4, 2, 0, 1, 2, 3, 4, 0, 0, 0, 0, 0, 0, 0, 0]
def tbZ : List Nat := [4, 1, 2, 1, 4, 4, 4, 4, 1, 1, 4, 4, 4, 4, 1, 2, 4, 4, 12, 8, 2, 20]
def tbR : List Nat := [1, 5, 3, 3, 3, 3, 3, 3, 3, 3, 3, 3, 3, 3, 7, 7, 7, 5, 3, 7, 6, 1]
def tbP : List Nat := [0, 4, 5, 7, 8, 12, 16, 20, 24, 25, 26, 30, 34, 38, 42, 43, 45, 49, 53, 65, 73, 75]
def xI (e : Nat) : Nat := tbI.getD e 0
def xS (e : Nat) : Nat := tbS.getD e 0
def xZ (e : Nat) : Nat := tbZ.getD e 0
def xR (e : Nat) : Nat := tbR.getD e 0
def xP (e : Nat) : Nat := tbP.getD e 0
def xKey (e : Nat) : Nat := xI e * 65536 + xS e * 256 + 8 * xZ e
theorem x_fit : ∀ e, e < 22 → xP e + xZ e ≤ 95 ∧ 1 ≤ xZ e ∧ xZ e ≤ 20 ∧ xI e < 65536 ∧ xS e < 5 ∧ xR e < 8 := by decide
-- bytes: of an unsigned number, and of a stretch of ints
def bN (n i : Nat) : Nat := n / 2 ^ (8 * i) % 256
def isB (f : Nat → Int32) : Prop := ∀ j, ∃ b, b < 256 ∧ f j = nI b
def bv (f : Nat → Int32) (j : Nat) : Nat := (f j).toNatClampNeg
def sm (f : Nat → Int32) (s : Nat) : Nat → Nat
  | 0 => 0
  | n + 1 => sm f s n + bv f (s + n) * 2 ^ (8 * n)
theorem bv_of {f : Nat → Int32} (h : isB f) (j : Nat) : bv f j < 256 ∧ f j = nI (bv f j) := by
  obtain ⟨b, hb, he⟩ := h j
  have h1 : bv f j = b := by unfold bv; rw [he, nI_clamp (by omega)]
  rw [h1]; exact ⟨hb, he⟩
theorem sm_lt {f : Nat → Int32} (h : isB f) (s n : Nat) : sm f s n < 2 ^ (8 * n) := by
  induction n with
  | zero => simp [sm]
  | succ n ih =>
    have h1 := (bv_of h (s + n)).1
    have h2 : 2 ^ (8 * (n + 1)) = 2 ^ (8 * n) * 256 := by rw [show 8 * (n + 1) = 8 * n + 8 by omega, Nat.pow_add]
    have h3 : bv f (s + n) * 2 ^ (8 * n) ≤ 255 * 2 ^ (8 * n) := Nat.mul_le_mul_right _ (by omega)
    simp only [sm]
    omega
-- an entry that a number in a map names, with these rights (the map's right and 4)
def mpF (nm : Int32) (r : Nat) : Nat → Nat → Option Nat
  | 0, _ => none
  | n + 1, e => if nI (xKey e) = nm then (if xR e &&& r = r then some e else none) else mpF nm r n (e + 1)
def mp (nm : Int32) (r : Nat) : Option Nat := mpF nm r 22 0
-- find: the first row with this index and sub
def fdF (i s : Int32) : Nat → Nat → Option Nat
  | 0, _ => none
  | n + 1, e => if nI (xI e) = i then (if nI (xS e) = s then some e else fdF i s n (e + 1)) else fdF i s n (e + 1)
def fd (i s : Int32) : Option Nat := fdF i s 22 0
def hiF (i : Int32) : Nat → Nat → Bool
  | 0, _ => false
  | n + 1, e => if nI (xI e) = i then true else hiF i n (e + 1)
def hi (i : Int32) : Bool := hiF i 22 0
def oI : Option Nat → Int32
  | none => -1
  | some e => nI e
theorem fdF_lt {i s : Int32} : ∀ n e k, fdF i s n e = some k → k < e + n ∧ nI (xI k) = i ∧ nI (xS k) = s := by
  intro n
  induction n with
  | zero => intro e k h; cases h
  | succ n ih =>
    intro e k h
    simp only [fdF] at h
    split at h
    · split at h
      · cases h; exact ⟨by omega, by assumption, by assumption⟩
      · have := ih _ _ h; exact ⟨by omega, this.2⟩
    · have := ih _ _ h; exact ⟨by omega, this.2⟩
theorem fd_lt {i s : Int32} {k : Nat} (h : fd i s = some k) : k < 22 ∧ nI (xI k) = i ∧ nI (xS k) = s := by
  have := fdF_lt 22 0 k h; exact ⟨by omega, this.2⟩
theorem mpF_lt {nm : Int32} {r : Nat} : ∀ n e k, mpF nm r n e = some k → k < e + n ∧ nI (xKey k) = nm ∧ xR k &&& r = r := by
  intro n
  induction n with
  | zero => intro e k h; cases h
  | succ n ih =>
    intro e k h
    simp only [mpF] at h
    split at h
    · split at h
      · cases h; exact ⟨by omega, by assumption, by assumption⟩
      · cases h
    · have := ih _ _ h; exact ⟨by omega, this.2⟩
theorem mp_lt {nm : Int32} {r k : Nat} (h : mp nm r = some k) : k < 22 ∧ nI (xKey k) = nm ∧ xR k &&& r = r := by
  have := mpF_lt 22 0 k h; exact ⟨by omega, this.2⟩
-- a map m (3 or 9) with its right: how long the first n are, what they hold
def mE (f : Nat → Int32) (m r k : Nat) : Option Nat := mp (nI (sm f (xP (m + k)) 4)) r
def mL (f : Nat → Int32) (m r : Nat) : Nat → Nat
  | 0 => 0
  | n + 1 => (mE f m r (n + 1)).elim (mL f m r n) (fun e => mL f m r n + xZ e)
def mC (f : Nat → Int32) (m r : Nat) : Nat → Nat
  | 0 => 0
  | n + 1 => (mE f m r (n + 1)).elim (mC f m r n) (fun e => mC f m r n + sm f (xP e) (xZ e) * 2 ^ (8 * mL f m r n))
def pF (f : Nat → Int32) (s n x k : Nat) : Nat → Int32 := fun j => if s ≤ j ∧ j < s + n then nI (bN x (k + (j - s))) else f j
def mW (m r x : Nat) (f : Nat → Int32) : Nat → (Nat → Int32) × Nat
  | 0 => (f, 0)
  | n + 1 => (mE (mW m r x f n).1 m r (n + 1)).elim (mW m r x f n) (fun e => (pF (mW m r x f n).1 (xP e) (xZ e) x (mW m r x f n).2, (mW m r x f n).2 + xZ e))
