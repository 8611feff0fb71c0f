-- the node's own steps, as functions of its state
def obK (ob : OB) : Prop := ∃ kp, kp ≤ 32 ∧ ob.2.1 = nI kp
def trK (tr : TR) : Prop := ∃ e0 d0, e0 < 22 ∧ d0 ≤ xZ e0 ∧ tr.2.2.2.1 = nI e0 ∧ tr.2.2.2.2.2.1 = nI d0
def mapK (f : Nat → Int32) (m r : Nat) : Prop := bv f (xP m) ≤ 4 ∧ mOk f m r (bv f (xP m)) = true ∧ mL f m r (bv f (xP m)) ≤ 8
theorem obK_send {ob : OB} (h : obK ob) (i ln : Int32) (x : Nat) : obK (ob_send ob i ln x) := by
  obtain ⟨kp, h1, h2⟩ := h
  unfold ob_send
  split
  · rename_i h3
    refine ⟨kp + 1, ?_, ?_⟩
    · rw [h2] at h3
      have := (nI_ltI (a := kp) (b := 32) (by omega) (by decide)).mp h3
      omega
    · show ob.2.1 + 1 = _
      rw [h2, nI_1]
  · exact ⟨kp, h1, h2⟩
abbrev cG (f : Nat → Int32) : Nat := bv f (xP 9)
abbrev cT (f : Nat → Int32) : Nat := bv f (xP 3)
def gC (f : Nat → Int32) : Nat := mC f 9 5 (cG f)
def gL (f : Nat → Int32) : Nat := mL f 9 5 (cG f)
theorem gC_lt {f : Nat → Int32} (hB : isB f) (h : mapK f 9 5) : gC f < 2 ^ 64 := by
  have h1 := mC_lt hB 9 5 (cG f)
  have h2 : 2 ^ (8 * mL f 9 5 (cG f)) ≤ 2 ^ 64 := Nat.pow_le_pow_right (by decide) (by have h3 : mL f 9 5 (cG f) ≤ 8 := h.2.2; omega)
  exact Nat.lt_of_lt_of_le h1 h2
def kGive (N : Int32) (f : Nat → Int32) (ob : OB) : OB := ob_send ob (384 + N) (nI (gL f)) (gC f)
def nGive (f : Nat → Int32) (nd : ND) : ND := (nd.1, nd.2.1, nd.2.2.1, lN (gC f))
noncomputable def kNew (N : Int32) (f : Nat → Int32) (ob : OB) (nd : ND) : OB := if lN (gC f) = nd.2.2.2 then ob else kGive N f ob
noncomputable def nNew (f : Nat → Int32) (nd : ND) : ND := if lN (gC f) = nd.2.2.2 then nd else nGive f nd
def evT (f : Nat → Int32) (nd : ND) : Prop := nd.1 = 5 ∧ ¬ nI (cG f) = 0 ∧ ¬ nI (bv f (xP 8)) < 254
noncomputable def kEv (N : Int32) (f : Nat → Int32) (ob : OB) (nd : ND) : OB := if nd.1 = 5 then (if nI (cG f) = 0 then ob else if nI (bv f (xP 8)) < 254 then ob else kNew N f ob nd) else ob
noncomputable def nEv (f : Nat → Int32) (nd : ND) : ND := if nd.1 = 5 then (if nI (cG f) = 0 then nd else if nI (bv f (xP 8)) < 254 then nd else nNew f nd) else nd
def nRun (f : Nat → Int32) (nd : ND) : ND := if nd.1 = 5 then nd else (5, 0, nd.2.2.1, lN (gC f))
noncomputable def kSync (N : Int32) (f : Nat → Int32) (ob : OB) (nd : ND) : OB :=
  if nd.1 = 5 then (if nI (cG f) = 0 then ob else if nI (bv f (xP 8)) = 0 then kNew N f ob nd else if 240 < nI (bv f (xP 8)) then ob else if nd.2.1 + 1 < nI (bv f (xP 8)) then ob else kGive N f ob) else ob
noncomputable def nSync (f : Nat → Int32) (nd : ND) : ND :=
  if nd.1 = 5 then (if nI (cG f) = 0 then nd else if nI (bv f (xP 8)) = 0 then nNew f nd else if 240 < nI (bv f (xP 8)) then nd else if nd.2.1 + 1 < nI (bv f (xP 8)) then (nd.1, nd.2.1 + 1, nd.2.2.1, nd.2.2.2) else (nd.1, 0, nd.2.2.1, lN (gC f))) else nd
def fTake (f : Nat → Int32) (nd : ND) (len : Int32) (x : Nat) : Nat → Int32 :=
  if nd.1 = 5 then (if nI (cT f) = 0 then f else if len < nI (mL f 3 6 (cT f)) then pF f (xP 1) (xZ 1) (bv f 4 ||| 16) 0 else (mW 3 6 x f (cT f)).1) else f
def kBoot (N : Int32) (ob : OB) : OB := ob_send ob (1792 + N) 1 0
def nBoot (nd : ND) : ND := (127, 0, 0, nd.2.2.2)
def kLife (f : Nat → Int32) : Nat := sm f (xP 2) 2
def kBeat (N : Int32) (f : Nat → Int32) (ob : OB) (nd : ND) (sv : Nat) : OB := if nI (kLife f) = 0 then ob else if nd.2.2.1 + 1 < nI (kLife f) then ob else ob_send ob (1792 + N) 1 sv
def nBeat (f : Nat → Int32) (nd : ND) : ND := if nI (kLife f) = 0 then nd else if nd.2.2.1 + 1 < nI (kLife f) then (nd.1, nd.2.1, nd.2.2.1 + 1, nd.2.2.2) else (nd.1, nd.2.1, 0, nd.2.2.2)
-- requests
def anX (fi ad hg : Nat) : Nat := ad * 256 + fi + 4294967296 * hg
def kAns (N : Int32) (ob : OB) (fi ad hg : Nat) : OB := ob_send ob (1408 + N) 8 (anX fi ad hg)
def lenOf (fi : Nat) (hg : Int32) (z : Nat) : Int32 := if nI fi &&& 2 = 0 then (if nI fi &&& 1 = 0 then nI z else hg) else (if nI fi &&& 1 = 0 then (if 4 < nI z then 4 else nI z) else (4 : Int32) - ((nI fi >>> ((2 : Int32) &&& 31)) &&& 3))
def lF (fi : Nat) (hg : Int32) (z : Nat) : Nat := if lenOf fi hg z ≤ nI z then (if nI z ≤ lenOf fi hg z then 0 else 101122067) else 101122066
def sF (tr : TR) (fi : Nat) (wr : Int32) : Nat := if tr.2.1 = 0 then 84148225 else if tr.2.2.1 = wr then (if nI fi &&& 16 = tr.2.2.2.2.2.2.1 then 0 else 84082688) else 84148225
def stF (st : Int32) (f : Nat → Int32) (e v : Nat) : Nat :=
  if e = 3 then (if st = 127 then cF f 3 6 v else 134217762) else if 4 ≤ e ∧ e ≤ 7 then (if st = 127 then nF (cT f) 6 (nI v) else 134217762)
  else if e = 9 then (if st = 127 then cF f 9 5 v else 134217762) else if 10 ≤ e ∧ e ≤ 13 then (if st = 127 then nF (cG f) 5 (nI v) else 134217762)
  else if e = 8 then (if 240 < v ∧ v < 254 then 101253168 else 0) else 0
def aN (ix : Int32) : Nat := if hi ix = true then 101253137 else 100794368
def aS (e : Nat) (r : Int32) : Nat := if nI (xR e) &&& r = 0 then (if r = 2 then 100728834 else 100728833) else 0
theorem aN_ne (ix : Int32) : ¬ nI (aN ix) = 0 := by
  unfold aN
  split <;> decide
theorem aN_lt (ix : Int32) : aN ix < 2 ^ 32 := by
  unfold aN
  split <;> decide
theorem aS_lt (e : Nat) (r : Int32) : aS e r < 2 ^ 32 := by
  unfold aS
  split
  · split <;> decide
  · decide
theorem lF_lt (fi : Nat) (hg : Int32) (z : Nat) : lF fi hg z < 2 ^ 32 := by
  unfold lF
  split
  · split <;> decide
  · decide
theorem sF_lt (tr : TR) (fi : Nat) (wr : Int32) : sF tr fi wr < 2 ^ 32 := by
  unfold sF
  split
  · decide
  · split
    · split <;> decide
    · decide
theorem cF_lt (f : Nat → Int32) (m r v : Nat) : cF f m r v < 2 ^ 32 := by
  unfold cF
  split
  · decide
  · split
    · split <;> decide
    · decide
theorem nF_lt (cn r : Nat) (nm : Int32) : nF cn r nm < 2 ^ 32 := by
  unfold nF
  split
  · split
    · decide
    · split <;> decide
  · decide
theorem stF_lt (st : Int32) (f : Nat → Int32) (e v : Nat) : stF st f e v < 2 ^ 32 := by
  unfold stF
  have h1 := cF_lt f 3 6 v
  have h2 := cF_lt f 9 5 v
  have h3 := nF_lt (cT f) 6 (nI v)
  have h4 := nF_lt (cG f) 5 (nI v)
  repeat' split
  all_goals first | assumption | decide
def nSto (e : Nat) (nd : ND) : ND := if nI e = 8 then (nd.1, 0, nd.2.2.1, nd.2.2.2) else if nI e = 2 then (nd.1, nd.2.1, 0, nd.2.2.2) else nd
def fSto (f h : Nat → Int32) (e : Nat) : Nat → Int32 := va_cpy h f 0 (xP e) (xZ e)
theorem jn_eq {lo hg : Nat} (hl : lo < 2 ^ 32) (hh : hg < 2 ^ 32) : (nI hg).toInt64 <<< ((32 : Int32).toInt64 &&& 63) ||| ((nI lo).toInt64 &&& 4294967295) = lN (lo + 4294967296 * hg) := by
  have h1 : (nI lo).toInt64 &&& 4294967295 = lN lo := by
    apply wb_inj
    rw [Int64.toBitVec_and, Int32.toBitVec_toInt64]
    apply BitVec.eq_of_getLsbD_eq
    intro i hi
    rw [BitVec.getLsbD_and, BitVec.getLsbD_signExtend]
    have e1 : (nI lo).toBitVec = BitVec.ofNat 32 lo := rfl
    have e2 : (4294967295 : Int64).toBitVec = BitVec.ofNat 64 (2 ^ 32 - 1) := rfl
    have e3 : (lN lo).toBitVec = BitVec.ofNat 64 lo := rfl
    rw [e1, e2, e3]
    simp only [BitVec.getLsbD_ofNat, Nat.testBit_two_pow_sub_one]
    by_cases h : i < 32
    · simp only [hi, h, decide_true, Bool.true_and, Bool.and_true, if_true]
    · have h2 : lo.testBit i = false := Nat.testBit_lt_two_pow (Nat.lt_of_lt_of_le hl (Nat.pow_le_pow_right (by decide) (by omega)))
      simp only [h, h2, decide_false, Bool.and_false]
  have h2 : (nI hg).toInt64 <<< ((32 : Int32).toInt64 &&& 63) = lN (hg * 2 ^ 32) := by
    apply wb_inj
    rw [show (32 : Int32) = nI 32 from rfl, wb_c 32 (by decide), Int64.toBitVec_shiftLeft, Int32.toBitVec_toInt64, wb_tb, wb_tb, wb_sm 32 (by decide)]
    apply BitVec.eq_of_getLsbD_eq
    intro i hi
    have e1 : (nI hg).toBitVec = BitVec.ofNat 32 hg := rfl
    rw [e1, BitVec.shiftLeft_eq', BitVec.getLsbD_shiftLeft, BitVec.getLsbD_signExtend, BitVec.getLsbD_ofNat, show (BitVec.ofNat 64 32).toNat = 32 from rfl, ← Nat.shiftLeft_eq, BitVec.getLsbD_ofNat, Nat.testBit_shiftLeft]
    by_cases h : i < 32
    · have h9 : ¬ 32 ≤ i := by omega
      simp [h, h9]
    · have h9 : 32 ≤ i := by omega
      have h10 : i - 32 < 32 := by omega
      have h11 : i - 32 < 64 := by omega
      simp [hi, h, h9, h10, h11, BitVec.getLsbD_ofNat]
  rw [h1, h2, g_or rfl hl (by omega)]
  congr 1
  omega
theorem lo8 {ad fi : Nat} (h1 : ad < 2 ^ 24) (h2 : fi < 256) : nI ad <<< ((8 : Int32) &&& 31) ||| nI fi = nI (ad * 256 + fi) := by
  rw [pk_shlN _ 8 (by decide) (by omega), Int32.or_comm, nI_orS (k := 8) (by omega)]
  congr 1
  omega
def sx (hg : Nat) : Nat := if hg < 2147483648 then hg else hg + 18446744069414584320
theorem sx_eq {hg : Nat} (h : hg < 2 ^ 32) : (nI hg).toInt64 = lN (sx hg) := by
  apply Int64.toInt_inj.mp
  rw [Int32.toInt_toInt64]
  unfold sx
  split
  · rename_i h1
    rw [nI_toInt (by omega), pk_lT (by omega)]
  · rename_i h1
    have e1 : (nI hg).toInt = (hg : Int) - 4294967296 := by
      show (BitVec.ofNat 32 hg).toInt = _
      rw [BitVec.toInt_eq_toNat_cond, BitVec.toNat_ofNat, Nat.mod_eq_of_lt h]
      rw [if_neg (by omega)]
      rfl
    have e2 : (lN (hg + 18446744069414584320)).toInt = ((hg + 18446744069414584320 : Nat) : Int) - 18446744073709551616 := by
      show (BitVec.ofNat 64 (hg + 18446744069414584320)).toInt = _
      rw [BitVec.toInt_eq_toNat_cond, BitVec.toNat_ofNat, Nat.mod_eq_of_lt (by omega)]
      rw [if_neg (by omega)]
      rfl
    rw [e1, e2]
    omega
theorem sx_lt {hg : Nat} (h : hg < 2 ^ 32) : sx hg < 2 ^ 64 := by unfold sx; split <;> omega
theorem lo255 (lo : Nat) : nI lo &&& 255 = nI (lo % 256) := and255 lo
theorem lo24 {lo : Nat} (h : lo < 2 ^ 32) : ((nI lo).toUInt32 >>> ((8 : Int32).toUInt32 &&& Int32.toUInt32 31)).toInt32 = nI (lo / 256) := pk_ushrN h 8 8 (by decide)
theorem sh5 {fi : Nat} (h : fi < 256) : nI fi >>> ((5 : Int32) &&& 31) = nI (fi / 32) := pk_shrN (by omega) _ 5 (by decide)
theorem ix16 {ad : Nat} (h : ad < 2 ^ 24) : nI ad &&& 65535 = nI (ad % 65536) := pk_andN (by omega) 16 (by decide)
theorem sb16 {ad : Nat} (h : ad < 2 ^ 24) : nI ad >>> ((16 : Int32) &&& 31) = nI (ad / 65536) := pk_shrN (by omega) _ 16 (by decide)
theorem seg7 : ∀ fi, fi < 256 → (7 : Int32) - ((nI fi >>> ((1 : Int32) &&& 31)) &&& 7) = nI (7 - fi / 2 % 8) := by decide +kernel
theorem a32 : ∀ fi, fi < 256 → (32 : Int32) + (nI fi &&& 16) = nI (32 + fi / 16 % 2 * 16) := by decide +kernel
theorem a16 : ∀ fi, fi < 256 → nI fi &&& 16 = nI (fi / 16 % 2 * 16) := by decide +kernel
