-- the public calls, as functions of the node's state
theorem sh8_255 {lo : Nat} (h : lo < 2 ^ 32) : (nI lo >>> ((8 : Int32) &&& 31)) &&& 255 = nI (lo / 256 % 256) := by
  apply Int32.toBitVec_inj.mp
  apply BitVec.eq_of_getLsbD_eq
  intro i hi
  rw [Int32.toBitVec_and, BitVec.getLsbD_and, Int32.toBitVec_shiftRight]
  have e0 : ((8 : Int32) &&& 31).toBitVec.smod 32 = 8#32 := by decide
  have e1 : (255 : Int32).toBitVec = BitVec.ofNat 32 (2 ^ 8 - 1) := rfl
  have e2 : (nI (lo / 256 % 256)).toBitVec = BitVec.ofNat 32 (lo / 256 % 256) := rfl
  have e3 : (nI lo).toBitVec = BitVec.ofNat 32 lo := rfl
  rw [e0, e1, e2, e3, BitVec.sshiftRight_eq', BitVec.getLsbD_sshiftRight]
  simp only [BitVec.getLsbD_ofNat, Nat.testBit_two_pow_sub_one]
  have e4 : (8#32).toNat = 8 := rfl
  rw [e4]
  have e5 : lo / 256 % 256 = lo / 2 ^ 8 % 2 ^ 8 := rfl
  rw [e5, Nat.testBit_mod_two_pow, Nat.testBit_div_two_pow]
  by_cases h8 : i < 8
  · have h9 : 8 + i < 32 := by omega
    have h10 : ¬ 32 ≤ i := by omega
    simp only [hi, h8, h9, h10, decide_true, decide_false, Bool.not_false, Bool.true_and, Bool.and_true, if_true]
    rw [Nat.add_comm]
  · simp only [h8, decide_false, Bool.and_false, Bool.false_and]
noncomputable def kMid (N : Int32) (f : Nat → Int32) (ob : OB) (tr : TR) (nd : ND) (fid ln : Int32) (lo hg e d ad : Nat) : ST4 :=
  if fid = 0 ∧ ln = 2 then (if nI (lo / 256 % 256) = 0 ∨ nI (lo / 256 % 256) = N then kCmd N f ob tr nd (lo % 256) else (f, ob, tr, nd))
  else if fid = 128 then (f, kSync N f ob nd, tr, nSync f nd)
  else if fid = 512 + N then (fTake f nd ln (lo + 4294967296 * hg), ob, tr, nd)
  else if fid = 1536 + N ∧ ln = 8 ∧ ¬ nd.1 = 4 then kReq N f ob tr nd lo hg e d ad else (f, ob, tr, nd)
noncomputable def kEnd (N : Int32) (u : ST4) : ST4 := (u.1, kEv N u.1 u.2.1 u.2.2.2, u.2.2.1, nEv u.1 u.2.2.2)
def trTick (t : TR) : TR := (t.1, t.2.1, t.2.2.1, t.2.2.2.1, t.2.2.2.2.1, t.2.2.2.2.2.1, t.2.2.2.2.2.2.1, t.2.2.2.2.2.2.2 + 1)
def kTick (N : Int32) (f : Nat → Int32) (ob : OB) (tr : TR) (nd : ND) (sv ad : Nat) : ST4 :=
  if tr.2.1 = 0 then (f, kBeat N f ob nd sv, tr, nBeat f nd) else if tr.2.2.2.2.2.2.2 + 1 < 8 then (f, kBeat N f ob nd sv, trTick tr, nBeat f nd)
  else (f, kAns N (kBeat N f ob nd sv) 128 ad 84148224, tr_end (trTick tr), nBeat f nd)
noncomputable def kSet (N : Int32) (f : Nat → Int32) (ob : OB) (tr : TR) (nd : ND) (e x : Nat) : ST4 := kEnd N (pF f (xP e) (xZ e) x 0, ob, tr, nd)
theorem obK_beat {N : Int32} {f : Nat → Int32} {ob : OB} {nd : ND} {sv : Nat} (h : obK ob) : obK (kBeat N f ob nd sv) := by
  unfold kBeat
  split
  · exact h
  · split
    · exact h
    · exact obK_send h _ _ _
