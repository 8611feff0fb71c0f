-- the reference's bits: shifts that keep the sign
theorem sar_and {x k w : Nat} (hk : k + w ≤ 64) (hk6 : k < 64) : (lN x >>> ((nI k).toInt64 &&& 63)) &&& lN (2 ^ w - 1) = lN (x / 2 ^ k % 2 ^ w) := by
  apply wb_inj
  rw [Int64.toBitVec_and, Int64.toBitVec_shiftRight, wb_c k hk6, wb_tb, wb_tb, wb_tb, wb_tb, wb_sm k hk6]
  apply BitVec.eq_of_getLsbD_eq
  intro i hi
  have e4 : (BitVec.ofNat 64 k).toNat = k := Nat.mod_eq_of_lt (by omega)
  rw [BitVec.getLsbD_and, BitVec.sshiftRight_eq', BitVec.getLsbD_sshiftRight, e4]
  simp only [BitVec.getLsbD_ofNat, Nat.testBit_two_pow_sub_one]
  rw [Nat.testBit_mod_two_pow, Nat.testBit_div_two_pow]
  by_cases h8 : i < w
  · have h9 : k + i < 64 := by omega
    have h10 : ¬ 64 ≤ i := by omega
    simp only [hi, h8, h9, h10, decide_true, decide_false, Bool.not_false, Bool.true_and, Bool.and_true, if_true]
    rw [Nat.add_comm]
  · simp only [h8, decide_false, Bool.and_false, Bool.false_and]
theorem sar_b {x i : Nat} (hi : i < 8) : ((lN x >>> ((nI (8 * i)).toInt64 &&& 63)) &&& 255).toInt32 = nI (bN x i) := by
  rw [show (255 : Int64) = lN (2 ^ 8 - 1) from rfl, sar_and (by omega) (by omega), lN_i]
  rfl
theorem sar_16 (x : Nat) : ((lN x >>> ((8 : Int32).toInt64 &&& 63)) &&& 65535).toInt32 = nI (x / 256 % 65536) := by
  rw [show (65535 : Int64) = lN (2 ^ 16 - 1) from rfl, show (8 : Int32) = nI 8 from rfl, sar_and (by omega) (by omega), lN_i]
theorem sar_32 (x : Nat) : (lN x >>> ((32 : Int32).toInt64 &&& 63)).toInt32 = nI (x / 4294967296) := by
  apply Int32.toBitVec_inj.mp
  rw [Int64.toBitVec_toInt32, Int64.toBitVec_shiftRight, show (32 : Int32) = nI 32 from rfl, wb_c 32 (by decide), wb_tb, wb_tb, wb_sm 32 (by decide)]
  apply BitVec.eq_of_getLsbD_eq
  intro i hi
  have e4 : (BitVec.ofNat 64 32).toNat = 32 := rfl
  have e3 : (nI (x / 4294967296)).toBitVec = BitVec.ofNat 32 (x / 2 ^ 32) := rfl
  rw [e3, BitVec.getLsbD_signExtend, BitVec.sshiftRight_eq', BitVec.getLsbD_sshiftRight, e4]
  simp only [BitVec.getLsbD_ofNat]
  rw [Nat.testBit_div_two_pow]
  have h9 : 32 + i < 64 := by omega
  have h10 : ¬ 64 ≤ i := by omega
  simp only [hi, h9, h10, decide_true, decide_false, Bool.not_false, Bool.true_and, if_true]
  rw [Nat.add_comm, if_pos (by omega)]
-- the reference's world: its outbox is seen as the class's (z: where the count of this call's frames begins)
def jn (lo hg : Int32) : Int64 := lN (lo.toBitVec.toNat + 4294967296 * hg.toBitVec.toNat)
theorem nI_tn (n : Nat) : (nI n).toBitVec.toNat = n % 4294967296 := rfl
theorem tn_nI (x : Int32) : nI x.toBitVec.toNat = x := Int32.toBitVec_inj.mp (by show BitVec.ofNat 32 _ = _; simp)
theorem jn_x {x : Nat} (h : x < 2 ^ 64) : jn (nI x) (nI (x / 4294967296)) = lN x := by
  unfold jn
  rw [nI_tn, nI_tn]
  congr 1
  omega
theorem jn_lo (lo hg : Int32) : (jn lo hg).toInt32 = lo := by
  unfold jn
  rw [lN_i]
  have h : nI (lo.toBitVec.toNat + 4294967296 * hg.toBitVec.toNat) = nI lo.toBitVec.toNat := by
    apply Int32.toBitVec_inj.mp
    show BitVec.ofNat 32 _ = BitVec.ofNat 32 _
    apply BitVec.eq_of_toNat_eq
    rw [BitVec.toNat_ofNat, BitVec.toNat_ofNat]
    omega
  rw [h, tn_nI]
theorem jn_hi (lo hg : Int32) : (jn lo hg >>> ((32 : Int32).toInt64 &&& 63)).toInt32 = hg := by
  unfold jn
  have h1 : lo.toBitVec.toNat < 2 ^ 32 := lo.toBitVec.isLt
  rw [sar_32, show (lo.toBitVec.toNat + 4294967296 * hg.toBitVec.toNat) / 4294967296 = hg.toBitVec.toNat by omega, tn_nI]
abbrev RO : Type := (Nat → Int32) × (Nat → Int32) × (Nat → Int64) × Int32 × Int32
abbrev RT : Type := (Nat → Int32) × Int32 × Int32 × Int32 × Int32 × Int32
abbrev RX : Type := RT × Int64 × Int32
def ro (z : Int32) (o : OB) : RO := (fun k => o.1 (k * 4), fun k => o.1 (k * 4 + 1), fun k => jn (o.1 (k * 4 + 2)) (o.1 (k * 4 + 3)), o.2.1, o.2.2 - z)
def rwG (b : Nat → Nat) (cA cJ : ClassId) (N : Int32) (tI tS tZ tR tP : Nat → Int32) (en fl : Int32) (f : Nat → Int32) (o : RO) (t : RT) (n : ND) (q : Int64) (sg th : Int32) : va_W :=
  [(b 0, .inr (5, [.int th, .int N, .ref (b 1), .ref (b 2), .ref (b 3), .ref (b 4), .ref (b 5), .ref (b 6), .int en, .int fl, .int n.1, .int n.2.2.1, .int n.2.1, .long n.2.2.2, .int t.2.1, .int t.2.2.1, .int t.2.2.2.1, .int t.2.2.2.2.1, .int t.2.2.2.2.2, .ref (b 7), .long q, .int sg, .ref (b 8), .ref (b 9), .ref (b 10), .int o.2.2.2.1, .int o.2.2.2.2])),
   (b 1, .inl (cA, 22, .inl tI)), (b 2, .inl (cA, 22, .inl tS)), (b 3, .inl (cA, 22, .inl tZ)), (b 4, .inl (cA, 22, .inl tR)), (b 5, .inl (cA, 22, .inl tP)),
   (b 6, .inl (cA, 95, .inl f)), (b 7, .inl (cA, 20, .inl t.1)), (b 8, .inl (cA, 32, .inl o.1)), (b 9, .inl (cA, 32, .inl o.2.1)), (b 10, .inl (cJ, 32, .inr (.inl o.2.2.1)))]
def rw0 (b : Nat → Nat) (cA cJ : ClassId) (N : Int32) (f : Nat → Int32) (o : RO) (t : RT) (n : ND) (q : Int64) (sg th : Int32) : va_W :=
  rwG b cA cJ N (fun e => nI (xI e)) (fun e => nI (xS e)) (fun e => nI (xZ e)) (fun e => nI (xR e)) (fun e => nI (xP e)) 22 95 f o t n q sg th
theorem ro_send {z : Int32} {o : OB} {kp : Nat} (id ln : Int32) {x : Nat} (hx : x < 2 ^ 64) (hk : o.2.1 = nI kp) (hk32 : kp < 32) :
    ro z (ob_send o id ln x) = (upd (ro z o).1 kp id, upd (ro z o).2.1 kp ln, vp_updL (ro z o).2.2.1 kp (lN x), nI (kp + 1), (ro z o).2.2.2.2 + 1) := by
  have hlt : o.2.1 < 32 := by rw [hk]; exact nI_lt (b := 32) hk32 (by decide)
  unfold ob_send
  rw [if_pos hlt, hk, nI_clamp (by omega), nI_1]
  unfold ro
  refine Prod.ext ?_ (Prod.ext ?_ (Prod.ext ?_ (Prod.ext rfl ?_)))
  · funext j
    simp only [upd]
    repeat' split
    all_goals first | rfl | omega
  · funext j
    simp only [upd]
    repeat' split
    all_goals first | rfl | omega
  · funext j
    simp only [upd, vp_updL]
    by_cases h : j = kp
    · subst h
      simp only [if_true, if_neg (show ¬ j * 4 + 2 = j * 4 + 3 by omega), jn_x hx]
    · simp only [if_neg h, if_neg (show ¬ j * 4 + 2 = kp * 4 + 3 by omega), if_neg (show ¬ j * 4 + 2 = kp * 4 + 2 by omega), if_neg (show ¬ j * 4 + 2 = kp * 4 + 1 by omega), if_neg (show ¬ j * 4 + 2 = kp * 4 by omega), if_neg (show ¬ j * 4 + 3 = kp * 4 + 3 by omega), if_neg (show ¬ j * 4 + 3 = kp * 4 + 2 by omega), if_neg (show ¬ j * 4 + 3 = kp * 4 + 1 by omega), if_neg (show ¬ j * 4 + 3 = kp * 4 by omega)]
  · show o.2.2 + 1 - z = o.2.2 - z + 1
    rw [Int32.sub_eq_add_neg, Int32.sub_eq_add_neg, Int32.add_assoc, Int32.add_assoc, Int32.add_comm 1]
theorem ro_sendNo {z : Int32} {o : OB} (id ln : Int32) {x : Nat} (hn : ¬ o.2.1 < 32) : ro z (ob_send o id ln x) = ((ro z o).1, (ro z o).2.1, (ro z o).2.2.1, (ro z o).2.2.2.1, (ro z o).2.2.2.2 + 1) := by
  unfold ob_send
  rw [if_neg hn]
  unfold ro
  refine Prod.ext rfl (Prod.ext rfl (Prod.ext rfl (Prod.ext rfl ?_)))
  show o.2.2 + 1 - z = o.2.2 - z + 1
  rw [Int32.sub_eq_add_neg, Int32.sub_eq_add_neg, Int32.add_assoc, Int32.add_assoc, Int32.add_comm 1]
theorem ro_0 (z : Int32) (o : OB) : ((ro z o).1, (ro z o).2.1, (ro z o).2.2.1, (ro z o).2.2.2.1, (0 : Int32)) = ro o.2.2 o := by
  unfold ro
  rw [Int32.sub_self]
-- the reference's transfer, seen beside the class's
def rel (tr : TR) (t : RT) (e d ad : Nat) : Prop := t.1 = tr.1 ∧ ((tr.2.1 = 0 ∧ t.2.1 = 0 ∧ ad = 0) ∨ (tr.2.1 = 1 ∧ ((tr.2.2.1 = 1 ∧ t.2.1 = 1) ∨ (tr.2.2.1 = 0 ∧ t.2.1 = 2)) ∧ t.2.2.1 = nI e ∧ ad = xI e + 65536 * xS e ∧ (∃ u, u < 2 ∧ t.2.2.2.1 = nI u ∧ tr.2.2.2.2.2.2.1 = nI (16 * u)) ∧ t.2.2.2.2.1 = nI d ∧ t.2.2.2.2.2 = tr.2.2.2.2.2.2.2))
def trN (tr : TR) (e d ad : Nat) : Prop := e < 22 ∧ d ≤ xZ e ∧ tr.2.2.2.1 = nI e ∧ tr.2.2.2.2.2.1 = nI d ∧ tr.2.2.2.2.1 = nI ad ∧ ad < 2 ^ 24
def rel2 (tr : TR) (t : RT) : Prop := ∃ e d ad, trN tr e d ad ∧ rel tr t e d ad
def r4 (b : Nat → Nat) (cA cJ : ClassId) (N z th : Int32) (K : ST4) (x : RX) : va_W := rw0 b cA cJ N K.1 (ro z K.2.1) x.1 K.2.2.2 x.2.1 x.2.2 th
def zb_E (r : Option Value) (D : va_G) (cl : List vw_C) (Wd : RX → va_W) (R : RX → Prop) (A : Nat → Prop) : Array Value → State → Outcome → State → Prop := fun _ st o t => o = .returned r ∧ ∃ x, R x ∧ va_P D cl (Wd x) t.heap ∧ va_D A (Wd x) ∧ va_F A st t
section ZBE
variable {p : Program} {l : Launch} {e : Env} {R : Room} {s : State} {m : MethodId} {args : Array Value} {below : List Frame} {meth : Method} {c : Code} {H : Heap} {locs : List Loc} {cells slots : Nat} {Q : State → Prop}
variable {pc : Nat} {ls : Array Slot} {rest st0 : List Value} {a : Array Value}
variable {D : va_G} {cl : List vw_C} {A : Nat → Prop} {w0 : va_W} {Wd : RX → va_W} {Rx : RX → Prop} {mc ms : Nat}
theorem zb_ce (hr : va_Run p l e R s m args below meth c H locs cells slots mc ms (F0 m pc ls st0) rest (zb_E none D cl Wd Rx (va_A w0 H.size) a) (va_A w0 H.size)) (hD : va_D A w0) (hS : va_S A s.heap H locs) (hA : ∀ q, s.heap.size ≤ q → A q)
    (kk : ∀ x, Rx x → ∀ (H1 : Heap) (locs1 : List Loc), va_P D cl (Wd x) H1 → va_D A (Wd x) → va_S A s.heap H1 locs1 → W p l e R s m args below meth c H1 locs1 (cells + mc) (slots + ms) Q (F0 m (pc + 3) ls rest)) : W p l e R s m args below meth c H locs cells slots Q (F0 m pc ls st0) := by
  have hF := zb_A (D := D) (cl := cl) hD hS hA
  intro T hT X
  obtain ⟨v, st₀, t, T', L, h0, X', hL, e1, e2, ⟨hv, x, hx, hP1, hD1, hz, hk⟩, st⟩ := hr T hT X
  cases hv
  rw [h0] at hz hk
  obtain ⟨t2, a1, b1⟩ := kk x hx T'.heap (locs ++ L) (by rw [e1]; exact hP1) (hD1.weaken (fun _ q _ h => hF q.1 h))
    ⟨Nat.le_trans hS.1 (by rw [e1]; exact hz), fun q h1 h2 => by rw [e1, hk q (Nat.lt_of_lt_of_le h1 hS.1) (fun z => h2 (hF q z))]; exact hS.2.1 q h1 h2, fun q hq => by
      rcases List.mem_append.mp hq with h | h
      · exact hS.2.2 q h
      · exact hF _ (hL q h)⟩ T' rfl X'
  exact ⟨t2, st t2 a1, b1⟩
theorem zb_cei {r : Int32} (hr : va_Run p l e R s m args below meth c H locs cells slots mc ms (F0 m pc ls st0) rest (zb_E (some (.int r)) D cl Wd Rx (va_A w0 H.size) a) (va_A w0 H.size)) (hD : va_D A w0) (hS : va_S A s.heap H locs) (hA : ∀ q, s.heap.size ≤ q → A q)
    (kk : ∀ x, Rx x → ∀ (H1 : Heap) (locs1 : List Loc), va_P D cl (Wd x) H1 → va_D A (Wd x) → va_S A s.heap H1 locs1 → W p l e R s m args below meth c H1 locs1 (cells + mc) (slots + ms) Q (F0 m (pc + 3) ls (.int r :: rest))) : W p l e R s m args below meth c H locs cells slots Q (F0 m pc ls st0) := by
  have hF := zb_A (D := D) (cl := cl) hD hS hA
  intro T hT X
  obtain ⟨v, st₀, t, T', L, h0, X', hL, e1, e2, ⟨hv, x, hx, hP1, hD1, hz, hk⟩, st⟩ := hr T hT X
  cases hv
  rw [h0] at hz hk
  obtain ⟨t2, a1, b1⟩ := kk x hx T'.heap (locs ++ L) (by rw [e1]; exact hP1) (hD1.weaken (fun _ q _ h => hF q.1 h))
    ⟨Nat.le_trans hS.1 (by rw [e1]; exact hz), fun q h1 h2 => by rw [e1, hk q (Nat.lt_of_lt_of_le h1 hS.1) (fun z => h2 (hF q z))]; exact hS.2.1 q h1 h2, fun q hq => by
      rcases List.mem_append.mp hq with h | h
      · exact hS.2.2 q h
      · exact hF _ (hL q h)⟩ T' rfl X'
  exact ⟨t2, st t2 a1, b1⟩
end ZBE
-- the reference's find: the last row that fits; its named: the rights first
def rfF (i s : Int32) : Nat → Int32
  | 0 => -2
  | k + 1 => if nI (xI k) = i then (if nI (xS k) = s then nI k else if rfF i s k = -2 then -1 else rfF i s k) else rfF i s k
def rF (i s : Int32) : Int32 := (fd i s).elim (if hi i = true then -1 else -2) nI
theorem fdF_snoc (i s : Int32) : ∀ n e, fdF i s (n + 1) e = (fdF i s n e).elim (if nI (xI (e + n)) = i then (if nI (xS (e + n)) = s then some (e + n) else none) else none) some := by
  intro n
  induction n with
  | zero =>
    intro e
    show (if nI (xI e) = i then (if nI (xS e) = s then some e else none) else none) = _
    rfl
  | succ n ih =>
    intro e
    show (if nI (xI e) = i then (if nI (xS e) = s then some e else fdF i s (n + 1) (e + 1)) else fdF i s (n + 1) (e + 1)) = (if nI (xI e) = i then (if nI (xS e) = s then some e else fdF i s n (e + 1)) else fdF i s n (e + 1)).elim _ _
    rw [ih (e + 1), show e + 1 + n = e + (n + 1) by omega]
    by_cases h1 : nI (xI e) = i
    · by_cases h2 : nI (xS e) = s
      · simp only [if_pos h1, if_pos h2, Option.elim]
      · simp only [if_pos h1, if_neg h2]
    · simp only [if_neg h1]
theorem hiF_snoc (i : Int32) : ∀ n e, hiF i (n + 1) e = (hiF i n e || decide (nI (xI (e + n)) = i)) := by
  intro n
  induction n with
  | zero =>
    intro e
    show (if nI (xI e) = i then true else false) = (false || decide (nI (xI (e + 0)) = i))
    by_cases h : nI (xI e) = i
    · simp [h]
    · simp [h]
  | succ n ih =>
    intro e
    show (if nI (xI e) = i then true else hiF i (n + 1) (e + 1)) = ((if nI (xI e) = i then true else hiF i n (e + 1)) || _)
    rw [ih (e + 1), show e + 1 + n = e + (n + 1) by omega]
    by_cases h : nI (xI e) = i
    · simp only [if_pos h, Bool.true_or]
    · simp only [if_neg h]
theorem x_uni : ∀ e, e < 22 → ∀ k, k < 22 → xI e = xI k → xS e = xS k → e = k := by decide +kernel
theorem fd_hi {i s : Int32} : ∀ n e k, fdF i s n e = some k → hiF i n e = true := by
  intro n
  induction n with
  | zero => intro e k h; cases h
  | succ n ih =>
    intro e k h
    show (if nI (xI e) = i then true else hiF i n (e + 1)) = true
    by_cases h1 : nI (xI e) = i
    · rw [if_pos h1]
    · rw [if_neg h1]
      simp only [fdF, if_neg h1] at h
      exact ih _ _ h
theorem rfF_eq (i s : Int32) : ∀ n, n ≤ 22 → rfF i s n = (fdF i s n 0).elim (if hiF i n 0 = true then -1 else -2) nI := by
  intro n
  induction n with
  | zero => intro _; rfl
  | succ n ih =>
    intro hn
    have ih := ih (by omega)
    show (if nI (xI n) = i then (if nI (xS n) = s then nI n else if rfF i s n = -2 then -1 else rfF i s n) else rfF i s n) = _
    rw [fdF_snoc, hiF_snoc, Nat.zero_add]
    cases h : fdF i s n 0 with
    | none =>
      rw [h] at ih
      have ih : rfF i s n = (if hiF i n 0 = true then -1 else -2) := ih
      by_cases h1 : nI (xI n) = i
      · by_cases h2 : nI (xS n) = s
        · simp only [if_pos h1, if_pos h2, Option.elim]
        · simp only [if_pos h1, if_neg h2, Option.elim, ih, h1, decide_true, Bool.or_true, if_true]
          by_cases h3 : hiF i n 0 = true
          · simp only [if_pos h3]; rfl
          · simp only [if_neg h3, if_true]
      · rw [if_neg h1, if_neg h1, ih, decide_eq_false h1, Bool.or_false]; rfl
    | some k =>
      rw [h] at ih
      have ih : rfF i s n = nI k := ih
      obtain ⟨a1, a2, a3⟩ := fdF_lt n 0 k h
      have hne : ¬ nI k = (-2) := (by decide +kernel : ∀ k, k < 22 → ¬ nI k = (-2)) k (by omega)
      show _ = nI k
      by_cases h1 : nI (xI n) = i
      · by_cases h2 : nI (xS n) = s
        · exfalso
          have f1 := x_fit n (by omega)
          have f2 := x_fit k (by omega)
          have b1 := (nI_eq (by omega) (by omega)).mp (h1.trans a2.symm)
          have b2 := (nI_eq (by omega) (by omega)).mp (h2.trans a3.symm)
          have := x_uni n (by omega) k (by omega) b1 b2
          omega
        · simp only [if_pos h1, if_neg h2, ih, if_neg hne]
      · simp only [if_neg h1, ih]
theorem rF_eq (i s : Int32) : rfF i s 22 = rF i s := rfF_eq i s 22 (Nat.le_refl _)
def mpR (nm : Int32) (r : Nat) : Nat → Nat → Option Nat
  | 0, _ => none
  | n + 1, e => if nI (xR e &&& 4) = 0 then mpR nm r n (e + 1) else if nI (xR e &&& r) = 0 then mpR nm r n (e + 1) else if nm = nI (xKey e) then some e else mpR nm r n (e + 1)
theorem xKey_uni : ∀ e, e < 22 → ∀ k, k < 22 → nI (xKey e) = nI (xKey k) → e = k := by decide +kernel
theorem mpR_no {nm : Int32} {r : Nat} : ∀ n e, (∀ k, e ≤ k → k < e + n → ¬ nm = nI (xKey k)) → mpR nm r n e = none := by
  intro n
  induction n with
  | zero => intro e _; rfl
  | succ n ih =>
    intro e h
    have h1 := ih (e + 1) (fun k a b => h k (by omega) (by omega))
    show (if nI (xR e &&& 4) = 0 then mpR nm r n (e + 1) else if nI (xR e &&& r) = 0 then mpR nm r n (e + 1) else if nm = nI (xKey e) then some e else mpR nm r n (e + 1)) = none
    rw [h1, if_neg (h e (by omega) (by omega))]
    repeat' split
    all_goals rfl
theorem xr_ok : ∀ x, x < 8 → ∀ r, r < 3 → 1 ≤ r → ((x &&& (r + 4) = r + 4) ↔ ¬ nI (x &&& 4) = 0 ∧ ¬ nI (x &&& r) = 0) := by decide +kernel
theorem mpR_eq {nm : Int32} {r : Nat} (hr1 : 1 ≤ r) (hr2 : r ≤ 2) : ∀ n e, e + n ≤ 22 → mpR nm r n e = mpF nm (r + 4) n e := by
  intro n
  induction n with
  | zero => intro e _; rfl
  | succ n ih =>
    intro e he
    have ih := ih (e + 1) (by omega)
    have hok := xr_ok (xR e) (x_fit e (by omega)).2.2.2.2.2 r (by omega) hr1
    show (if nI (xR e &&& 4) = 0 then mpR nm r n (e + 1) else if nI (xR e &&& r) = 0 then mpR nm r n (e + 1) else if nm = nI (xKey e) then some e else mpR nm r n (e + 1)) = (if nI (xKey e) = nm then (if xR e &&& (r + 4) = r + 4 then some e else none) else mpF nm (r + 4) n (e + 1))
    by_cases h1 : nI (xKey e) = nm
    · rw [if_pos h1, if_pos h1.symm]
      have h2 : mpR nm r n (e + 1) = none := mpR_no n (e + 1) (fun k a b h => by
        have := xKey_uni e (by omega) k (by omega) (h1.trans h)
        omega)
      rw [h2]
      by_cases h3 : xR e &&& (r + 4) = r + 4
      · rw [if_pos h3, if_neg (hok.mp h3).1, if_neg (hok.mp h3).2]
      · rw [if_neg h3]
        by_cases h4 : nI (xR e &&& 4) = 0
        · rw [if_pos h4]
        · rw [if_neg h4]
          by_cases h5 : nI (xR e &&& r) = 0
          · rw [if_pos h5]
          · exact absurd (hok.mpr ⟨h4, h5⟩) h3
    · have h9 : ¬ nm = nI (xKey e) := fun h => h1 h.symm
      rw [if_neg h1, if_neg h9, ih]
      repeat' split
      all_goals rfl
