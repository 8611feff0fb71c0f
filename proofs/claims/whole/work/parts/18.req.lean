-- requests, as functions of the node's state
abbrev ST4 : Type := (Nat → Int32) × OB × TR × ND
def eAt (ad : Nat) : Option Nat := fd (nI (ad % 65536)) (nI (ad / 65536))
def aX (ad : Nat) : Nat := aN (nI (ad % 65536))
def kCmd (N : Int32) (f : Nat → Int32) (ob : OB) (tr : TR) (nd : ND) (wh : Nat) : ST4 :=
  if wh = 1 then (f, ob, tr, nRun f nd) else if wh = 2 then (f, ob, tr_end tr, (4, nd.2)) else if wh = 128 then (f, ob, tr, (127, nd.2))
  else if wh = 129 then (va_cpy tF f 0 0 95, kBoot N ob, tr_end tr, nBoot nd) else if wh = 130 then (va_cpy tF f 0 0 42, kBoot N ob, tr_end tr, nBoot nd) else (f, ob, tr, nd)
def kAbort (N : Int32) (f : Nat → Int32) (ob : OB) (tr : TR) (nd : ND) (ad cd : Nat) : ST4 := (f, kAns N ob 128 ad cd, tr_end tr, nd)
def trW (tr : TR) (e ad hg : Nat) : TR := tr_add (tr_begin (tr_end tr) (nI e) (nI ad) 1) 0 (xZ e) (sx hg)
def vW (tr : TR) (e ad hg : Nat) : Nat := sm (trW tr e ad hg).1 0 (min (0 + xZ e) 4)
def kWrite (N : Int32) (f : Nat → Int32) (ob : OB) (tr : TR) (nd : ND) (fi ad hg : Nat) : ST4 :=
  (eAt ad).elim (kAbort N f ob (tr_end tr) nd ad (aX ad)) (fun e =>
    if nI (aS e 2) = 0 then
      (if nI (lF fi (nI hg) (xZ e)) = 0 then
        (if nI fi &&& 2 = 0 then (f, kAns N ob 96 ad 0, tr_begin (tr_end tr) (nI e) (nI ad) 1, nd)
         else if nI (stF nd.1 f e (vW tr e ad hg)) = 0 then (fSto f (trW tr e ad hg).1 e, kAns N ob 96 ad 0, tr_end (trW tr e ad hg), nSto e nd)
         else kAbort N f ob (trW tr e ad hg) nd ad (stF nd.1 f e (vW tr e ad hg)))
       else kAbort N f ob (tr_end tr) nd ad (lF fi (nI hg) (xZ e)))
    else kAbort N f ob (tr_end tr) nd ad (aS e 2))
def kRead (N : Int32) (f : Nat → Int32) (ob : OB) (tr : TR) (nd : ND) (ad : Nat) : ST4 :=
  (eAt ad).elim (kAbort N f ob (tr_end tr) nd ad (aX ad)) (fun e =>
    if nI (aS e 1) = 0 then
      (if 4 < nI (xZ e) then (f, kAns N ob 65 ad (xZ e), tr_begin (tr_end tr) (nI e) (nI ad) 0, nd)
       else (f, kAns N ob (67 + 4 * (4 - xZ e)) ad (sm f (xP e) (xZ e)), tr_end tr, nd))
    else kAbort N f ob (tr_end tr) nd ad (aS e 1))
def sn (fi : Nat) : Nat := 7 - fi / 2 % 8
def kWSeg (N : Int32) (f : Nat → Int32) (ob : OB) (tr : TR) (nd : ND) (fi x e d ad : Nat) : ST4 :=
  if nI (sF tr fi 1) = 0 then
    (if sn fi ≤ xZ e - d then
      (if nI fi &&& 1 = 0 then (f, kAns N ob (32 + fi / 16 % 2 * 16) 0 0, tr_next (tr_add tr d (sn fi) x), nd)
       else if nI (xZ e - (d + sn fi)) ≤ 0 then
        (if nI (stF nd.1 f e (sm (tr_add tr d (sn fi) x).1 0 (min (d + sn fi) 4))) = 0 then (fSto f (tr_add tr d (sn fi) x).1 e, kAns N ob (32 + fi / 16 % 2 * 16) 0 0, tr_end (tr_add tr d (sn fi) x), nSto e nd)
         else kAbort N f ob (tr_add tr d (sn fi) x) nd ad (stF nd.1 f e (sm (tr_add tr d (sn fi) x).1 0 (min (d + sn fi) 4))))
       else kAbort N f ob (tr_add tr d (sn fi) x) nd ad 101122067)
    else kAbort N f ob tr nd ad 101122066)
  else kAbort N f ob tr nd ad (sF tr fi 1)
def rc (e d : Nat) : Nat := min 7 (xZ e - d)
def rx (f : Nat → Int32) (fi e d : Nat) (b : Nat) : Nat := sm f (xP e + d) (rc e d) * 256 + (fi / 16 % 2 * 16 + 2 * (7 - rc e d) + b)
def trR (tr : TR) (e d : Nat) : TR := (tr.1, tr.2.1, tr.2.2.1, tr.2.2.2.1, tr.2.2.2.2.1, nI (d + rc e d), tr.2.2.2.2.2.2.1, tr.2.2.2.2.2.2.2)
def kRSeg (N : Int32) (f : Nat → Int32) (ob : OB) (tr : TR) (nd : ND) (fi e d ad : Nat) : ST4 :=
  if nI (sF tr fi 0) = 0 then
    (if nI (xZ e - (d + rc e d)) = 0 then (f, ob_send ob (1408 + N) 8 (rx f fi e d 1), tr_end (trR tr e d), nd)
     else (f, ob_send ob (1408 + N) 8 (rx f fi e d 0), tr_next (trR tr e d), nd))
  else kAbort N f ob tr nd ad (sF tr fi 0)
def kReq (N : Int32) (f : Nat → Int32) (ob : OB) (tr : TR) (nd : ND) (lo hg e d ad : Nat) : ST4 :=
  if lo % 256 / 32 = 0 then kWSeg N f ob tr nd (lo % 256) ((lo + 4294967296 * hg) / 256) e d ad
  else if lo % 256 / 32 = 1 then kWrite N f ob tr nd (lo % 256) (lo / 256) hg
  else if lo % 256 / 32 = 2 then kRead N f ob tr nd (lo / 256)
  else if lo % 256 / 32 = 3 then kRSeg N f ob tr nd (lo % 256) e d ad
  else if lo % 256 / 32 = 4 then (f, ob, tr_end tr, nd)
  else kAbort N f ob tr nd (lo / 256) 84148225
def c4 (a : Nat → Nat) (cA : ClassId) (N : Int32) (u : ST4) : va_W := cw a cA N u.1 u.2.1 u.2.2.1 u.2.2.2
theorem lF_at {fi z : Nat} {hg : Int32} (hz : z ≤ 20) (h : nI (lF fi hg z) = 0) (h2 : ¬ nI fi &&& 2 = 0) : z ≤ 4 := by
  unfold lF at h
  split at h
  · rename_i h3
    split at h
    · rename_i h4
      unfold lenOf at h4
      rw [if_neg h2] at h4
      split at h4
      · split at h4
        · exact (nI_leI (a := z) (b := 4) (by omega) (by decide)).mp h4
        · rename_i h5
          have h6 : ¬ 4 < z := fun q => h5 (nI_lt (a := 4) q (by omega))
          omega
      · refine (by decide +kernel : ∀ z, z ≤ 20 → ∀ q, q < 4 → nI z ≤ (4 : Int32) - nI q → z ≤ 4) z hz ((nI fi >>> ((2 : Int32) &&& 31)).toBitVec.toNat % 4) (Nat.mod_lt _ (by decide)) ?_
        rw [pk_and _ (m := 3) 2 (by decide)] at h4
        exact h4
    · exact absurd h (by decide)
  · exact absurd h (by decide)
theorem rx_or {s b : Nat} (hs : s < 2 ^ 56) (hb : b < 256) : lN s <<< ((8 : Int32).toInt64 &&& 63) ||| (nI b).toInt64 = lN (s * 256 + b) := by
  rw [show (8 : Int32) = nI 8 from rfl, wb_shl s (by decide), nI_l (by omega), g_or (k := 8) rfl (by omega) (by omega)]
theorem hd16 {fi c : Nat} (hf : fi < 256) (hc : c ≤ 7) : (nI fi &&& 16) + 2 * (7 - nI c) = nI (fi / 16 % 2 * 16 + 2 * (7 - c)) := by
  rw [a16 fi hf, show (7 : Int32) - nI c = nI (7 - c) from pk_sub (a := 7) hc, show (2 : Int32) * nI (7 - c) = nI (2 * (7 - c)) from pk_mul 2 _, nI_add]
