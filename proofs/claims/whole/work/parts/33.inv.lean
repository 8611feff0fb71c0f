-- what stays: bytes, maps, outbox, transfer, state
def iF (f : Nat → Int32) : Prop := isB f ∧ mapK f 3 6 ∧ mapK f 9 5
def iT (tr : TR) : Prop := isB tr.1 ∧ (tr.2.1 = 0 ∨ ∃ tk, tk < 8 ∧ tr.2.2.2.2.2.2.2 = nI tk)
def iS (nd : ND) : Prop := ∃ sv, sv < 128 ∧ nd.1 = nI sv
def I0 (u : ST4) : Prop := iF u.1 ∧ obK u.2.1 ∧ iT u.2.2.1 ∧ iS u.2.2.2
theorem nI_z {x : Nat} (h : x < 2 ^ 32) (h2 : nI x = 0) : x = 0 := by
  have h3 : (nI x).toBitVec.toNat = (0 : Int32).toBitVec.toNat := by rw [h2]
  rw [nI_tn] at h3
  have h4 : (0 : Int32).toBitVec.toNat = 0 := rfl
  rw [h4] at h3
  omega
theorem mE_keep {f g : Nat → Int32} {m r n : Nat} (hm : m = 3 ∨ m = 9) (h : ∀ j, xP m + 1 ≤ j → j < xP m + 17 → g j = f j) (h1 : 1 ≤ n) (h4 : n ≤ 4) : mE g m r n = mE f m r n := by
  unfold mE
  have hp : xP m + 1 ≤ xP (m + n) ∧ xP (m + n) + 4 ≤ xP m + 17 := by
    rcases hm with rfl | rfl
    · exact (by decide : ∀ n, n < 5 → 1 ≤ n → xP 3 + 1 ≤ xP (3 + n) ∧ xP (3 + n) + 4 ≤ xP 3 + 17) n (by omega) h1
    · exact (by decide : ∀ n, n < 5 → 1 ≤ n → xP 9 + 1 ≤ xP (9 + n) ∧ xP (9 + n) + 4 ≤ xP 9 + 17) n (by omega) h1
  rw [sm_congr 4 (fun i hi => h _ (by omega) (by omega))]
theorem mOk_keep {f g : Nat → Int32} {m r : Nat} (hm : m = 3 ∨ m = 9) (h : ∀ j, xP m + 1 ≤ j → j < xP m + 17 → g j = f j) : ∀ n, n ≤ 4 → mOk g m r n = mOk f m r n := by
  intro n
  induction n with
  | zero => intro _; rfl
  | succ n ih => intro hn; rw [mOk_u, mOk_u, ih (by omega), mE_keep hm h (by omega) hn]
theorem mL_keep {f g : Nat → Int32} {m r : Nat} (hm : m = 3 ∨ m = 9) (h : ∀ j, xP m + 1 ≤ j → j < xP m + 17 → g j = f j) : ∀ n, n ≤ 4 → mL g m r n = mL f m r n := by
  intro n
  induction n with
  | zero => intro _; rfl
  | succ n ih => intro hn; rw [mL_u, mL_u, ih (by omega), mE_keep hm h (by omega) hn]
theorem map_keep {f g : Nat → Int32} {m r : Nat} (hm : m = 3 ∨ m = 9) (h : ∀ j, xP m ≤ j → j < xP m + 17 → g j = f j) (hK : mapK f m r) : mapK g m r := by
  have e1 : bv g (xP m) = bv f (xP m) := by unfold bv; rw [h _ (Nat.le_refl _) (by omega)]
  have h' : ∀ j, xP m + 1 ≤ j → j < xP m + 17 → g j = f j := fun j a b => h j (by omega) b
  unfold mapK
  rw [e1, mOk_keep hm h' _ hK.1, mL_keep hm h' _ hK.1]
  exact hK
theorem map_0 {g : Nat → Int32} {m r : Nat} (h : bv g (xP m) = 0) : mapK g m r := by
  unfold mapK
  rw [h]
  exact ⟨by decide, rfl, Nat.zero_le 8⟩
theorem iF_keep {f g : Nat → Int32} (hB : isB g) (h : ∀ j, 7 ≤ j → j < 42 → j ≠ 24 → g j = f j) (hF : iF f) : iF g :=
  ⟨hB, map_keep (Or.inl rfl) (fun j a b => h j a (by have : xP 3 = 7 := rfl; omega) (by have : xP 3 = 7 := rfl; omega)) hF.2.1, map_keep (Or.inr rfl) (fun j a b => h j (by have : xP 9 = 25 := rfl; omega) (by have : xP 9 = 25 := rfl; omega) (by have : xP 9 = 25 := rfl; omega)) hF.2.2⟩
theorem isB_cpy {h f : Nat → Int32} (hh : isB h) (hf : isB f) (s n : Nat) : isB (va_cpy h f 0 s n) := by
  intro j
  unfold va_cpy
  split
  · exact hh _
  · exact hf j
theorem tF_B : ∀ j, ∃ b, b < 256 ∧ tF j = nI b := by
  intro j
  by_cases hj : j < 95
  · exact ⟨(tF j).toNatClampNeg, (by decide +kernel : ∀ j, j < 95 → (tF j).toNatClampNeg < 256 ∧ tF j = nI (tF j).toNatClampNeg) j hj⟩
  · refine ⟨0, by decide, ?_⟩
    show (tabF[j]?).getD 0 = nI 0
    rw [List.getElem?_eq_none (by show 95 ≤ j; omega)]
    rfl
theorem iF_reset {f : Nat → Int32} (hB : isB f) {B : Nat} (h : 26 ≤ B) : iF (va_cpy tF f 0 0 B) := by
  have h1 : ∀ j, j < 26 → va_cpy tF f 0 0 B j = tF j := by
    intro j hj
    unfold va_cpy
    rw [if_pos (by omega), show 0 + (j - 0) = j by omega]
  refine ⟨isB_cpy tF_B hB _ _, map_0 ?_, map_0 ?_⟩
  · unfold bv
    rw [show xP 3 = 7 from rfl, h1 7 (by decide)]
    rfl
  · unfold bv
    rw [show xP 9 = 25 from rfl, h1 25 (by decide)]
    rfl
theorem cpy_out {h f : Nat → Int32} {s n j : Nat} (hj : j < s ∨ s + n ≤ j) : va_cpy h f 0 s n j = f j := by
  unfold va_cpy
  rw [if_neg (by omega)]
theorem cF_0 {f : Nat → Int32} {m r v : Nat} (h : cF f m r v = 0) : v ≤ 4 ∧ mOk f m r v = true ∧ mL f m r v ≤ 8 := by
  unfold cF at h
  split at h
  · cases h
  · split at h
    · split at h
      · cases h
      · rename_i h1 h2 h3
        exact ⟨by omega, h2, by omega⟩
    · cases h
theorem nF_0 {cn r : Nat} {nm : Int32} (h : nF cn r nm = 0) : cn = 0 := by
  unfold nF at h
  split at h
  · assumption
  · cases h
theorem map_cnt {f h : Nat → Int32} {m r : Nat} (hm : m = 3 ∨ m = 9) (hh : isB h) (hc : cF f m r (sm h 0 (min (xZ m) 4)) = 0) : mapK (va_cpy h f 0 (xP m) (xZ m)) m r := by
  have hz : xZ m = 1 := by rcases hm with rfl | rfl <;> rfl
  rw [hz, show min 1 4 = 1 from rfl, sm_1] at hc
  rw [hz]
  obtain ⟨h1, h2, h3⟩ := cF_0 hc
  have e1 : bv (va_cpy h f 0 (xP m) 1) (xP m) = bv h 0 := by
    unfold bv va_cpy
    rw [if_pos (by omega), show 0 + (xP m - xP m) = 0 by omega]
  have hk : ∀ j, xP m + 1 ≤ j → j < xP m + 17 → va_cpy h f 0 (xP m) 1 j = f j := fun j a _ => cpy_out (by omega)
  unfold mapK
  rw [e1, mOk_keep hm hk _ h1, mL_keep hm hk _ h1]
  exact ⟨h1, h2, h3⟩
theorem x_rng : ∀ e, e < 22 → (e < 3 → xP e + xZ e ≤ 7) ∧ ((3 ≤ e ∧ e ≤ 7) → 7 ≤ xP e ∧ xP e + xZ e ≤ 24) ∧ ((4 ≤ e ∧ e ≤ 7) → 8 ≤ xP e) ∧ ((9 ≤ e ∧ e ≤ 13) → 25 ≤ xP e ∧ xP e + xZ e ≤ 42) ∧ ((10 ≤ e ∧ e ≤ 13) → 26 ≤ xP e) ∧ (14 ≤ e → 42 ≤ xP e) ∧ (e = 8 → xP e = 24 ∧ xZ e = 1) := by decide
theorem iF_sto {f h : Nat → Int32} {st : Int32} {e : Nat} (hF : iF f) (hh : isB h) (he : e < 22) (hs : stF st f e (sm h 0 (min (xZ e) 4)) = 0) : iF (fSto f h e) := by
  have hB : isB (fSto f h e) := isB_cpy hh hF.1 _ _
  have hx := x_rng e he
  have h3 : xP 3 = 7 := rfl
  have h9 : xP 9 = 25 := rfl
  rcases (show e = 3 ∨ (4 ≤ e ∧ e ≤ 7) ∨ e = 9 ∨ (10 ≤ e ∧ e ≤ 13) ∨ (e < 3 ∨ e = 8 ∨ 14 ≤ e) by omega) with hc | hc | hc | hc | hc
  · subst hc
    rw [stF_3] at hs
    split at hs
    · refine ⟨hB, map_cnt (Or.inl rfl) hh hs, map_keep (Or.inr rfl) (fun j a b => cpy_out (by have := hx.2.1 (by omega); omega)) hF.2.2⟩
    · cases hs
  · rw [stF_T _ _ _ hc.1 hc.2] at hs
    have hr := hx.2.1 (by omega)
    have hr2 := hx.2.2.1 hc
    split at hs
    · have h0 := nF_0 hs
      refine ⟨hB, map_0 ?_, map_keep (Or.inr rfl) (fun j a b => cpy_out (by omega)) hF.2.2⟩
      have e1 : fSto f h e (xP 3) = f (xP 3) := cpy_out (by omega)
      unfold bv
      rw [e1]
      exact h0
    · cases hs
  · subst hc
    rw [stF_9] at hs
    split at hs
    · refine ⟨hB, map_keep (Or.inl rfl) (fun j a b => cpy_out (by have := hx.2.2.2.1 (by omega); omega)) hF.2.1, map_cnt (Or.inr rfl) hh hs⟩
    · cases hs
  · rw [stF_G _ _ _ hc.1 hc.2] at hs
    have hr := hx.2.2.2.1 (by omega)
    have hr2 := hx.2.2.2.2.1 hc
    split at hs
    · have h0 := nF_0 hs
      refine ⟨hB, map_keep (Or.inl rfl) (fun j a b => cpy_out (by omega)) hF.2.1, map_0 ?_⟩
      have e1 : fSto f h e (xP 9) = f (xP 9) := cpy_out (by omega)
      unfold bv
      rw [e1]
      exact h0
    · cases hs
  · refine iF_keep hB (fun j a b c => cpy_out ?_) hF
    rcases hc with hc | hc | hc
    · have := hx.1 hc; omega
    · have := hx.2.2.2.2.2.2 hc; omega
    · have := hx.2.2.2.2.2.1 hc; omega
theorem iF_pF14 {f : Nat → Int32} {e x : Nat} (hF : iF f) (he : e < 22) (h14 : 14 ≤ e) : iF (pF f (xP e) (xZ e) x 0) :=
  iF_keep (isB_pF hF.1 _ _ _ _) (fun j a b _ => pF_low ((x_rng e he).2.2.2.2.2.1 h14) j b) hF
theorem iF_take {f : Nat → Int32} (hF : iF f) (nd : ND) (ln : Int32) (x : Nat) : iF (fTake f nd ln x) := by
  unfold fTake
  split
  · split
    · exact hF
    · split
      · refine iF_keep (isB_pF hF.1 _ _ _ _) (fun j a b _ => ?_) hF
        unfold pF
        rw [if_neg (by have : xP 1 = 4 := rfl; have : xZ 1 = 1 := rfl; omega)]
      · exact iF_keep (mW_B hF.1 _ _ _ _) (fun j a b _ => mW_low x f _ j b) hF
  · exact hF
theorem mW_8 {f : Nat → Int32} (hT : mapK f 3 6) (x : Nat) : (mW 3 6 x f (cT f)).2 ≤ 8 := by
  rw [mW_2 x f _ hT.1]
  exact hT.2.2
theorem iT_end {tr : TR} (h : isB tr.1) : iT (tr_end tr) := ⟨h, Or.inl rfl⟩
theorem iT_begin {tr : TR} (h : isB tr.1) (e ad wr : Int32) : iT (tr_begin tr e ad wr) := ⟨h, Or.inr ⟨0, by decide, rfl⟩⟩
theorem iT_next {tr : TR} (h : isB tr.1) : iT (tr_next tr) := ⟨h, Or.inr ⟨0, by decide, rfl⟩⟩
theorem obK_ans {N : Int32} {ob : OB} (h : obK ob) (a b c : Nat) : obK (kAns N ob a b c) := obK_send h _ _ _
theorem obK_new {N : Int32} {f : Nat → Int32} {ob : OB} {nd : ND} (h : obK ob) : obK (kNew N f ob nd) := by
  unfold kNew
  split
  · exact h
  · exact obK_send h _ _ _
theorem obK_ev {N : Int32} {f : Nat → Int32} {ob : OB} {nd : ND} (h : obK ob) : obK (kEv N f ob nd) := by
  unfold kEv
  repeat' split
  all_goals first | exact h | exact obK_new h
theorem obK_sync {N : Int32} {f : Nat → Int32} {ob : OB} {nd : ND} (h : obK ob) : obK (kSync N f ob nd) := by
  unfold kSync
  repeat' split
  all_goals first | exact h | exact obK_new h | exact obK_send h _ _ _
theorem iS_new {f : Nat → Int32} {nd : ND} (h : iS nd) : iS (nNew f nd) := by
  unfold nNew
  split
  · exact h
  · exact h
theorem iS_ev {f : Nat → Int32} {nd : ND} (h : iS nd) : iS (nEv f nd) := by
  unfold nEv
  repeat' split
  all_goals first | exact h | exact iS_new h
theorem iS_sync {f : Nat → Int32} {nd : ND} (h : iS nd) : iS (nSync f nd) := by
  unfold nSync
  repeat' split
  all_goals first | exact h | exact iS_new h
theorem iS_sto {e : Nat} {nd : ND} (h : iS nd) : iS (nSto e nd) := by
  unfold nSto
  repeat' split
  all_goals exact h
theorem iS_run {f : Nat → Int32} {nd : ND} (h : iS nd) : iS (nRun f nd) := by
  unfold nRun
  split
  · exact h
  · exact ⟨5, by decide, rfl⟩
theorem iS_beat {f : Nat → Int32} {nd : ND} (h : iS nd) : iS (nBeat f nd) := by
  unfold nBeat
  repeat' split
  all_goals exact h
theorem I0_end {N : Int32} {u : ST4} (h : I0 u) : I0 (kEnd N u) := ⟨h.1, obK_ev h.2.1, h.2.2.1, iS_ev h.2.2.2⟩
theorem I0_abort {N : Int32} {f : Nat → Int32} {ob : OB} {tr : TR} {nd : ND} (h1 : iF f) (h2 : obK ob) (h3 : isB tr.1) (h4 : iS nd) (ad cd : Nat) : I0 (kAbort N f ob tr nd ad cd) := ⟨h1, obK_ans h2 _ _ _, iT_end h3, h4⟩
theorem I0_cmd {N : Int32} {f : Nat → Int32} {ob : OB} {tr : TR} {nd : ND} (h : I0 (f, ob, tr, nd)) (wh : Nat) : I0 (kCmd N f ob tr nd wh) := by
  obtain ⟨h1, h2, h3, h4⟩ := h
  unfold kCmd
  split
  · exact ⟨h1, h2, h3, iS_run h4⟩
  · split
    · exact ⟨h1, h2, iT_end h3.1, ⟨4, by decide, rfl⟩⟩
    · split
      · exact ⟨h1, h2, h3, ⟨127, by decide, rfl⟩⟩
      · split
        · exact ⟨iF_reset h1.1 (by decide), obK_send h2 _ _ _, iT_end h3.1, ⟨127, by decide, rfl⟩⟩
        · split
          · exact ⟨iF_reset h1.1 (by decide), obK_send h2 _ _ _, iT_end h3.1, ⟨127, by decide, rfl⟩⟩
          · exact ⟨h1, h2, h3, h4⟩
theorem I0_read {N : Int32} {f : Nat → Int32} {ob : OB} {tr : TR} {nd : ND} (h : I0 (f, ob, tr, nd)) (ad : Nat) : I0 (kRead N f ob tr nd ad) := by
  obtain ⟨h1, h2, h3, h4⟩ := h
  unfold kRead
  cases eAt ad with
  | none => exact I0_abort h1 h2 h3.1 h4 _ _
  | some e =>
    show I0 (if nI (aS e 1) = 0 then _ else _)
    split
    · split
      · exact ⟨h1, obK_ans h2 _ _ _, iT_begin h3.1 _ _ _, h4⟩
      · exact ⟨h1, obK_ans h2 _ _ _, iT_end h3.1, h4⟩
    · exact I0_abort h1 h2 h3.1 h4 _ _
theorem I0_write {N : Int32} {f : Nat → Int32} {ob : OB} {tr : TR} {nd : ND} (h : I0 (f, ob, tr, nd)) (fi ad hg : Nat) : I0 (kWrite N f ob tr nd fi ad hg) := by
  obtain ⟨h1, h2, h3, h4⟩ := h
  unfold kWrite
  cases hme : eAt ad with
  | none => exact I0_abort h1 h2 h3.1 h4 _ _
  | some e =>
    have hB : isB (trW tr e ad hg).1 := isB_pF h3.1 _ _ _ _
    show I0 (if nI (aS e 2) = 0 then _ else _)
    split
    · split
      · split
        · exact ⟨h1, obK_ans h2 _ _ _, iT_begin h3.1 _ _ _, h4⟩
        · split
          · rename_i hs
            have hs := nI_z (stF_lt _ _ _ _) hs
            unfold vW at hs
            rw [Nat.zero_add] at hs
            exact ⟨iF_sto h1 hB (fd_lt hme).1 hs, obK_ans h2 _ _ _, iT_end hB, iS_sto h4⟩
          · exact I0_abort h1 h2 hB h4 _ _
      · exact I0_abort h1 h2 h3.1 h4 _ _
    · exact I0_abort h1 h2 h3.1 h4 _ _
theorem I0_wseg {N : Int32} {f : Nat → Int32} {ob : OB} {tr : TR} {nd : ND} (h : I0 (f, ob, tr, nd)) (fi x : Nat) {e d : Nat} (ad : Nat) (he : e < 22) (hd : d ≤ xZ e) : I0 (kWSeg N f ob tr nd fi x e d ad) := by
  obtain ⟨h1, h2, h3, h4⟩ := h
  have hB : isB (tr_add tr d (sn fi) x).1 := isB_pF h3.1 _ _ _ _
  have hft := x_fit e he
  unfold kWSeg
  split
  · split
    · rename_i hsn
      split
      · exact ⟨h1, obK_ans h2 _ _ _, iT_next hB, h4⟩
      · split
        · rename_i hle
          split
          · rename_i hs
            have hs := nI_z (stF_lt _ _ _ _) hs
            have h0 : xZ e - (d + sn fi) = 0 := by
              have := (nI_leI (b := 0) (by omega) (by decide)).mp hle
              omega
            rw [show d + sn fi = xZ e by omega] at hs
            exact ⟨iF_sto h1 hB he hs, obK_ans h2 _ _ _, iT_end hB, iS_sto h4⟩
          · exact I0_abort h1 h2 hB h4 _ _
        · exact I0_abort h1 h2 hB h4 _ _
    · exact I0_abort h1 h2 h3.1 h4 _ _
  · exact I0_abort h1 h2 h3.1 h4 _ _
theorem I0_rseg {N : Int32} {f : Nat → Int32} {ob : OB} {tr : TR} {nd : ND} (h : I0 (f, ob, tr, nd)) (fi e d ad : Nat) : I0 (kRSeg N f ob tr nd fi e d ad) := by
  obtain ⟨h1, h2, h3, h4⟩ := h
  unfold kRSeg
  split
  · split
    · exact ⟨h1, obK_send h2 _ _ _, iT_end h3.1, h4⟩
    · exact ⟨h1, obK_send h2 _ _ _, iT_next h3.1, h4⟩
  · exact I0_abort h1 h2 h3.1 h4 _ _
theorem I0_req {N : Int32} {f : Nat → Int32} {ob : OB} {tr : TR} {nd : ND} (h : I0 (f, ob, tr, nd)) (lo hg : Nat) {e d : Nat} (ad : Nat) (he : e < 22) (hd : d ≤ xZ e) : I0 (kReq N f ob tr nd lo hg e d ad) := by
  unfold kReq
  split
  · exact I0_wseg h _ _ ad he hd
  · split
    · exact I0_write h _ _ _
    · split
      · exact I0_read h _
      · split
        · exact I0_rseg h _ _ _ _
        · split
          · exact ⟨h.1, h.2.1, iT_end h.2.2.1.1, h.2.2.2⟩
          · exact I0_abort h.1 h.2.1 h.2.2.1.1 h.2.2.2 _ _
theorem I0_mid {N : Int32} {f : Nat → Int32} {ob : OB} {tr : TR} {nd : ND} (h : I0 (f, ob, tr, nd)) (fid ln : Int32) (lo hg : Nat) {e d : Nat} (ad : Nat) (he : e < 22) (hd : d ≤ xZ e) : I0 (kMid N f ob tr nd fid ln lo hg e d ad) := by
  unfold kMid
  split
  · split
    · exact I0_cmd h _
    · exact h
  · split
    · exact ⟨h.1, obK_sync h.2.1, h.2.2.1, iS_sync h.2.2.2⟩
    · split
      · exact ⟨iF_take h.1 _ _ _, h.2.1, h.2.2.1, h.2.2.2⟩
      · split
        · exact I0_req h _ _ ad he hd
        · exact h
theorem I0_tick {N : Int32} {f : Nat → Int32} {ob : OB} {tr : TR} {nd : ND} (h : I0 (f, ob, tr, nd)) (sv ad : Nat) : I0 (kTick N f ob tr nd sv ad) := by
  obtain ⟨h1, h2, h3, h4⟩ := h
  unfold kTick
  split
  · exact ⟨h1, obK_beat h2, h3, iS_beat h4⟩
  · rename_i hg
    split
    · rename_i hlt
      refine ⟨h1, obK_beat h2, ⟨h3.1, Or.inr ?_⟩, iS_beat h4⟩
      obtain ⟨tk, ht1, ht2⟩ := h3.2.resolve_left hg
      have ht2 : tr.2.2.2.2.2.2.2 = nI tk := ht2
      refine ⟨tk + 1, ?_, ?_⟩
      · rw [ht2, nI_1] at hlt
        exact (nI_ltI (b := 8) (by omega) (by decide)).mp hlt
      · show tr.2.2.2.2.2.2.2 + 1 = _
        rw [ht2, nI_1]
    · exact ⟨h1, obK_ans (obK_beat h2) _ _ _, iT_end h3.1, iS_beat h4⟩
theorem I0_set {N : Int32} {f : Nat → Int32} {ob : OB} {tr : TR} {nd : ND} (h : I0 (f, ob, tr, nd)) {e : Nat} (x : Nat) (he : e < 22) (h14 : 14 ≤ e) : I0 (kSet N f ob tr nd e x) := I0_end ⟨iF_pF14 h.1 he h14, h.2.1, h.2.2.1, h.2.2.2⟩
