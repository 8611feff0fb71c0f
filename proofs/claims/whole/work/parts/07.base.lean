theorem kZ_min : Cond.static Lib.Math.min.name ∈ wb := wb_t1 24 rfl rfl
theorem kD_min : Cond.code Lib.Math.min.name Lib.Math.min.code 2 (some .int) ∈ wb := wb_t1 25 rfl rfl
theorem kZ_max : Cond.static Lib.Math.max.name ∈ wb := wb_t1 27 rfl rfl
theorem kD_max : Cond.code Lib.Math.max.name Lib.Math.max.code 2 (some .int) ∈ wb := wb_t1 28 rfl rfl
theorem kZ_acopy : Cond.static arraycopyName ∈ wb := wb_t1 42 rfl rfl
theorem kV_acopy : Cond.native arraycopyName ∈ wb := wb_t1 43 rfl rfl
theorem kI_obj : Cond.instanceMethod Lib.objectInit ∈ wb := wb_t1 21 rfl rfl
theorem kD_obj : Cond.code Lib.objectInit ⟨#[0xb1]⟩ 1 none ∈ wb := wb_t1 22 rfl rfl
section ZT
variable {p : Program} {l : Launch} {e : Env} {R : Room} {s : State} {m : MethodId} {args : Array Value} {below : List Frame} {meth : Method} {c : Code} {H : Heap} {locs : List Loc} {cells slots : Nat} {Q : State → Prop} {pc : Nat} {ls : Array Slot} {rest : List Value}
theorem zb_ti {x y : Int32} (h : x = y) (k : W p l e R s m args below meth c H locs cells slots Q (F0 m pc ls (.int y :: rest))) : W p l e R s m args below meth c H locs cells slots Q (F0 m pc ls (.int x :: rest)) := h ▸ k
theorem zb_tl {x y : Int64} (h : x = y) (k : W p l e R s m args below meth c H locs cells slots Q (F0 m pc ls (.long y :: rest))) : W p l e R s m args below meth c H locs cells slots Q (F0 m pc ls (.long x :: rest)) := h ▸ k
end ZT
theorem tT_I {e : Nat} (h : e < 22) : tT (e * 5) = nI (xI e) := by rw [Nat.mul_comm]; exact (tT_at e h).1
theorem tT_S {e : Nat} (h : e < 22) : tT (e * 5 + 1) = nI (xS e) := by rw [Nat.mul_comm]; exact (tT_at e h).2.1
theorem tT_Z {e : Nat} (h : e < 22) : tT (e * 5 + 2) = nI (xZ e) := by rw [Nat.mul_comm]; exact (tT_at e h).2.2.1
theorem tT_R {e : Nat} (h : e < 22) : tT (e * 5 + 3) = nI (xR e) := by rw [Nat.mul_comm]; exact (tT_at e h).2.2.2.1
theorem tT_P {e : Nat} (h : e < 22) : tT (e * 5 + 4) = nI (xP e) := by rw [Nat.mul_comm]; exact (tT_at e h).2.2.2.2
/-! ===== nI under and, xor, >>>, one bit, 65535 ===== -/
theorem nx_and (a b : Nat) : nI a &&& nI b = nI (a &&& b) := by
  apply Int32.toBitVec_inj.1
  show BitVec.ofNat 32 a &&& BitVec.ofNat 32 b = BitVec.ofNat 32 (a &&& b)
  apply BitVec.eq_of_getLsbD_eq
  intro i hi
  simp [hi]
