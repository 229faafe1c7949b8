/-! ===== Int32 by its bits: bt x i ===== -/
def bt (x : Int32) (i : Nat) : Bool := x.toBitVec.getLsbD i
theorem b_ext {x y : Int32} (h : ∀ i, i < 32 → bt x i = bt y i) : x = y := Int32.toBitVec_inj.mp (BitVec.eq_of_getLsbD_eq (fun i hi => h i hi))
theorem b_or (x y : Int32) (i : Nat) : bt (x ||| y) i = (bt x i || bt y i) := by unfold bt; rw [Int32.toBitVec_or, BitVec.getLsbD_or]
theorem b_and (x y : Int32) (i : Nat) : bt (x &&& y) i = (bt x i && bt y i) := by unfold bt; rw [Int32.toBitVec_and, BitVec.getLsbD_and]
theorem b_xor (x y : Int32) (i : Nat) : bt (x ^^^ y) i = (bt x i ^^ bt y i) := by unfold bt; rw [Int32.toBitVec_xor, BitVec.getLsbD_xor]
theorem b_big {x : Int32} {i : Nat} (h : 32 ≤ i) : bt x i = false := BitVec.getLsbD_of_ge _ _ h
theorem b_255 (i : Nat) : bt 255 i = decide (i < 8) := by
  rcases Nat.lt_or_ge i 32 with h | h
  · exact (by decide +kernel : ∀ i, i < 32 → bt 255 i = decide (i < 8)) i h
  · rw [b_big h, decide_eq_false (by omega)]
theorem b_65535 (i : Nat) : bt 65535 i = decide (i < 16) := by
  rcases Nat.lt_or_ge i 32 with h | h
  · exact (by decide +kernel : ∀ i, i < 32 → bt 65535 i = decide (i < 16)) i h
  · rw [b_big h, decide_eq_false (by omega)]
theorem b_m1 : ∀ i, i < 32 → bt (-1) i = true := by decide +kernel
theorem b_0 (i : Nat) : bt 0 i = false := BitVec.getLsbD_zero
theorem s_l : ∀ n, n < 32 → ((nI n &&& 31).toBitVec.smod 32).toNat = n := by decide +kernel
theorem s_u : ∀ n, n < 32 → (((nI n).toUInt32 &&& Int32.toUInt32 31).toBitVec % 32).toNat = n := by decide +kernel
theorem b_shl (n : Nat) (hn : n < 32) (x : Int32) {i : Nat} (hi : i < 32) : bt (x <<< (nI n &&& 31)) i = (decide (n ≤ i) && bt x (i - n)) := by
  unfold bt
  rw [Int32.toBitVec_shiftLeft]
  show (x.toBitVec <<< ((nI n &&& 31).toBitVec.smod 32).toNat).getLsbD i = _
  rw [s_l n hn, BitVec.getLsbD_shiftLeft]
  rcases Nat.lt_or_ge i n with h | h
  · simp [h, Nat.not_le.mpr h]
  · simp [hi, h, Nat.not_lt.mpr h]
theorem b_ushr (n : Nat) (hn : n < 32) (x : Int32) (i : Nat) : bt ((x.toUInt32 >>> ((nI n).toUInt32 &&& Int32.toUInt32 31)).toInt32) i = bt x (n + i) := by
  show (x.toUInt32 >>> ((nI n).toUInt32 &&& Int32.toUInt32 31)).toBitVec.getLsbD i = x.toUInt32.toBitVec.getLsbD (n + i)
  rw [UInt32.toBitVec_shiftRight]
  show (x.toUInt32.toBitVec >>> (((nI n).toUInt32 &&& Int32.toUInt32 31).toBitVec % 32).toNat).getLsbD i = _
  rw [s_u n hn, BitVec.getLsbD_ushiftRight]
theorem b_sshr (n : Nat) (hn : n < 32) (x : Int32) {i : Nat} (hi : i < 32) : bt (x >>> (nI n &&& 31)) i = if n + i < 32 then bt x (n + i) else bt x 31 := by
  unfold bt
  rw [Int32.toBitVec_shiftRight]
  show (x.toBitVec.sshiftRight ((nI n &&& 31).toBitVec.smod 32).toNat).getLsbD i = _
  rw [s_l n hn, BitVec.getLsbD_sshiftRight, BitVec.msb_eq_getLsbD_last]
  simp [hi]
/-! words of mine: readers and writers by contract, calls in one row, loops that fill, numbers and sets of states -/
section ZA
variable {p : Program} {l : Launch} {e : Env} {R : Room} {s : State} {m : MethodId} {args : Array Value} {below : List Frame} {meth : Method} {c : Code} {H : Heap} {locs : List Loc} {cells slots : Nat} {Q : State → Prop} {cc : ByteArray} {pc : Nat} {ls : Array Slot} {rest : List Value}
theorem za_eqi {x y : Int32} (h : x = y) (k : W p l e R s m args below meth c H locs cells slots Q (F0 m pc ls (.int y :: rest))) : W p l e R s m args below meth c H locs cells slots Q (F0 m pc ls (.int x :: rest)) := by
  subst h
  exact k
theorem za_addN (hx : p.tables.exec = Jvm.exec) (hb : c.code = cc) {a b : Nat} (hd : decode cc pc = .ok (.iadd, 1)) (k : W p l e R s m args below meth c H locs cells slots Q (F0 m (pc + 1) ls (.int (nI (a + b)) :: rest))) : W p l e R s m args below meth c H locs cells slots Q (F0 m pc ls (.int (nI b) :: .int (nI a) :: rest)) := lv_iadd hx hb hd (za_eqi (nI_add a b) k)
theorem za_mulN (hx : p.tables.exec = Jvm.exec) (hb : c.code = cc) {a b : Nat} (hd : decode cc pc = .ok (.imul, 1)) (k : W p l e R s m args below meth c H locs cells slots Q (F0 m (pc + 1) ls (.int (nI (a * b)) :: rest))) : W p l e R s m args below meth c H locs cells slots Q (F0 m pc ls (.int (nI b) :: .int (nI a) :: rest)) := lv_imul hx hb hd (za_eqi (pk_mul a b) k)
theorem za_subN (hx : p.tables.exec = Jvm.exec) (hb : c.code = cc) {a b : Nat} (h : b ≤ a) (hd : decode cc pc = .ok (.isub, 1)) (k : W p l e R s m args below meth c H locs cells slots Q (F0 m (pc + 1) ls (.int (nI (a - b)) :: rest))) : W p l e R s m args below meth c H locs cells slots Q (F0 m pc ls (.int (nI b) :: .int (nI a) :: rest)) := lv_isub hx hb hd (za_eqi (pk_sub h) k)
theorem za_nI0 {d : Nat} (h0 : 0 < d) (hd : d < 2 ^ 31) : ¬ nI d = 0 := nI_ne0 h0 hd
theorem za_divN (hx : p.tables.exec = Jvm.exec) (hb : c.code = cc) {a d : Nat} (ha : a < 2 ^ 31) (h0 : 0 < d) (h1 : d < 2 ^ 31) (hd : decode cc pc = .ok (.idiv, 1)) (k : W p l e R s m args below meth c H locs cells slots Q (F0 m (pc + 1) ls (.int (nI (a / d)) :: rest))) : W p l e R s m args below meth c H locs cells slots Q (F0 m pc ls (.int (nI d) :: .int (nI a) :: rest)) := lv_idiv hx hb hd (za_nI0 h0 h1) (za_eqi (pk_div ha h0 h1) k)
theorem za_remN (hx : p.tables.exec = Jvm.exec) (hb : c.code = cc) {a d : Nat} (ha : a < 2 ^ 31) (h0 : 0 < d) (h1 : d < 2 ^ 31) (hd : decode cc pc = .ok (.irem, 1)) (k : W p l e R s m args below meth c H locs cells slots Q (F0 m (pc + 1) ls (.int (nI (a % d)) :: rest))) : W p l e R s m args below meth c H locs cells slots Q (F0 m pc ls (.int (nI d) :: .int (nI a) :: rest)) := lv_irem hx hb hd (za_nI0 h0 h1) (za_eqi (pk_rem ha h0 h1) k)
end ZA
theorem za_inc (i : Nat) : nI i + Int32.ofInt 1 = nI (i + 1) := by
  rw [show Int32.ofInt 1 = (1 : Int32) from by decide]
  exact nI_1 i
/-- a boolean as the machine has it -/
def za_bi (b : Bool) : Int32 := if b = true then nI 1 else nI 0
theorem za_b1 {b : Bool} (h : b = true) : nI 1 = za_bi b := by rw [h]; rfl
theorem za_b0 {b : Bool} (h : b = false) : nI 0 = za_bi b := by rw [h]; rfl
theorem za_bi1 : za_bi true = nI 1 := rfl
theorem za_bi0 : za_bi false = nI 0 := rfl
theorem za_10 : ¬ nI 1 = 0 := by decide
theorem za_bF {b : Bool} (h : za_bi b = 0) : b = false := by
  cases b with
  | false => rfl
  | true => exact absurd h za_10
theorem za_bT {b : Bool} (h : ¬ za_bi b = 0) : b = true := by
  cases b with
  | false => exact absurd rfl h
  | true => rfl
theorem za_binj {a b : Bool} (h : za_bi a = za_bi b) : a = b := by
  cases a <;> cases b <;> first | rfl | exact absurd h (by decide)
theorem za_bne {a b : Bool} (h : ¬ za_bi a = za_bi b) : ¬ a = b := fun q => h (by rw [q])
theorem za_nar (b : Bool) : narrow .boolean (.int (za_bi b)) = .int (za_bi b) := by cases b <;> decide
theorem za_fit (b : Bool) : fits .boolean (.int (za_bi b)) = true := by cases b <;> decide
theorem za_vnar (b : Bool) : vp_nar .boolean (za_bi b) = za_bi b := by cases b <;> decide
theorem za_bor (a b : Bool) : za_bi a ||| za_bi b = za_bi (a || b) := by cases a <;> cases b <;> decide
theorem za_leN {a b : Nat} (h : nI a ≤ nI b) (ha : a < 2 ^ 31) (hb : b < 2 ^ 31) : a ≤ b := (nI_leI ha hb).mp h
theorem za_nleN {a b : Nat} (h : ¬ nI a ≤ nI b) (ha : a < 2 ^ 31) (hb : b < 2 ^ 31) : b < a := Nat.lt_of_not_le (fun q => h ((nI_leI ha hb).mpr q))
theorem za_ltN {a b : Nat} (h : nI a < nI b) (ha : a < 2 ^ 31) (hb : b < 2 ^ 31) : a < b := (nI_ltI ha hb).mp h
theorem za_nltN {a b : Nat} (h : ¬ nI a < nI b) (ha : a < 2 ^ 31) (hb : b < 2 ^ 31) : b ≤ a := Nat.le_of_not_lt (fun q => h ((nI_ltI ha hb).mpr q))
theorem za_eqN {a b : Nat} (h : nI a = nI b) (ha : a < 2 ^ 31) (hb : b < 2 ^ 31) : a = b := (nI_eq ha hb).mp h
theorem za_neN {a b : Nat} (h : ¬ nI a = nI b) : ¬ a = b := fun q => h (by rw [q])
section ZB
variable {p : Program} {l : Launch} {e : Env} {R : Room} {s : State} {m : MethodId} {args : Array Value} {below : List Frame} {meth : Method} {c : Code} {H : Heap} {locs : List Loc} {cells slots : Nat} {Q : State → Prop} {cc : ByteArray} {pc : Nat} {ls : Array Slot} {rest : List Value}
variable {D : va_G} {cl : List vw_C} {tys : List (ClassId × FieldType)} {ws : va_W} {A : Nat → Prop} {H0 : Heap} {a : Nat}
theorem za_ild (hx : p.tables.exec = Jvm.exec) (hb : c.code = cc) (hK : va_K D cl tys s) (hP : va_P D cl ws H) (q0 t0 : Nat) {cA : ClassId} {n : Nat} {f : Nat → Int32} (ha : ws[q0]? = some (a, .inl (cA, n, .inl f))) (ht : tys[t0]? = some (cA, .int)) {k : Nat} (hk : k < n) (hn : n < 2 ^ 31) (hd : decode cc pc = .ok (.iaload, 1))
    (kk : W p l e R s m args below meth c H locs cells slots Q (F0 m (pc + 1) ls (.int (f k) :: rest))) : W p l e R s m args below meth c H locs cells slots Q (F0 m pc ls (.int (nI k) :: .ref a :: rest)) :=
  va_iald hx hb hK hP q0 t0 ha ht (vp_in_nI hk hn) hd (by rw [nI_clamp (Nat.lt_trans hk hn)]; exact kk)
theorem za_zld (hx : p.tables.exec = Jvm.exec) (hb : c.code = cc) (hK : va_K D cl tys s) (hP : va_P D cl ws H) (q0 t0 : Nat) {cA : ClassId} {n : Nat} {f : Nat → Bool} (ha : ws[q0]? = some (a, .inl (cA, n, .inl (fun j => za_bi (f j))))) (ht : tys[t0]? = some (cA, .boolean)) {k : Nat} (hk : k < n) (hn : n < 2 ^ 31) (hd : decode cc pc = .ok (.baload, 1))
    (kk : W p l e R s m args below meth c H locs cells slots Q (F0 m (pc + 1) ls (.int (za_bi (f k)) :: rest))) : W p l e R s m args below meth c H locs cells slots Q (F0 m pc ls (.int (nI k) :: .ref a :: rest)) :=
  va_zald hx hb hK hP q0 t0 ha ht (vp_in_nI hk hn) hd (by rw [nI_clamp (Nat.lt_trans hk hn)]; exact kk)
theorem za_ist (hx : p.tables.exec = Jvm.exec) (hb : c.code = cc) (hK : va_K D cl tys s) (hP : va_P D cl ws H) (hD : va_D A ws) (hS : va_S A H0 H locs) (q0 t0 : Nat) {cA : ClassId} {n : Nat} {f : Nat → Int32} (ha : ws[q0]? = some (a, .inl (cA, n, .inl f))) (ht : tys[t0]? = some (cA, .int)) {k : Nat} {x : Int32} (hk : k < n) (hn : n < 2 ^ 31) (hd : decode cc pc = .ok (.iastore, 1))
    (kk : ∀ (H1 : Heap) (locs1 : List Loc), va_P D cl (ws.set q0 (a, .inl (cA, n, .inl (upd f k x)))) H1 → va_D A (ws.set q0 (a, .inl (cA, n, .inl (upd f k x)))) → va_S A H0 H1 locs1 → W p l e R s m args below meth c H1 locs1 cells slots Q (F0 m (pc + 1) ls rest)) : W p l e R s m args below meth c H locs cells slots Q (F0 m pc ls (.int x :: .int (nI k) :: .ref a :: rest)) :=
  va_iast hx hb hK hP hD hS q0 t0 ha ht (vp_in_nI hk hn) hd (by rw [nI_clamp (Nat.lt_trans hk hn)]; exact kk)
/-- the booleans of an array, one place new -/
def za_ub (f : Nat → Bool) (k : Nat) (b : Bool) : Nat → Bool := fun j => if j = k then b else f j
theorem za_ubi (f : Nat → Bool) (k : Nat) (b : Bool) : upd (fun j => za_bi (f j)) k (za_bi b) = fun j => za_bi (za_ub f k b j) := by
  funext j
  unfold upd za_ub
  by_cases h : j = k <;> simp [h]
theorem za_zst (hx : p.tables.exec = Jvm.exec) (hb : c.code = cc) (hK : va_K D cl tys s) (hP : va_P D cl ws H) (hD : va_D A ws) (hS : va_S A H0 H locs) (q0 t0 : Nat) {cA : ClassId} {n : Nat} {f : Nat → Bool} (ha : ws[q0]? = some (a, .inl (cA, n, .inl (fun j => za_bi (f j))))) (ht : tys[t0]? = some (cA, .boolean)) {k : Nat} {b : Bool} (hk : k < n) (hn : n < 2 ^ 31) (hd : decode cc pc = .ok (.bastore, 1))
    (kk : ∀ (H1 : Heap) (locs1 : List Loc), va_P D cl (ws.set q0 (a, .inl (cA, n, .inl (fun j => za_bi (za_ub f k b j))))) H1 → va_D A (ws.set q0 (a, .inl (cA, n, .inl (fun j => za_bi (za_ub f k b j))))) → va_S A H0 H1 locs1 → W p l e R s m args below meth c H1 locs1 cells slots Q (F0 m (pc + 1) ls rest)) : W p l e R s m args below meth c H locs cells slots Q (F0 m pc ls (.int (za_bi b) :: .int (nI k) :: .ref a :: rest)) :=
  va_zast hx hb hK hP hD hS q0 t0 ha ht (vp_in_nI hk hn) hd (by rw [nI_clamp (Nat.lt_trans hk hn), za_vnar, za_ubi]; exact kk)
theorem za_cA {cI cA : ClassId} {ty : FieldType} (hty : ∀ C, ty ≠ .object C) (h1 : va_RA s cI ty) (h2 : va_RA s cA ty) : cA = cI := by
  have e1 : s.vm.findClass ("[" ++ ty.toString) = some cI := by
    cases ty with
    | object C => exact absurd rfl (hty C)
    | _ => exact h1
  have e2 : s.vm.findClass ("[" ++ ty.toString) = some cA := by
    cases ty with
    | object C => exact absurd rfl (hty C)
    | _ => exact h2
  exact Option.some.inj (e2.symm.trans e1)
theorem za_newI {cI cZ : ClassId} (hx : p.tables.exec = Jvm.exec) (hb : c.code = cc) (harr : (Cond.arrayClass .int).before args s = true) (hK : va_K D cl [(cI, .int), (cZ, .boolean)] s) (hP : va_P D cl ws H) (hD : va_D A ws) (hS : va_S A H0 H locs) (hA : ∀ q, H0.size ≤ q → A q) {N : Nat} (hN : N < 2 ^ 31) (hby : N * componentBytes .int ≤ 536870912) (hcells : cells + 1 ≤ R.cells) (hslots : slots + N ≤ R.slots) (hd : decode cc pc = .ok (.newarray .int, 2))
    (kk : ∀ (q : Nat) (H1 : Heap), va_P D cl (ws ++ [(q, .inl (cI, N, .inl (fun _ => nI 0)))]) H1 → va_D A (ws ++ [(q, .inl (cI, N, .inl (fun _ => nI 0)))]) → va_S A H0 H1 locs → W p l e R s m args below meth c H1 locs (cells + 1) (slots + N) Q (F0 m (pc + 2) ls (.ref q :: rest))) : W p l e R s m args below meth c H locs cells slots Q (F0 m pc ls (.int (nI N) :: rest)) := by
  refine va_newa (atype := .int) (ty := .int) (a0 := (N, .inl (fun _ => nI 0))) hx hb harr rfl hK hP hD hS hA (fun cA => rfl) (nI_pos hN) (nI_clamp hN) hby hcells hslots hd (fun q cA H1 hK1 hP1 hD1 hS1 => ?_)
  have e : cA = cI := za_cA (fun C h => by cases h) (hK.2 0 _ rfl).2 (hK1.2 2 _ rfl).2
  subst e
  exact kk q H1 hP1 hD1 hS1
theorem za_newZ {cI cZ : ClassId} (hx : p.tables.exec = Jvm.exec) (hb : c.code = cc) (harr : (Cond.arrayClass .boolean).before args s = true) (hK : va_K D cl [(cI, .int), (cZ, .boolean)] s) (hP : va_P D cl ws H) (hD : va_D A ws) (hS : va_S A H0 H locs) (hA : ∀ q, H0.size ≤ q → A q) {N : Nat} (hN : N < 2 ^ 31) (hby : N * componentBytes .boolean ≤ 536870912) (hcells : cells + 1 ≤ R.cells) (hslots : slots + N ≤ R.slots) (hd : decode cc pc = .ok (.newarray .boolean, 2))
    (kk : ∀ (q : Nat) (H1 : Heap), va_P D cl (ws ++ [(q, .inl (cZ, N, .inl (fun j => za_bi ((fun _ => false) j))))]) H1 → va_D A (ws ++ [(q, .inl (cZ, N, .inl (fun j => za_bi ((fun _ => false) j))))]) → va_S A H0 H1 locs → W p l e R s m args below meth c H1 locs (cells + 1) (slots + N) Q (F0 m (pc + 2) ls (.ref q :: rest))) : W p l e R s m args below meth c H locs cells slots Q (F0 m pc ls (.int (nI N) :: rest)) := by
  refine va_newa (atype := .boolean) (ty := .boolean) (a0 := (N, .inl (fun _ => nI 0))) hx hb harr rfl hK hP hD hS hA (fun cA => rfl) (nI_pos hN) (nI_clamp hN) hby hcells hslots hd (fun q cA H1 hK1 hP1 hD1 hS1 => ?_)
  have e : cA = cZ := za_cA (fun C h => by cases h) (hK.2 1 _ rfl).2 (hK1.2 2 _ rfl).2
  subst e
  exact kk q H1 hP1 hD1 hS1
end ZB
/-- the four calls of hasBit by the nest's mates: links that no list of words keeps -/
def za_Nn (U : State) : Prop := va_Nw (.methodLinkNest zs_N 26 zm_X_hasBit zs_X) U ∧ va_Nw (.methodLinkNest zs_L 54 zm_X_hasBit zs_X) U ∧ va_Nw (.methodLinkNest zs_C 44 zm_X_hasBit zs_X) U ∧ va_Nw (.methodLinkNest zs_G 48 zm_X_hasBit zs_X) U
theorem za_Nn_warm {s U : State} (hW : s.WarmedH U.vm) (h : za_Nn s) : za_Nn U := ⟨va_Nw.warmM hW h.1, va_Nw.warmM hW h.2.1, va_Nw.warmM hW h.2.2.1, va_Nw.warmM hW h.2.2.2⟩
theorem za_Nn_same {s U : State} (e : s.vm = U.vm) (h : za_Nn s) : za_Nn U := ⟨va_Nw.same rfl e h.1, va_Nw.same rfl e h.2.1, va_Nw.same rfl e h.2.2.1, va_Nw.same rfl e h.2.2.2⟩
/-- a reader's start: arguments, cells -/
def za_Pr (D : va_G) (cl : List vw_C) (tys : List (ClassId × FieldType)) (av : List Value) (ws : va_W) : Array Value → State → Prop := va_Pc av (fun U => va_P D cl ws U.heap ∧ va_K D cl tys U ∧ za_Nn U)
theorem za_Pr_bl {D : va_G} {cl : List vw_C} {tys : List (ClassId × FieldType)} {av : List Value} {ws : va_W} : FrameBlind (za_Pr D cl tys av ws) := fun a U g mk q => ⟨q.1, q.2.1, va_K.moved (u := U) (U := U.calling g mk a) (Vm.Alike.refl U.vm) q.2.2.1, za_Nn_same rfl q.2.2.2⟩
theorem za_Pr_at {s : State} {H : Heap} {D : va_G} {cl : List vw_C} {tys : List (ClassId × FieldType)} {av : List Value} {ws : va_W} (hP : va_P D cl ws H) (hK : va_K D cl tys s) (hN : za_Nn s) : ∀ U : State, U.heap = H → s.WarmedH U.vm → za_Pr D cl tys av ws av.toArray U := fun U hU hW => ⟨rfl, by rw [hU]; exact hP, va_K.moved hW.alike hK, za_Nn_warm hW hN⟩
/-- a writer's start -/
def za_Pw (D : va_G) (cl : List vw_C) (tys : List (ClassId × FieldType)) (av : List Value) (ws : va_W) (sz : Nat) : Array Value → State → Prop := va_Pc av (fun U => U.heap.size = sz ∧ va_P D cl ws U.heap ∧ va_K D cl tys U ∧ za_Nn U ∧ va_D (fun _ => True) ws)
theorem za_Pw_bl {D : va_G} {cl : List vw_C} {tys : List (ClassId × FieldType)} {av : List Value} {ws : va_W} {sz : Nat} : FrameBlind (za_Pw D cl tys av ws sz) := fun a U g mk q => ⟨q.1, q.2.1, q.2.2.1, va_K.moved (u := U) (U := U.calling g mk a) (Vm.Alike.refl U.vm) q.2.2.2.1, za_Nn_same rfl q.2.2.2.2.1, q.2.2.2.2.2⟩
theorem za_Pw_at {s : State} {H : Heap} {A : Nat → Prop} {D : va_G} {cl : List vw_C} {tys : List (ClassId × FieldType)} {av : List Value} {ws : va_W} (hP : va_P D cl ws H) (hD : va_D A ws) (hK : va_K D cl tys s) (hN : za_Nn s) : ∀ U : State, U.heap = H → s.WarmedH U.vm → za_Pw D cl tys av ws H.size av.toArray U := fun U hU hW => ⟨rfl, by rw [hU], by rw [hU]; exact hP, va_K.moved hW.alike hK, za_Nn_warm hW hN, hD.weaken (fun _ _ _ _ => trivial)⟩
abbrev za_B {S0 : Type} (D : va_G) (cl : List vw_C) (ws : va_W) (sz : Nat) (wf : S0 → va_W) : S0 → State → Prop := fun u t => va_P D cl (wf u) t.heap ∧ va_D (va_A ws sz) (wf u)
abbrev za_Br {S0 : Type} (D : va_G) (cl : List vw_C) (ws : va_W) (sz : Nat) (a0 : Nat) (wf : S0 → va_W) : S0 → Nat → State → Prop := fun u a t => a = a0 ∧ va_P D cl (wf u) t.heap ∧ va_D (va_A ws sz) (wf u)
theorem za_fm {α β : Type} {f : α → Option β} {is : List α} {w : List β} (h : is.map f = w.map some) : is.filterMap f = w := by
  induction is generalizing w with
  | nil =>
    cases w with
    | nil => rfl
    | cons a w => cases h
  | cons a is ih =>
    cases w with
    | nil => cases h
    | cons b w =>
      rw [List.map_cons, List.map_cons, List.cons.injEq] at h
      rw [List.filterMap_cons_some h.1, ih h.2]
/-- a reader by its walk -/
theorem za_reader {l : Launch} {y : MethodName} {rm : Room} {av : List Value} {D : va_G} {cl : List vw_C} {tys : List (ClassId × FieldType)} {wc : va_W} {post : Int32 → Prop} {cc : ByteArray} {maxL : Nat} {ty : FieldType} (hy : plainName y.cls = true) (hlen : (lg_sl av).length ≤ maxL) (hn : ∀ v, post v → narrow ty (.int v) = .int v)
    (body : ∀ (p : Program) (e : Env) (s : State) (m : MethodId) (args : Array Value) (below : List Frame) (meth : Method) (c : Code) (H : Heap) (Q : State → Prop), p.tables.exec = Jvm.exec → c.code = cc → c.maxLocals = maxL → (∀ w ∈ zb_big, w.before args s = true) → s.vm.findClass y.cls = some m.cls → va_P D cl wc H → va_K D cl tys s → za_Nn s →
      (∀ (v : Int32) (pc : Nat) (ls : Array Slot), post v → decode cc pc = .ok (.ireturn, 1) → W p l e rm s m args below meth c H [] 0 0 Q (F0 m pc ls [.int v])) →
      ∀ ls : Array Slot, lv_has ls maxL (lv_args 0 av) → W p l e rm s m args below meth c H [] 0 0 Q (F0 m 0 ls [])) :
    Met l y (Cond.code y cc maxL (some ty) :: zb_big) rm (za_Pr D cl tys av wc) (vp_Si post) 0 0 (fun _ => False) := by
  refine Met.ofW (cc := cc) (maxL := maxL) (ret := some ty) hy rfl ?_
  intro p e s m args below meth c s₁ B hml hv
  obtain ⟨rfl, hP, hK, hN⟩ := hv
  have hts0 := atoms_spec B.pre
  have hts : ∀ w ∈ zb_big, w.before av.toArray s = true := fun w h => hts0 w (List.mem_cons_of_mem _ h)
  have hlocks := B.notSynchronized
  have hl := lv_entry av (n := maxL) hlen
  rw [lg_entry_eq]
  exact body p e s m av.toArray below meth c s.heap _ B.exec B.bytes hml hts (findClass_of_methodNamed B.named) hP hK hN (fun v pc ls hpv hd => W.zret B.exec B.bytes B.returns (hn v hpv) (fun t ht _ => ⟨v, rfl, hpv, ht⟩) (fun _ h => by cases h) hd) _ hl
section ZW
variable {l : Launch} {y : MethodName} {rm : Room} {av : List Value} {D : va_G} {cl : List vw_C} {tys : List (ClassId × FieldType)} {wc : va_W} {sz : Nat} {cc : ByteArray} {maxL mc ms : Nat} {S0 : Type} {wf : S0 → va_W}
/-- a writer that answers nothing, by its walk -/
theorem za_wv {post : S0 → Prop} (hy : plainName y.cls = true) (hlen : (lg_sl av).length ≤ maxL)
    (body : ∀ (p : Program) (e : Env) (s : State) (m : MethodId) (args : Array Value) (below : List Frame) (meth : Method) (c : Code) (H0 : Heap) (A : Nat → Prop) (Q : State → Prop), p.tables.exec = Jvm.exec → c.code = cc → c.maxLocals = maxL → (∀ w ∈ zb_big, w.before args s = true) → s.vm.findClass y.cls = some m.cls → meth.name = y.name → va_P D cl wc H0 → va_K D cl tys s → za_Nn s → va_D A wc → (∀ q : Nat, H0.size ≤ q → A q) → va_S A H0 H0 [] →
      (∀ (u : S0) (H : Heap) (locs : List Loc) (pc : Nat) (ls : Array Slot), post u → va_P D cl (wf u) H → va_D A (wf u) → va_S A H0 H locs → decode cc pc = .ok (.return_, 1) → W p l e rm s m args below meth c H locs mc ms Q (F0 m pc ls [])) →
      ∀ ls : Array Slot, lv_has ls maxL (lv_args 0 av) → W p l e rm s m args below meth c H0 [] 0 0 Q (F0 m 0 ls [])) :
    Met l y (Cond.code y cc maxL none :: zb_big) rm (za_Pw D cl tys av wc sz) (va_Qv post (za_B D cl wc sz wf) (va_A wc sz)) mc ms (va_A wc sz) := by
  refine Met.ofW (cc := cc) (maxL := maxL) (ret := none) hy rfl ?_
  intro p e s m args below meth c s₁ B hml hv
  obtain ⟨rfl, hsz, hP, hK, hN, hD0⟩ := hv
  subst hsz
  have hts0 := atoms_spec B.pre
  have hts : ∀ w ∈ zb_big, w.before av.toArray s = true := fun w h => hts0 w (List.mem_cons_of_mem _ h)
  have hlocks := B.notSynchronized
  have hl := lv_entry av (n := maxL) hlen
  rw [lg_entry_eq]
  exact body p e s m av.toArray below meth c s.heap (va_A wc s.heap.size) _ B.exec B.bytes hml hts (findClass_of_methodNamed B.named) (name_of_methodNamed B.named B.method).1 hP hK hN (hD0.self (sz := s.heap.size)) (fun q h => Or.inr h) va_S.rf (fun u H locs pc ls hu hP9 hD9 hS hd => W.vret B.exec B.bytes B.returns (fun t ht _ => ⟨⟨u, rfl, hu, by rw [ht]; exact hP9, hD9⟩, hS.F ht⟩) hS.2.2 hd) _ hl
/-- a writer that answers a number, by its walk -/
theorem za_wi {ty : FieldType} {post : Int32 → S0 → Prop} (hy : plainName y.cls = true) (hlen : (lg_sl av).length ≤ maxL) (hn : ∀ v u, post v u → narrow ty (.int v) = .int v)
    (body : ∀ (p : Program) (e : Env) (s : State) (m : MethodId) (args : Array Value) (below : List Frame) (meth : Method) (c : Code) (H0 : Heap) (A : Nat → Prop) (Q : State → Prop), p.tables.exec = Jvm.exec → c.code = cc → c.maxLocals = maxL → (∀ w ∈ zb_big, w.before args s = true) → s.vm.findClass y.cls = some m.cls → meth.name = y.name → va_P D cl wc H0 → va_K D cl tys s → za_Nn s → va_D A wc → (∀ q : Nat, H0.size ≤ q → A q) → va_S A H0 H0 [] →
      (∀ (v : Int32) (u : S0) (H : Heap) (locs : List Loc) (pc : Nat) (ls : Array Slot), post v u → va_P D cl (wf u) H → va_D A (wf u) → va_S A H0 H locs → decode cc pc = .ok (.ireturn, 1) → W p l e rm s m args below meth c H locs mc ms Q (F0 m pc ls [.int v])) →
      ∀ ls : Array Slot, lv_has ls maxL (lv_args 0 av) → W p l e rm s m args below meth c H0 [] 0 0 Q (F0 m 0 ls [])) :
    Met l y (Cond.code y cc maxL (some ty) :: zb_big) rm (za_Pw D cl tys av wc sz) (va_Qi post (za_B D cl wc sz wf) (va_A wc sz)) mc ms (va_A wc sz) := by
  refine Met.ofW (cc := cc) (maxL := maxL) (ret := some ty) hy rfl ?_
  intro p e s m args below meth c s₁ B hml hv
  obtain ⟨rfl, hsz, hP, hK, hN, hD0⟩ := hv
  subst hsz
  have hts0 := atoms_spec B.pre
  have hts : ∀ w ∈ zb_big, w.before av.toArray s = true := fun w h => hts0 w (List.mem_cons_of_mem _ h)
  have hlocks := B.notSynchronized
  have hl := lv_entry av (n := maxL) hlen
  rw [lg_entry_eq]
  exact body p e s m av.toArray below meth c s.heap (va_A wc s.heap.size) _ B.exec B.bytes hml hts (findClass_of_methodNamed B.named) (name_of_methodNamed B.named B.method).1 hP hK hN (hD0.self (sz := s.heap.size)) (fun q h => Or.inr h) va_S.rf (fun v u H locs pc ls hu hP9 hD9 hS hd => W.zret B.exec B.bytes B.returns (hn v u hu) (fun t ht _ => ⟨⟨v, u, rfl, hu, by rw [ht]; exact hP9, hD9⟩, hS.F ht⟩) hS.2.2 hd) _ hl
/-- a writer that answers a cell that is known, by its walk -/
theorem za_wr {C : String} {a0 : Nat} {post : S0 → Prop} (hy : plainName y.cls = true) (hlen : (lg_sl av).length ≤ maxL)
    (body : ∀ (p : Program) (e : Env) (s : State) (m : MethodId) (args : Array Value) (below : List Frame) (meth : Method) (c : Code) (H0 : Heap) (A : Nat → Prop) (Q : State → Prop), p.tables.exec = Jvm.exec → c.code = cc → c.maxLocals = maxL → (∀ w ∈ zb_big, w.before args s = true) → s.vm.findClass y.cls = some m.cls → meth.name = y.name → va_P D cl wc H0 → va_K D cl tys s → za_Nn s → va_D A wc → (∀ q : Nat, H0.size ≤ q → A q) → va_S A H0 H0 [] →
      (∀ (u : S0) (H : Heap) (locs : List Loc) (pc : Nat) (ls : Array Slot), post u → va_P D cl (wf u) H → va_D A (wf u) → va_S A H0 H locs → decode cc pc = .ok (.areturn, 1) → W p l e rm s m args below meth c H locs mc ms Q (F0 m pc ls [.ref a0])) →
      ∀ ls : Array Slot, lv_has ls maxL (lv_args 0 av) → W p l e rm s m args below meth c H0 [] 0 0 Q (F0 m 0 ls [])) :
    Met l y (Cond.code y cc maxL (some (.object C)) :: zb_big) rm (za_Pw D cl tys av wc sz) (va_Qr post (za_Br D cl wc sz a0 wf) (va_A wc sz)) mc ms (va_A wc sz) := by
  refine Met.ofW (cc := cc) (maxL := maxL) (ret := some (.object C)) hy rfl ?_
  intro p e s m args below meth c s₁ B hml hv
  obtain ⟨rfl, hsz, hP, hK, hN, hD0⟩ := hv
  subst hsz
  have hts0 := atoms_spec B.pre
  have hts : ∀ w ∈ zb_big, w.before av.toArray s = true := fun w h => hts0 w (List.mem_cons_of_mem _ h)
  have hlocks := B.notSynchronized
  have hl := lv_entry av (n := maxL) hlen
  rw [lg_entry_eq]
  exact body p e s m av.toArray below meth c s.heap (va_A wc s.heap.size) _ B.exec B.bytes hml hts (findClass_of_methodNamed B.named) (name_of_methodNamed B.named B.method).1 hP hK hN (hD0.self (sz := s.heap.size)) (fun q h => Or.inr h) va_S.rf (fun u H locs pc ls hu hP9 hD9 hS hd => W.aret B.exec B.bytes B.returns (Or.inl ⟨C, rfl⟩) (Or.inr ⟨a0, rfl⟩) (fun t ht _ => ⟨⟨u, a0, rfl, hu, rfl, by rw [ht]; exact hP9, hD9⟩, hS.F ht⟩) hS.2.2 hd) _ hl
end ZW
section ZG
variable {R : Room} {s : State} {args : Array Value} {own C host : String} {index maxL mc ms : Nat} {y : MethodName} {bytes : ByteArray} {ret : Option FieldType} {rm : Room}
theorem za_good {c : Cond} (hc : c ∈ zb_big) : GoodIn zb_big (c :: zb_big) := fun w h => by
  rcases List.mem_cons.mp h with e | e
  · rw [e]; exact zb_good c hc
  · exact zb_good w e
theorem za_gB (n : Nat) (ht : ∀ w ∈ zb_big, w.before args s = true) (hl : Cond.methodLink own index y ∈ zb_big) (hi : Cond.initialized y.cls ∈ zb_big) (hc : Cond.code y bytes maxL ret ∈ zb_big) (hd : y.cls ≠ "java/lang/invoke/MethodHandle" ∧ y.cls ≠ "java/lang/invoke/VarHandle" ∧ (parseMethodDescriptor y.desc).map (fun d => d.parameters.length) = some n) (hR : rm.frames + 1 ≤ R.frames ∧ 8 + (maxL + 11) + rm.locals ≤ R.locals) : CallB R s args own index y bytes maxL ret (Cond.code y bytes maxL ret :: zb_big) rm rm.cells rm.slots n :=
  callB_of n ht (za_good hc) rfl rfl rfl (ht _ hi) (ht _ hl) hd hR
theorem za_gV (n : Nat) (ht : ∀ w ∈ zb_big, w.before args s = true) (hl : Cond.methodLink own index y ∈ zb_big) (him : Cond.instanceMethod y ∈ zb_big) (hs : Cond.selects C y y ∈ zb_big) (hi : Cond.initialized y.cls ∈ zb_big) (hc : Cond.code y bytes maxL ret ∈ zb_big) (hd : y.cls ≠ "java/lang/invoke/MethodHandle" ∧ y.cls ≠ "java/lang/invoke/VarHandle" ∧ (parseMethodDescriptor y.desc).map (fun d => d.parameters.length) = some n) (hR : rm.frames + 1 ≤ R.frames ∧ 8 + (maxL + 11) + rm.locals ≤ R.locals) : CallW R s args own C index y bytes maxL ret (Cond.code y bytes maxL ret :: zb_big) rm rm.cells rm.slots n :=
  ⟨za_gB n ht hl hi hc hd hR, ht _ him, ht _ hs⟩
theorem za_gS (n : Nat) (ht : ∀ w ∈ zb_big, w.before args s = true) (hl : Cond.methodLink own index y ∈ zb_big) (hst : Cond.static y ∈ zb_big) (hi : Cond.initialized y.cls ∈ zb_big) (hc : Cond.code y bytes maxL ret ∈ zb_big) (hd : y.cls ≠ "java/lang/invoke/MethodHandle" ∧ y.cls ≠ "java/lang/invoke/VarHandle" ∧ (parseMethodDescriptor y.desc).map (fun d => d.parameters.length) = some n) (hR : rm.frames + 1 ≤ R.frames ∧ 8 + (maxL + 11) + rm.locals ≤ R.locals) : CallB R s args own index y bytes maxL ret (Cond.code y bytes maxL ret :: zb_big) rm rm.cells rm.slots n ∧ (Cond.static y).before args s = true :=
  ⟨za_gB n ht hl hi hc hd hR, ht _ hst⟩
theorem za_gI (n : Nat) (ht : ∀ w ∈ zb_big, w.before args s = true) (hl : Cond.methodLink own index y ∈ zb_big) (him : Cond.instanceMethod y ∈ zb_big) (hi : Cond.initialized y.cls ∈ zb_big) (hc : Cond.code y bytes maxL none ∈ zb_big) (hd : y.cls ≠ "java/lang/invoke/MethodHandle" ∧ y.cls ≠ "java/lang/invoke/VarHandle" ∧ (parseMethodDescriptor y.desc).map (fun d => d.parameters.length) = some n) (hn : y.name = "<init>") (hR : rm.frames + 1 ≤ R.frames ∧ 8 + (maxL + 11) + rm.locals ≤ R.locals) : CallB R s args own index y bytes maxL none (Cond.code y bytes maxL none :: zb_big) rm rm.cells rm.slots n ∧ y.name = "<init>" ∧ (Cond.instanceMethod y).before args s = true :=
  ⟨za_gB n ht hl hi hc hd hR, hn, ht _ him⟩
theorem za_gSN (n : Nat) (ht : ∀ w ∈ zb_big, w.before args s = true) (hl : va_Nw (.methodLinkNest own index y host) s) (hst : Cond.static y ∈ zb_big) (hi : Cond.initialized y.cls ∈ zb_big) (hc : Cond.code y bytes maxL ret ∈ zb_big) (hd : y.cls ≠ "java/lang/invoke/MethodHandle" ∧ y.cls ≠ "java/lang/invoke/VarHandle" ∧ (parseMethodDescriptor y.desc).map (fun d => d.parameters.length) = some n) (hR : rm.frames + 1 ≤ R.frames ∧ 8 + (maxL + 11) + rm.locals ≤ R.locals) : va_CN R s args own index y host bytes maxL ret (Cond.code y bytes maxL ret :: zb_big) rm rm.cells rm.slots n ∧ (Cond.static y).before args s = true ∧ True :=
  ⟨va_cnB n ht (za_good hc) rfl rfl rfl hl (ht _ hi) hd hR, ht _ hst, trivial⟩
end ZG
section ZC
variable {p : Program} {l : Launch} {e : Env} {R : Room} {s : State} {m : MethodId} {args : Array Value} {below : List Frame} {meth : Method} {c : Code} {H : Heap} {locs : List Loc} {cells slots : Nat} {Q : State → Prop} {cc : ByteArray} {pc : Nat} {ls : Array Slot} {rest st0 : List Value}
variable {D : va_G} {cl : List vw_C} {tys : List (ClassId × FieldType)} {ws wc wr : va_W} {A : Nat → Prop} {H0 : Heap} {y : MethodName} {bytes : ByteArray} {maxL nL n index mc ms : Nat} {ret : Option FieldType} {wy : List Cond} {rm : Room} {Ts : List Cond} {own C host : String} {b q0 ci N : Nat} {T : u_T} {fs : List Value} {As : List Value} {lv : List (Nat × Value)} {S0 : Type} {wf wz : S0 → va_W}
theorem za_cV {v : Int32} (F : CallFix p m c cc nL s args Ts own) (hM : Met l y wy rm (za_Pr D cl tys (.ref b :: As) wc) (vp_Si (fun r => r = v)) 0 0 (fun _ => False)) (cw : CallW R s args own C index y bytes maxL ret wy rm 0 0 n) (hK : va_K D cl tys s) (hN : za_Nn s) (hP : va_P D cl ws H) (is : List Nat) (hs : is.filterMap (fun i => ws[i]?) = wc) (he : ws[q0]? = some (b, .inr (ci, fs))) (hc : cl[ci]? = some (C, T, N)) (hl : lv_has ls nL lv) (hn : As.length = n) (hst : st0 = As.reverse ++ .ref b :: rest) (hr : (rest.map fun v => v.category).sum ≤ 8) (hd : decode cc pc = .ok (.invokevirtual index, 3)) (hf : cells + 0 ≤ R.cells ∧ slots + 0 ≤ R.slots)
    (kk : W p l e R s m args below meth c H locs cells slots Q (F0 m (pc + 3) ls (.int v :: rest))) : W p l e R s m args below meth c H locs cells slots Q (F0 m pc ls st0) :=
  vp_callSi (va_runV (As := As) (rest := rest) (g := F0 m pc ls st0) F hM cw ⟨za_Pr_bl, va_recv hK hP hc he, za_Pr_at (hP.sub is hs) hK hN⟩ rfl hn hl.1 hst (lv_room (pc := pc) (ls := ls) (rest := st0) hr) hd hf).run (fun r h => by subst h; exact kk)
theorem za_cVN {v : Int32} (F : CallFix p m c cc nL s args Ts own) (hM : Met l y wy rm (za_Pr D cl tys (.ref b :: As) wc) (vp_Si (fun r => r = v)) 0 0 (fun _ => False)) (cw : va_CN R s args own index y host bytes maxL ret wy rm 0 0 n ∧ (Cond.instanceMethod y).before args s = true ∧ (Cond.selects C y y).before args s = true) (hK : va_K D cl tys s) (hN : za_Nn s) (hP : va_P D cl ws H) (is : List Nat) (hs : is.filterMap (fun i => ws[i]?) = wc) (he : ws[q0]? = some (b, .inr (ci, fs))) (hc : cl[ci]? = some (C, T, N)) (hl : lv_has ls nL lv) (hn : As.length = n) (hst : st0 = As.reverse ++ .ref b :: rest) (hr : (rest.map fun v => v.category).sum ≤ 8) (hd : decode cc pc = .ok (.invokevirtual index, 3)) (hf : cells + 0 ≤ R.cells ∧ slots + 0 ≤ R.slots)
    (kk : W p l e R s m args below meth c H locs cells slots Q (F0 m (pc + 3) ls (.int v :: rest))) : W p l e R s m args below meth c H locs cells slots Q (F0 m pc ls st0) :=
  vp_callSi (va_runVN (As := As) (rest := rest) (g := F0 m pc ls st0) F hM cw ⟨za_Pr_bl, va_recv hK hP hc he, za_Pr_at (hP.sub is hs) hK hN⟩ rfl hn hl.1 hst (lv_room (pc := pc) (ls := ls) (rest := st0) hr) hd hf).run (fun r h => by subst h; exact kk)
theorem za_cS {v : Int32} (F : CallFix p m c cc nL s args Ts own) (hM : Met l y wy rm (za_Pr D cl tys As wc) (vp_Si (fun r => r = v)) 0 0 (fun _ => False)) (cw : CallB R s args own index y bytes maxL ret wy rm 0 0 n ∧ (Cond.static y).before args s = true) (hK : va_K D cl tys s) (hN : za_Nn s) (hP : va_P D cl ws H) (is : List Nat) (hs : is.filterMap (fun i => ws[i]?) = wc) (hl : lv_has ls nL lv) (hn : As.length = n) (hst : st0 = As.reverse ++ rest) (hr : (rest.map fun v => v.category).sum ≤ 8) (hd : decode cc pc = .ok (.invokestatic index, 3)) (hf : cells + 0 ≤ R.cells ∧ slots + 0 ≤ R.slots)
    (kk : W p l e R s m args below meth c H locs cells slots Q (F0 m (pc + 3) ls (.int v :: rest))) : W p l e R s m args below meth c H locs cells slots Q (F0 m pc ls st0) :=
  vp_callSi (va_runS (As := As) (rest := rest) (g := F0 m pc ls st0) F hM cw ⟨za_Pr_bl, za_Pr_at (hP.sub is hs) hK hN⟩ rfl hn hl.1 hst (lv_room (pc := pc) (ls := ls) (rest := st0) hr) hd hf).run (fun r h => by subst h; exact kk)
theorem za_cSN {v : Int32} (F : CallFix p m c cc nL s args Ts own) (hM : Met l y wy rm (za_Pr D cl tys As wc) (vp_Si (fun r => r = v)) 0 0 (fun _ => False)) (cw : va_CN R s args own index y host bytes maxL ret wy rm 0 0 n ∧ (Cond.static y).before args s = true ∧ True) (hK : va_K D cl tys s) (hN : za_Nn s) (hP : va_P D cl ws H) (is : List Nat) (hs : is.filterMap (fun i => ws[i]?) = wc) (hl : lv_has ls nL lv) (hn : As.length = n) (hst : st0 = As.reverse ++ rest) (hr : (rest.map fun v => v.category).sum ≤ 8) (hd : decode cc pc = .ok (.invokestatic index, 3)) (hf : cells + 0 ≤ R.cells ∧ slots + 0 ≤ R.slots)
    (kk : W p l e R s m args below meth c H locs cells slots Q (F0 m (pc + 3) ls (.int v :: rest))) : W p l e R s m args below meth c H locs cells slots Q (F0 m pc ls st0) :=
  vp_callSi (va_runSN (As := As) (rest := rest) (g := F0 m pc ls st0) F hM cw ⟨za_Pr_bl, za_Pr_at (hP.sub is hs) hK hN⟩ rfl hn hl.1 hst (lv_room (pc := pc) (ls := ls) (rest := st0) hr) hd hf).run (fun r h => by subst h; exact kk)
theorem za_wVv {post : S0 → Prop} (F : CallFix p m c cc nL s args Ts own) (hM : Met l y wy rm (za_Pw D cl tys (.ref b :: As) wc H.size) (va_Qv post (za_B D cl wc H.size wf) (va_A wc H.size)) mc ms (va_A wc H.size)) (cw : CallW R s args own C index y bytes maxL ret wy rm mc ms n) (hK : va_K D cl tys s) (hN : za_Nn s) (hP : va_P D cl ws H) (hD : va_D A ws) (hS : va_S A H0 H locs) (hA : ∀ q, H0.size ≤ q → A q) (isC isR isZ : List Nat) (hC : isC.map (fun i => ws[i]?) = wc.map some) (hR : isR.map (fun i => ws[i]?) = wr.map some) (hnC : va_nd isC = true) (hnR : va_nd isR = true) (hdis : ∀ i ∈ isR, i ∉ isC) (hnZ : va_nd isZ = true) (hZ : ∀ u, isZ.map (fun i => (wr ++ wf u)[i]?) = (wz u).map some) (he : ws[q0]? = some (b, .inr (ci, fs))) (hc : cl[ci]? = some (C, T, N)) (hl : lv_has ls nL lv) (hn : As.length = n) (hst : st0 = As.reverse ++ .ref b :: rest) (hr : (rest.map fun v => v.category).sum ≤ 8) (hd : decode cc pc = .ok (.invokevirtual index, 3)) (hf : cells + mc ≤ R.cells ∧ slots + ms ≤ R.slots)
    (kk : ∀ (u : S0) (H1 : Heap) (locs1 : List Loc), post u → va_P D cl (wz u) H1 → va_D A (wz u) → va_S A H0 H1 locs1 → W p l e R s m args below meth c H1 locs1 (cells + mc) (slots + ms) Q (F0 m (pc + 3) ls rest)) : W p l e R s m args below meth c H locs cells slots Q (F0 m pc ls st0) := by
  have hFc := va_free (wc := wc) hD hS hA isC hC
  refine va_callv (va_runV (As := As) (rest := rest) (g := F0 m pc ls st0) F hM cw ⟨za_Pw_bl, va_recv hK hP hc he, za_Pw_at (hP.sub isC (za_fm hC)) (hD.sub isC hnC hC) hK hN⟩ rfl hn hl.1 hst (lv_room (pc := pc) (ls := ls) (rest := st0) hr) hd hf) hS (fun q _ h => hFc q h) hFc (fun u t H1 locs1 ht hvm hw hB hz hk hS1 => ?_)
  obtain ⟨hP1, hD1⟩ := hB
  rw [ht] at hP1
  obtain ⟨hP2, hD2⟩ := va_join hP hD isC isR hC hR hnR hdis hk hFc hP1 hD1
  exact kk u H1 locs1 hw (hP2.sub isZ (za_fm (hZ u))) (hD2.sub isZ hnZ (hZ u)) hS1
theorem za_wVi {post : Int32 → S0 → Prop} (F : CallFix p m c cc nL s args Ts own) (hM : Met l y wy rm (za_Pw D cl tys (.ref b :: As) wc H.size) (va_Qi post (za_B D cl wc H.size wf) (va_A wc H.size)) mc ms (va_A wc H.size)) (cw : CallW R s args own C index y bytes maxL ret wy rm mc ms n) (hK : va_K D cl tys s) (hN : za_Nn s) (hP : va_P D cl ws H) (hD : va_D A ws) (hS : va_S A H0 H locs) (hA : ∀ q, H0.size ≤ q → A q) (isC isR isZ : List Nat) (hC : isC.map (fun i => ws[i]?) = wc.map some) (hR : isR.map (fun i => ws[i]?) = wr.map some) (hnC : va_nd isC = true) (hnR : va_nd isR = true) (hdis : ∀ i ∈ isR, i ∉ isC) (hnZ : va_nd isZ = true) (hZ : ∀ u, isZ.map (fun i => (wr ++ wf u)[i]?) = (wz u).map some) (he : ws[q0]? = some (b, .inr (ci, fs))) (hc : cl[ci]? = some (C, T, N)) (hl : lv_has ls nL lv) (hn : As.length = n) (hst : st0 = As.reverse ++ .ref b :: rest) (hr : (rest.map fun v => v.category).sum ≤ 8) (hd : decode cc pc = .ok (.invokevirtual index, 3)) (hf : cells + mc ≤ R.cells ∧ slots + ms ≤ R.slots)
    (kk : ∀ (r : Int32) (u : S0) (H1 : Heap) (locs1 : List Loc), post r u → va_P D cl (wz u) H1 → va_D A (wz u) → va_S A H0 H1 locs1 → W p l e R s m args below meth c H1 locs1 (cells + mc) (slots + ms) Q (F0 m (pc + 3) ls (.int r :: rest))) : W p l e R s m args below meth c H locs cells slots Q (F0 m pc ls st0) := by
  have hFc := va_free (wc := wc) hD hS hA isC hC
  refine va_calli (va_runV (As := As) (rest := rest) (g := F0 m pc ls st0) F hM cw ⟨za_Pw_bl, va_recv hK hP hc he, za_Pw_at (hP.sub isC (za_fm hC)) (hD.sub isC hnC hC) hK hN⟩ rfl hn hl.1 hst (lv_room (pc := pc) (ls := ls) (rest := st0) hr) hd hf) hS (fun q _ h => hFc q h) hFc (fun r u t H1 locs1 ht hvm hw hB hz hk hS1 => ?_)
  obtain ⟨hP1, hD1⟩ := hB
  rw [ht] at hP1
  obtain ⟨hP2, hD2⟩ := va_join hP hD isC isR hC hR hnR hdis hk hFc hP1 hD1
  exact kk r u H1 locs1 hw (hP2.sub isZ (za_fm (hZ u))) (hD2.sub isZ hnZ (hZ u)) hS1
theorem za_wVr {post : S0 → Prop} {a0 : Nat} (F : CallFix p m c cc nL s args Ts own) (hM : Met l y wy rm (za_Pw D cl tys (.ref b :: As) wc H.size) (va_Qr post (za_Br D cl wc H.size a0 wf) (va_A wc H.size)) mc ms (va_A wc H.size)) (cw : CallW R s args own C index y bytes maxL ret wy rm mc ms n) (hK : va_K D cl tys s) (hN : za_Nn s) (hP : va_P D cl ws H) (hD : va_D A ws) (hS : va_S A H0 H locs) (hA : ∀ q, H0.size ≤ q → A q) (isC isR isZ : List Nat) (hC : isC.map (fun i => ws[i]?) = wc.map some) (hR : isR.map (fun i => ws[i]?) = wr.map some) (hnC : va_nd isC = true) (hnR : va_nd isR = true) (hdis : ∀ i ∈ isR, i ∉ isC) (hnZ : va_nd isZ = true) (hZ : ∀ u, isZ.map (fun i => (wr ++ wf u)[i]?) = (wz u).map some) (he : ws[q0]? = some (b, .inr (ci, fs))) (hc : cl[ci]? = some (C, T, N)) (hl : lv_has ls nL lv) (hn : As.length = n) (hst : st0 = As.reverse ++ .ref b :: rest) (hr : (rest.map fun v => v.category).sum ≤ 8) (hd : decode cc pc = .ok (.invokevirtual index, 3)) (hf : cells + mc ≤ R.cells ∧ slots + ms ≤ R.slots)
    (kk : ∀ (u : S0) (H1 : Heap) (locs1 : List Loc), post u → va_P D cl (wz u) H1 → va_D A (wz u) → va_S A H0 H1 locs1 → W p l e R s m args below meth c H1 locs1 (cells + mc) (slots + ms) Q (F0 m (pc + 3) ls (.ref a0 :: rest))) : W p l e R s m args below meth c H locs cells slots Q (F0 m pc ls st0) := by
  have hFc := va_free (wc := wc) hD hS hA isC hC
  refine va_callr (va_runV (As := As) (rest := rest) (g := F0 m pc ls st0) F hM cw ⟨za_Pw_bl, va_recv hK hP hc he, za_Pw_at (hP.sub isC (za_fm hC)) (hD.sub isC hnC hC) hK hN⟩ rfl hn hl.1 hst (lv_room (pc := pc) (ls := ls) (rest := st0) hr) hd hf) hS (fun q _ h => hFc q h) hFc (fun u a t H1 locs1 ht hvm hw hB hz hk hS1 => ?_)
  obtain ⟨rfl, hP1, hD1⟩ := hB
  rw [ht] at hP1
  obtain ⟨hP2, hD2⟩ := va_join hP hD isC isR hC hR hnR hdis hk hFc hP1 hD1
  exact kk u H1 locs1 hw (hP2.sub isZ (za_fm (hZ u))) (hD2.sub isZ hnZ (hZ u)) hS1
theorem za_wVNv {post : S0 → Prop} (F : CallFix p m c cc nL s args Ts own) (hM : Met l y wy rm (za_Pw D cl tys (.ref b :: As) wc H.size) (va_Qv post (za_B D cl wc H.size wf) (va_A wc H.size)) mc ms (va_A wc H.size)) (cw : va_CN R s args own index y host bytes maxL ret wy rm mc ms n ∧ (Cond.instanceMethod y).before args s = true ∧ (Cond.selects C y y).before args s = true) (hK : va_K D cl tys s) (hN : za_Nn s) (hP : va_P D cl ws H) (hD : va_D A ws) (hS : va_S A H0 H locs) (hA : ∀ q, H0.size ≤ q → A q) (isC isR isZ : List Nat) (hC : isC.map (fun i => ws[i]?) = wc.map some) (hR : isR.map (fun i => ws[i]?) = wr.map some) (hnC : va_nd isC = true) (hnR : va_nd isR = true) (hdis : ∀ i ∈ isR, i ∉ isC) (hnZ : va_nd isZ = true) (hZ : ∀ u, isZ.map (fun i => (wr ++ wf u)[i]?) = (wz u).map some) (he : ws[q0]? = some (b, .inr (ci, fs))) (hc : cl[ci]? = some (C, T, N)) (hl : lv_has ls nL lv) (hn : As.length = n) (hst : st0 = As.reverse ++ .ref b :: rest) (hr : (rest.map fun v => v.category).sum ≤ 8) (hd : decode cc pc = .ok (.invokevirtual index, 3)) (hf : cells + mc ≤ R.cells ∧ slots + ms ≤ R.slots)
    (kk : ∀ (u : S0) (H1 : Heap) (locs1 : List Loc), post u → va_P D cl (wz u) H1 → va_D A (wz u) → va_S A H0 H1 locs1 → W p l e R s m args below meth c H1 locs1 (cells + mc) (slots + ms) Q (F0 m (pc + 3) ls rest)) : W p l e R s m args below meth c H locs cells slots Q (F0 m pc ls st0) := by
  have hFc := va_free (wc := wc) hD hS hA isC hC
  refine va_callv (va_runVN (As := As) (rest := rest) (g := F0 m pc ls st0) F hM cw ⟨za_Pw_bl, va_recv hK hP hc he, za_Pw_at (hP.sub isC (za_fm hC)) (hD.sub isC hnC hC) hK hN⟩ rfl hn hl.1 hst (lv_room (pc := pc) (ls := ls) (rest := st0) hr) hd hf) hS (fun q _ h => hFc q h) hFc (fun u t H1 locs1 ht hvm hw hB hz hk hS1 => ?_)
  obtain ⟨hP1, hD1⟩ := hB
  rw [ht] at hP1
  obtain ⟨hP2, hD2⟩ := va_join hP hD isC isR hC hR hnR hdis hk hFc hP1 hD1
  exact kk u H1 locs1 hw (hP2.sub isZ (za_fm (hZ u))) (hD2.sub isZ hnZ (hZ u)) hS1
theorem za_wVNi {post : Int32 → S0 → Prop} (F : CallFix p m c cc nL s args Ts own) (hM : Met l y wy rm (za_Pw D cl tys (.ref b :: As) wc H.size) (va_Qi post (za_B D cl wc H.size wf) (va_A wc H.size)) mc ms (va_A wc H.size)) (cw : va_CN R s args own index y host bytes maxL ret wy rm mc ms n ∧ (Cond.instanceMethod y).before args s = true ∧ (Cond.selects C y y).before args s = true) (hK : va_K D cl tys s) (hN : za_Nn s) (hP : va_P D cl ws H) (hD : va_D A ws) (hS : va_S A H0 H locs) (hA : ∀ q, H0.size ≤ q → A q) (isC isR isZ : List Nat) (hC : isC.map (fun i => ws[i]?) = wc.map some) (hR : isR.map (fun i => ws[i]?) = wr.map some) (hnC : va_nd isC = true) (hnR : va_nd isR = true) (hdis : ∀ i ∈ isR, i ∉ isC) (hnZ : va_nd isZ = true) (hZ : ∀ u, isZ.map (fun i => (wr ++ wf u)[i]?) = (wz u).map some) (he : ws[q0]? = some (b, .inr (ci, fs))) (hc : cl[ci]? = some (C, T, N)) (hl : lv_has ls nL lv) (hn : As.length = n) (hst : st0 = As.reverse ++ .ref b :: rest) (hr : (rest.map fun v => v.category).sum ≤ 8) (hd : decode cc pc = .ok (.invokevirtual index, 3)) (hf : cells + mc ≤ R.cells ∧ slots + ms ≤ R.slots)
    (kk : ∀ (r : Int32) (u : S0) (H1 : Heap) (locs1 : List Loc), post r u → va_P D cl (wz u) H1 → va_D A (wz u) → va_S A H0 H1 locs1 → W p l e R s m args below meth c H1 locs1 (cells + mc) (slots + ms) Q (F0 m (pc + 3) ls (.int r :: rest))) : W p l e R s m args below meth c H locs cells slots Q (F0 m pc ls st0) := by
  have hFc := va_free (wc := wc) hD hS hA isC hC
  refine va_calli (va_runVN (As := As) (rest := rest) (g := F0 m pc ls st0) F hM cw ⟨za_Pw_bl, va_recv hK hP hc he, za_Pw_at (hP.sub isC (za_fm hC)) (hD.sub isC hnC hC) hK hN⟩ rfl hn hl.1 hst (lv_room (pc := pc) (ls := ls) (rest := st0) hr) hd hf) hS (fun q _ h => hFc q h) hFc (fun r u t H1 locs1 ht hvm hw hB hz hk hS1 => ?_)
  obtain ⟨hP1, hD1⟩ := hB
  rw [ht] at hP1
  obtain ⟨hP2, hD2⟩ := va_join hP hD isC isR hC hR hnR hdis hk hFc hP1 hD1
  exact kk r u H1 locs1 hw (hP2.sub isZ (za_fm (hZ u))) (hD2.sub isZ hnZ (hZ u)) hS1
theorem za_wVNr {post : S0 → Prop} {a0 : Nat} (F : CallFix p m c cc nL s args Ts own) (hM : Met l y wy rm (za_Pw D cl tys (.ref b :: As) wc H.size) (va_Qr post (za_Br D cl wc H.size a0 wf) (va_A wc H.size)) mc ms (va_A wc H.size)) (cw : va_CN R s args own index y host bytes maxL ret wy rm mc ms n ∧ (Cond.instanceMethod y).before args s = true ∧ (Cond.selects C y y).before args s = true) (hK : va_K D cl tys s) (hN : za_Nn s) (hP : va_P D cl ws H) (hD : va_D A ws) (hS : va_S A H0 H locs) (hA : ∀ q, H0.size ≤ q → A q) (isC isR isZ : List Nat) (hC : isC.map (fun i => ws[i]?) = wc.map some) (hR : isR.map (fun i => ws[i]?) = wr.map some) (hnC : va_nd isC = true) (hnR : va_nd isR = true) (hdis : ∀ i ∈ isR, i ∉ isC) (hnZ : va_nd isZ = true) (hZ : ∀ u, isZ.map (fun i => (wr ++ wf u)[i]?) = (wz u).map some) (he : ws[q0]? = some (b, .inr (ci, fs))) (hc : cl[ci]? = some (C, T, N)) (hl : lv_has ls nL lv) (hn : As.length = n) (hst : st0 = As.reverse ++ .ref b :: rest) (hr : (rest.map fun v => v.category).sum ≤ 8) (hd : decode cc pc = .ok (.invokevirtual index, 3)) (hf : cells + mc ≤ R.cells ∧ slots + ms ≤ R.slots)
    (kk : ∀ (u : S0) (H1 : Heap) (locs1 : List Loc), post u → va_P D cl (wz u) H1 → va_D A (wz u) → va_S A H0 H1 locs1 → W p l e R s m args below meth c H1 locs1 (cells + mc) (slots + ms) Q (F0 m (pc + 3) ls (.ref a0 :: rest))) : W p l e R s m args below meth c H locs cells slots Q (F0 m pc ls st0) := by
  have hFc := va_free (wc := wc) hD hS hA isC hC
  refine va_callr (va_runVN (As := As) (rest := rest) (g := F0 m pc ls st0) F hM cw ⟨za_Pw_bl, va_recv hK hP hc he, za_Pw_at (hP.sub isC (za_fm hC)) (hD.sub isC hnC hC) hK hN⟩ rfl hn hl.1 hst (lv_room (pc := pc) (ls := ls) (rest := st0) hr) hd hf) hS (fun q _ h => hFc q h) hFc (fun u a t H1 locs1 ht hvm hw hB hz hk hS1 => ?_)
  obtain ⟨rfl, hP1, hD1⟩ := hB
  rw [ht] at hP1
  obtain ⟨hP2, hD2⟩ := va_join hP hD isC isR hC hR hnR hdis hk hFc hP1 hD1
  exact kk u H1 locs1 hw (hP2.sub isZ (za_fm (hZ u))) (hD2.sub isZ hnZ (hZ u)) hS1
theorem za_wIv {post : S0 → Prop} (F : CallFix p m c cc nL s args Ts own) (hM : Met l y wy rm (za_Pw D cl tys (.ref b :: As) wc H.size) (va_Qv post (za_B D cl wc H.size wf) (va_A wc H.size)) mc ms (va_A wc H.size)) (cw : CallB R s args own index y bytes maxL none wy rm mc ms n ∧ y.name = "<init>" ∧ (Cond.instanceMethod y).before args s = true) (hK : va_K D cl tys s) (hN : za_Nn s) (hP : va_P D cl ws H) (hD : va_D A ws) (hS : va_S A H0 H locs) (hA : ∀ q, H0.size ≤ q → A q) (isC isR isZ : List Nat) (hC : isC.map (fun i => ws[i]?) = wc.map some) (hR : isR.map (fun i => ws[i]?) = wr.map some) (hnC : va_nd isC = true) (hnR : va_nd isR = true) (hdis : ∀ i ∈ isR, i ∉ isC) (hnZ : va_nd isZ = true) (hZ : ∀ u, isZ.map (fun i => (wr ++ wf u)[i]?) = (wz u).map some) (hl : lv_has ls nL lv) (hn : As.length = n) (hst : st0 = As.reverse ++ .ref b :: rest) (hr : (rest.map fun v => v.category).sum ≤ 8) (hd : decode cc pc = .ok (.invokespecial index, 3)) (hf : cells + mc ≤ R.cells ∧ slots + ms ≤ R.slots)
    (kk : ∀ (u : S0) (H1 : Heap) (locs1 : List Loc), post u → va_P D cl (wz u) H1 → va_D A (wz u) → va_S A H0 H1 locs1 → W p l e R s m args below meth c H1 locs1 (cells + mc) (slots + ms) Q (F0 m (pc + 3) ls rest)) : W p l e R s m args below meth c H locs cells slots Q (F0 m pc ls st0) := by
  have hFc := va_free (wc := wc) hD hS hA isC hC
  refine va_callv (va_runI (As := As) (rest := rest) (g := F0 m pc ls st0) F hM cw ⟨za_Pw_bl, za_Pw_at (hP.sub isC (za_fm hC)) (hD.sub isC hnC hC) hK hN⟩ rfl hn hl.1 hst (lv_room (pc := pc) (ls := ls) (rest := st0) hr) hd hf) hS (fun q _ h => hFc q h) hFc (fun u t H1 locs1 ht hvm hw hB hz hk hS1 => ?_)
  obtain ⟨hP1, hD1⟩ := hB
  rw [ht] at hP1
  obtain ⟨hP2, hD2⟩ := va_join hP hD isC isR hC hR hnR hdis hk hFc hP1 hD1
  exact kk u H1 locs1 hw (hP2.sub isZ (za_fm (hZ u))) (hD2.sub isZ hnZ (hZ u)) hS1
theorem za_wINv {post : S0 → Prop} (F : CallFix p m c cc nL s args Ts own) (hM : Met l y wy rm (za_Pw D cl tys (.ref b :: As) wc H.size) (va_Qv post (za_B D cl wc H.size wf) (va_A wc H.size)) mc ms (va_A wc H.size)) (cw : va_CN R s args own index y host bytes maxL none wy rm mc ms n ∧ y.name = "<init>" ∧ (Cond.instanceMethod y).before args s = true) (hK : va_K D cl tys s) (hN : za_Nn s) (hP : va_P D cl ws H) (hD : va_D A ws) (hS : va_S A H0 H locs) (hA : ∀ q, H0.size ≤ q → A q) (isC isR isZ : List Nat) (hC : isC.map (fun i => ws[i]?) = wc.map some) (hR : isR.map (fun i => ws[i]?) = wr.map some) (hnC : va_nd isC = true) (hnR : va_nd isR = true) (hdis : ∀ i ∈ isR, i ∉ isC) (hnZ : va_nd isZ = true) (hZ : ∀ u, isZ.map (fun i => (wr ++ wf u)[i]?) = (wz u).map some) (hl : lv_has ls nL lv) (hn : As.length = n) (hst : st0 = As.reverse ++ .ref b :: rest) (hr : (rest.map fun v => v.category).sum ≤ 8) (hd : decode cc pc = .ok (.invokespecial index, 3)) (hf : cells + mc ≤ R.cells ∧ slots + ms ≤ R.slots)
    (kk : ∀ (u : S0) (H1 : Heap) (locs1 : List Loc), post u → va_P D cl (wz u) H1 → va_D A (wz u) → va_S A H0 H1 locs1 → W p l e R s m args below meth c H1 locs1 (cells + mc) (slots + ms) Q (F0 m (pc + 3) ls rest)) : W p l e R s m args below meth c H locs cells slots Q (F0 m pc ls st0) := by
  have hFc := va_free (wc := wc) hD hS hA isC hC
  refine va_callv (va_runIN (As := As) (rest := rest) (g := F0 m pc ls st0) F hM cw ⟨za_Pw_bl, za_Pw_at (hP.sub isC (za_fm hC)) (hD.sub isC hnC hC) hK hN⟩ rfl hn hl.1 hst (lv_room (pc := pc) (ls := ls) (rest := st0) hr) hd hf) hS (fun q _ h => hFc q h) hFc (fun u t H1 locs1 ht hvm hw hB hz hk hS1 => ?_)
  obtain ⟨hP1, hD1⟩ := hB
  rw [ht] at hP1
  obtain ⟨hP2, hD2⟩ := va_join hP hD isC isR hC hR hnR hdis hk hFc hP1 hD1
  exact kk u H1 locs1 hw (hP2.sub isZ (za_fm (hZ u))) (hD2.sub isZ hnZ (hZ u)) hS1
end ZC
