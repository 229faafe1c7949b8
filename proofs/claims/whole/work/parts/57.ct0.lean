/-! how many bits an int has, as Integer.bitCount finds it: byte by byte -/
theorem za_land {a m b c : Nat} (ha : a < 256) (hm : m < 256) : (256 * b + a) &&& (256 * c + m) = 256 * (b &&& c) + (a &&& m) := by
  have hl : a &&& m < 2 ^ 8 := Nat.lt_of_le_of_lt Nat.and_le_left ha
  apply Nat.eq_of_testBit_eq
  intro i
  have e1 := Nat.testBit_two_pow_mul_add (i := 8) b (show a < 2 ^ 8 from ha) i
  have e2 := Nat.testBit_two_pow_mul_add (i := 8) c (show m < 2 ^ 8 from hm) i
  have e3 := Nat.testBit_two_pow_mul_add (i := 8) (b &&& c) hl i
  rw [show (2 : Nat) ^ 8 = 256 from rfl] at e1 e2 e3
  rw [Nat.testBit_and, e1, e2, e3]
  split <;> rw [Nat.testBit_and]
/-- a number of four bytes -/
def za_q4 (a b c d : Nat) : Nat := 256 * (256 * (256 * d + c) + b) + a
theorem za_land4 {a b c d m : Nat} (ha : a < 256) (hb : b < 256) (hc : c < 256) (hm : m < 256) : za_q4 a b c d &&& za_q4 m m m m = za_q4 (a &&& m) (b &&& m) (c &&& m) (d &&& m) := by
  unfold za_q4
  rw [za_land ha hm, za_land hb hm, za_land hc hm]
theorem za_q4_of (n : Nat) (h : n < 2 ^ 32) : n = za_q4 (n % 256) (n / 256 % 256) (n / 65536 % 256) (n / 16777216) ∧ n / 16777216 < 256 := by
  unfold za_q4
  omega
def za_f1 (b : Nat) : Nat := b - (b / 2 &&& 85)
def za_f2 (b : Nat) : Nat := (b &&& 51) + (b / 4 &&& 51)
def za_f3 (b : Nat) : Nat := (b + b / 16) &&& 15
theorem za_fs : ∀ b, b < 256 → (b / 2 &&& 85) ≤ b ∧ (∀ k, k < 2 → ((b / 2 + 128 * k) &&& 85) = (b / 2 &&& 85)) := by decide +kernel
theorem za_fs2 : ∀ b, b < 256 → za_f1 b < 256 ∧ za_f2 (za_f1 b) ≤ 68 ∧ za_f2 (za_f1 b) % 16 ≤ 4 ∧ za_f3 (za_f2 (za_f1 b)) = za_cn (fun i => b.testBit i) 8 ∧ za_f3 (za_f2 (za_f1 b)) ≤ 8 := by decide +kernel
theorem za_fs3 : ∀ c, c < 256 → ∀ k, k < 4 → ((c / 4 + 64 * k) &&& 51) = (c / 4 &&& 51) := by decide +kernel
theorem za_fs4 : ∀ d, d ≤ 68 → ∀ k, k ≤ 4 → ((d + (d / 16 + 16 * k)) &&& 15) = za_f3 d := by decide +kernel
theorem za_c5 : (1431655765 : Nat) = za_q4 85 85 85 85 := by decide
theorem za_c3 : (858993459 : Nat) = za_q4 51 51 51 51 := by decide
theorem za_cf : (252645135 : Nat) = za_q4 15 15 15 15 := by decide
def za_p1 (n : Nat) : Nat := n - (n / 2 &&& 1431655765)
def za_p2 (n : Nat) : Nat := (n &&& 858993459) + (n / 4 &&& 858993459)
def za_p3 (n : Nat) : Nat := (n + n / 16) &&& 252645135
theorem za_p1_4 {a b c d : Nat} (ha : a < 256) (hb : b < 256) (hc : c < 256) (hd : d < 256) : za_p1 (za_q4 a b c d) = za_q4 (za_f1 a) (za_f1 b) (za_f1 c) (za_f1 d) ∧ (za_q4 a b c d / 2 &&& 1431655765) ≤ za_q4 a b c d := by
  have e : za_q4 a b c d / 2 = za_q4 (a / 2 + 128 * (b % 2)) (b / 2 + 128 * (c % 2)) (c / 2 + 128 * (d % 2)) (d / 2) := by
    unfold za_q4
    omega
  have A := za_fs a ha
  have B := za_fs b hb
  have C := za_fs c hc
  have D := za_fs d hd
  have e2 : za_q4 a b c d / 2 &&& 1431655765 = za_q4 (a / 2 &&& 85) (b / 2 &&& 85) (c / 2 &&& 85) (d / 2 &&& 85) := by
    rw [e, za_c5, za_land4 (by omega) (by omega) (by omega) (by omega), A.2 _ (by omega), B.2 _ (by omega), C.2 _ (by omega)]
  have h1 := A.1
  have h2 := B.1
  have h3 := C.1
  have h4 := D.1
  unfold za_p1
  rw [e2]
  unfold za_f1 za_q4
  omega
theorem za_p2_4 {a b c d : Nat} (ha : a < 256) (hb : b < 256) (hc : c < 256) (hd : d < 256) : za_p2 (za_q4 a b c d) = za_q4 (za_f2 a) (za_f2 b) (za_f2 c) (za_f2 d) := by
  have e : za_q4 a b c d / 4 = za_q4 (a / 4 + 64 * (b % 4)) (b / 4 + 64 * (c % 4)) (c / 4 + 64 * (d % 4)) (d / 4) := by
    unfold za_q4
    omega
  unfold za_p2
  rw [e, za_c3, za_land4 ha hb hc (by omega), za_land4 (by omega) (by omega) (by omega) (by omega), za_fs3 a ha _ (by omega), za_fs3 b hb _ (by omega), za_fs3 c hc _ (by omega)]
  unfold za_f2 za_q4
  omega
theorem za_p3_4 {a b c d : Nat} (ha : a ≤ 68) (hb : b ≤ 68) (hc : c ≤ 68) (hd : d ≤ 68) (hb4 : b % 16 ≤ 4) (hc4 : c % 16 ≤ 4) (hd4 : d % 16 ≤ 4) : za_p3 (za_q4 a b c d) = za_q4 (za_f3 a) (za_f3 b) (za_f3 c) (za_f3 d) := by
  have e : za_q4 a b c d + za_q4 a b c d / 16 = za_q4 (a + (a / 16 + 16 * (b % 16))) (b + (b / 16 + 16 * (c % 16))) (c + (c / 16 + 16 * (d % 16))) (d + d / 16) := by
    unfold za_q4
    omega
  unfold za_p3
  rw [e, za_cf, za_land4 (by omega) (by omega) (by omega) (by omega), za_fs4 a ha _ hb4, za_fs4 b hb _ hc4, za_fs4 c hc _ hd4]
  rfl
def za_p4 (n : Nat) : Nat := n + n / 256
def za_p5 (n : Nat) : Nat := n + n / 65536
theorem za_63 (n : Nat) : n &&& 63 = n % 64 := Nat.and_two_pow_sub_one_eq_mod n 6
theorem za_p5_4 {a b c d : Nat} (ha : a ≤ 8) (hb : b ≤ 8) (hc : c ≤ 8) (hd : d ≤ 8) : za_p5 (za_p4 (za_q4 a b c d)) &&& 63 = a + b + c + d := by
  have e1 : za_p4 (za_q4 a b c d) = 65536 * (256 * d + (c + d)) + (256 * (b + c) + (a + b)) := by
    have e : za_q4 a b c d / 256 = 256 * (256 * d + c) + b := by unfold za_q4; omega
    unfold za_p4
    rw [e]
    unfold za_q4
    omega
  have e2 : za_p5 (za_p4 (za_q4 a b c d)) = 64 * (1024 * (256 * d + (c + d)) + 4 * (b + c) + 4 * d) + (a + b + c + d) := by
    rw [e1]
    unfold za_p5
    rw [show (65536 * (256 * d + (c + d)) + (256 * (b + c) + (a + b))) / 65536 = 256 * d + (c + d) by omega]
    omega
  rw [za_63, e2]
  omega
theorem za_cn_add (p : Nat → Bool) (n m : Nat) : za_cn p (n + m) = za_cn p n + za_cn (fun i => p (n + i)) m := by
  induction m with
  | zero => rfl
  | succ m ih =>
    show za_cn p ((n + m) + 1) = _
    rw [za_cn, za_cn, ih]
    split <;> rfl
theorem za_tb {a r i : Nat} (ha : a < 256) : (256 * r + a).testBit i = if i < 8 then a.testBit i else r.testBit (i - 8) := Nat.testBit_two_pow_mul_add (i := 8) r (show a < 2 ^ 8 from ha) i
theorem za_cn4 {a b c d : Nat} (ha : a < 256) (hb : b < 256) (hc : c < 256) : za_cn (fun i => (za_q4 a b c d).testBit i) 32 = za_cn (fun i => a.testBit i) 8 + za_cn (fun i => b.testBit i) 8 + za_cn (fun i => c.testBit i) 8 + za_cn (fun i => d.testBit i) 8 := by
  have go : ∀ (a r n : Nat), a < 256 → za_cn (fun i => (256 * r + a).testBit i) (8 + n) = za_cn (fun i => a.testBit i) 8 + za_cn (fun i => r.testBit i) n := by
    intro a r n ha
    rw [za_cn_add, za_cn_congr (q := fun i => a.testBit i) (fun i hi => by rw [za_tb ha, if_pos hi]), za_cn_congr (p := fun i => (256 * r + a).testBit (8 + i)) (q := fun i => r.testBit i) (fun i hi => by rw [za_tb ha, if_neg (by omega), show 8 + i - 8 = i by omega])]
  unfold za_q4
  rw [show (32 : Nat) = 8 + (8 + (8 + 8)) from rfl, go _ _ _ ha, go _ _ _ hb, go _ _ _ hc]
  omega
theorem za_bt_nI {n i : Nat} (h : n < 2 ^ 32) : bt (nI n) i = n.testBit i := by
  unfold bt
  show (BitVec.ofNat 32 n).getLsbD i = _
  rw [BitVec.getLsbD_ofNat]
  by_cases hi : i < 32
  · simp [hi]
  · have e : n.testBit i = false := Nat.testBit_lt_two_pow (Nat.lt_of_lt_of_le h (Nat.pow_le_pow_right (by omega) (by omega)))
    simp [hi, e]
theorem za_bits (n : Nat) (h : n < 2 ^ 32) : za_p5 (za_p4 (za_p3 (za_p2 (za_p1 n)))) &&& 63 = za_pc (nI n) := by
  obtain ⟨e, hd⟩ := za_q4_of n h
  have ha : n % 256 < 256 := by omega
  have hb : n / 256 % 256 < 256 := by omega
  have hc : n / 65536 % 256 < 256 := by omega
  obtain ⟨a1, a2, a3, a4, a5⟩ := za_fs2 _ ha
  obtain ⟨b1, b2, b3, b4, b5⟩ := za_fs2 _ hb
  obtain ⟨c1, c2, c3, c4, c5⟩ := za_fs2 _ hc
  obtain ⟨d1, d2, d3, d4, d5⟩ := za_fs2 _ hd
  unfold za_pc
  rw [za_cn_congr (q := fun i => n.testBit i) (fun i _ => za_bt_nI h)]
  generalize n % 256 = a at *
  generalize n / 256 % 256 = b at *
  generalize n / 65536 % 256 = c at *
  generalize n / 16777216 = d at *
  subst e
  rw [(za_p1_4 ha hb hc hd).1, za_p2_4 a1 b1 c1 d1, za_p3_4 a2 b2 c2 d2 b3 c3 d3, za_p5_4 a5 b5 c5 d5, za_cn4 ha hb hc, a4, b4, c4, d4]
theorem za_p1_le {n : Nat} (h : n < 2 ^ 32) : (n / 2 &&& 1431655765) ≤ n := by
  obtain ⟨e, hd⟩ := za_q4_of n h
  rw [e]
  exact (za_p1_4 (by omega) (by omega) (by omega) hd).2
theorem za_p1_lt {n : Nat} (h : n < 2 ^ 32) : za_p1 n < 2 ^ 32 := by unfold za_p1; omega
theorem za_p2_lt (n : Nat) : za_p2 n < 2 ^ 31 := by
  have h1 : n &&& 858993459 ≤ 858993459 := Nat.and_le_right
  have h2 : n / 4 &&& 858993459 ≤ 858993459 := Nat.and_le_right
  unfold za_p2
  omega
theorem za_p3_lt (n : Nat) : za_p3 n ≤ 252645135 := Nat.and_le_right
theorem za_nand (a b : Nat) : nI a &&& nI b = nI (a &&& b) := by
  apply Int32.toBitVec_inj.1
  show BitVec.ofNat 32 a &&& BitVec.ofNat 32 b = BitVec.ofNat 32 (a &&& b)
  apply BitVec.eq_of_getLsbD_eq
  intro i hi
  simp [hi]
theorem za_s1 : (((nI 1).toUInt32 &&& Int32.toUInt32 31).toBitVec % 32).toNat = 1 := by decide
theorem za_s2 : (((nI 2).toUInt32 &&& Int32.toUInt32 31).toBitVec % 32).toNat = 2 := by decide
theorem za_s4 : (((nI 4).toUInt32 &&& Int32.toUInt32 31).toBitVec % 32).toNat = 4 := by decide
theorem za_s8 : (((nI 8).toUInt32 &&& Int32.toUInt32 31).toBitVec % 32).toNat = 8 := by decide
theorem za_s16 : (((nI 16).toUInt32 &&& Int32.toUInt32 31).toBitVec % 32).toNat = 16 := by decide
theorem za_w1 {n : Nat} (h : n < 2 ^ 32) : nI n - (((nI n).toUInt32 >>> ((nI 1).toUInt32 &&& Int32.toUInt32 31)).toInt32 &&& nI 1431655765) = nI (za_p1 n) := by
  rw [pk_ushrN h (nI 1) 1 za_s1, za_nand, pk_sub (za_p1_le h)]
  rfl
theorem za_w2 {n : Nat} (h : n < 2 ^ 32) : (nI n &&& nI 858993459) + (((nI n).toUInt32 >>> ((nI 2).toUInt32 &&& Int32.toUInt32 31)).toInt32 &&& nI 858993459) = nI (za_p2 n) := by
  rw [pk_ushrN h (nI 2) 2 za_s2, za_nand, za_nand, nI_add]
  rfl
theorem za_w3 {n : Nat} (h : n < 2 ^ 31) : (nI n + ((nI n).toUInt32 >>> ((nI 4).toUInt32 &&& Int32.toUInt32 31)).toInt32) &&& nI 252645135 = nI (za_p3 n) := by
  rw [pk_ushrN (by omega) (nI 4) 4 za_s4, nI_add, za_nand]
  rfl
theorem za_w4 {n : Nat} (h : n < 2 ^ 31) : nI n + ((nI n).toUInt32 >>> ((nI 8).toUInt32 &&& Int32.toUInt32 31)).toInt32 = nI (za_p4 n) := by
  rw [pk_ushrN (by omega) (nI 8) 8 za_s8, nI_add]
  rfl
theorem za_w5 {n : Nat} (h : n < 2 ^ 31) : nI n + ((nI n).toUInt32 >>> ((nI 16).toUInt32 &&& Int32.toUInt32 31)).toInt32 = nI (za_p5 n) := by
  rw [pk_ushrN (by omega) (nI 16) 16 za_s16, nI_add]
  rfl
theorem za_of32 (x : Int32) : ∃ n, n < 2 ^ 32 ∧ x = nI n := ⟨x.toBitVec.toNat, x.toBitVec.isLt, by
  apply Int32.toBitVec_inj.1
  show x.toBitVec = BitVec.ofNat 32 x.toBitVec.toNat
  simp⟩
theorem za_p4_lt {n : Nat} (h : n ≤ 252645135) : za_p4 n < 2 ^ 31 := by unfold za_p4; omega
theorem za_smS (f : Nat → Nat) (n : Nat) : za_sm f (n + 1) = za_sm f n + f n := by rw [za_sm]
theorem za_cnS (p : Nat → Bool) (n : Nat) : za_cn p (n + 1) = za_cn p n + za_b01 (p n) := by
  rw [za_cn]
  unfold za_b01
  split <;> rfl
theorem zw_k265 : Cond.constant "java/lang/Integer" 265 (1431655765 : Int32) ∈ zb_big := zb_in 336 (by decide +kernel) rfl
theorem zw_k266 : Cond.constant "java/lang/Integer" 266 (858993459 : Int32) ∈ zb_big := zb_in 337 (by decide +kernel) rfl
theorem zw_k267 : Cond.constant "java/lang/Integer" 267 (252645135 : Int32) ∈ zb_big := zb_in 338 (by decide +kernel) rfl

