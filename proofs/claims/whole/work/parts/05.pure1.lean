/-! what the methods' answers are: mirrors of the loops, and sets of states as numbers -/
theorem za_1b : ∀ i, i < 32 → bt (nI 1) i = decide (i = 0) := by decide +kernel
theorem za_bit {w : Int32} {t : Nat} (ht : t < 32) : ((w >>> (nI t &&& 31)) &&& nI 1) = 0 ↔ bt w t = false := by
  constructor
  · intro h
    have h2 := congrArg (fun z => bt z 0) h
    simp only [b_and, b_0, b_sshr t ht w (show 0 < 32 by omega)] at h2
    rw [za_1b 0 (by omega)] at h2
    simpa [ht] using h2
  · intro h
    refine b_ext (fun i hi => ?_)
    rw [b_and, b_0, za_1b i hi, b_sshr t ht w hi]
    by_cases h0 : i = 0
    · subst h0
      simp [ht, h]
    · simp [h0]
theorem za_bitT {w : Int32} {t : Nat} (ht : t < 32) (h : ¬ ((w >>> (nI t &&& 31)) &&& nI 1) = 0) : bt w t = true := by
  cases h1 : bt w t with
  | true => rfl
  | false => exact absurd ((za_bit ht).mpr h1) h
theorem za_bitF {w : Int32} {t : Nat} (ht : t < 32) (h : ((w >>> (nI t &&& 31)) &&& nI 1) = 0) : bt w t = false := (za_bit ht).mp h
def za_isS (w : Int32) : Bool := !(decide (w < 0)) && !(decide (nI 24 ≤ w))
def za_isL (w : Int32) : Bool := !(decide (w < 0)) && !(decide (nI 4 ≤ w))
theorem za_isS1 {w : Int32} (h1 : ¬ w < 0) (h2 : ¬ nI 24 ≤ w) : za_isS w = true := by unfold za_isS; rw [decide_eq_false h1, decide_eq_false h2]; rfl
theorem za_isS2 {w : Int32} (h1 : w < 0) : za_isS w = false := by unfold za_isS; rw [decide_eq_true h1]; rfl
theorem za_isS3 {w : Int32} (h2 : nI 24 ≤ w) : za_isS w = false := by unfold za_isS; rw [decide_eq_true h2]; simp
theorem za_isL1 {w : Int32} (h1 : ¬ w < 0) (h2 : ¬ nI 4 ≤ w) : za_isL w = true := by unfold za_isL; rw [decide_eq_false h1, decide_eq_false h2]; rfl
theorem za_isL2 {w : Int32} (h1 : w < 0) : za_isL w = false := by unfold za_isL; rw [decide_eq_true h1]; rfl
theorem za_isL3 {w : Int32} (h2 : nI 4 ≤ w) : za_isL w = false := by unfold za_isL; rw [decide_eq_true h2]; simp
theorem za_isS_of {w : Int32} (h : za_isS w = true) : ∃ j : Nat, j < 24 ∧ w = nI j := by
  unfold za_isS at h
  rw [Bool.and_eq_true, Bool.not_eq_true', Bool.not_eq_true', decide_eq_false_iff_not, decide_eq_false_iff_not] at h
  rcases pk_ix w (n := 24) (by omega) with q | q | q
  · exact absurd q h.1
  · exact absurd q h.2
  · exact q
theorem za_isL_of {w : Int32} (h : za_isL w = true) : ∃ j : Nat, j < 4 ∧ w = nI j := by
  unfold za_isL at h
  rw [Bool.and_eq_true, Bool.not_eq_true', Bool.not_eq_true', decide_eq_false_iff_not, decide_eq_false_iff_not] at h
  rcases pk_ix w (n := 4) (by omega) with q | q | q
  · exact absurd q h.1
  · exact absurd q h.2
  · exact q
/-- the states below n with p, as a number -/
def za_mk (p : Nat → Bool) : Nat → Int32
  | 0 => nI 0
  | n + 1 => if p n = true then za_mk p n ||| (nI 1 <<< (nI n &&& 31)) else za_mk p n
def za_al (p : Nat → Bool) : Nat → Bool
  | 0 => true
  | n + 1 => za_al p n && p n
def za_ex (p : Nat → Bool) : Nat → Bool
  | 0 => false
  | n + 1 => za_ex p n || p n
def za_cn (p : Nat → Bool) : Nat → Nat
  | 0 => 0
  | n + 1 => if p n = true then za_cn p n + 1 else za_cn p n
/-- the first number below n without p; n if there is none -/
def za_fi (p : Nat → Bool) : Nat → Nat
  | 0 => 0
  | n + 1 => if za_fi p n = n then (if p n = true then n + 1 else n) else za_fi p n
/-- the union of the rows f + t over the states t < n of the set w -/
def za_uo (w : Int32) (Rw : Nat → Int32) (f : Nat) : Nat → Int32
  | 0 => nI 0
  | n + 1 => if bt w n = true then za_uo w Rw f n ||| Rw (f + n) else za_uo w Rw f n
def za_fl (f g : Nat → Int32) (i : Nat) : Nat → Int32 := fun j => if j < i then f j else g j
theorem za_fl0 (f g : Nat → Int32) : za_fl f g 0 = g := by funext j; simp [za_fl]
theorem za_flU {f g : Nat → Int32} {i : Nat} {v : Int32} (h : v = f i) : za_fl f g (i + 1) = upd (za_fl f g i) i v := by
  funext j
  unfold za_fl upd
  by_cases h1 : j = i
  · subst h1; simp [h]
  · by_cases h2 : j < i
    · simp [h1, h2, Nat.lt_succ_of_lt h2]
    · simp [h1, h2, show ¬ j < i + 1 by omega]
theorem za_al_iff {p : Nat → Bool} {n : Nat} : za_al p n = true ↔ ∀ j, j < n → p j = true := by
  induction n with
  | zero => simp [za_al]
  | succ n ih =>
    rw [za_al, Bool.and_eq_true, ih]
    constructor
    · intro h j hj
      rcases Nat.lt_succ_iff_lt_or_eq.mp hj with q | q
      · exact h.1 j q
      · rw [q]; exact h.2
    · intro h
      exact ⟨fun j hj => h j (by omega), h n (by omega)⟩
theorem za_al_f {p : Nat → Bool} {n i : Nat} (hi : i < n) (h : p i = false) : za_al p n = false := by
  cases q : za_al p n with
  | false => rfl
  | true => rw [za_al_iff.mp q i hi] at h; cases h
theorem za_ex_iff {p : Nat → Bool} {n : Nat} : za_ex p n = true ↔ ∃ j, j < n ∧ p j = true := by
  induction n with
  | zero => simp [za_ex]
  | succ n ih =>
    rw [za_ex, Bool.or_eq_true, ih]
    constructor
    · rintro (⟨j, hj, h⟩ | h)
      · exact ⟨j, by omega, h⟩
      · exact ⟨n, by omega, h⟩
    · rintro ⟨j, hj, h⟩
      rcases Nat.lt_succ_iff_lt_or_eq.mp hj with q | q
      · exact Or.inl ⟨j, q, h⟩
      · rw [q] at h; exact Or.inr h
theorem za_fi_le (p : Nat → Bool) (n : Nat) : za_fi p n ≤ n := by
  induction n with
  | zero => exact Nat.le_refl _
  | succ n ih =>
    rw [za_fi]
    split
    · split <;> omega
    · omega
theorem za_fi_all {p : Nat → Bool} {n : Nat} (h : ∀ j, j < n → p j = true) : za_fi p n = n := by
  induction n with
  | zero => rfl
  | succ n ih =>
    rw [za_fi, if_pos (ih (fun j hj => h j (by omega))), if_pos (h n (by omega))]
theorem za_fi_at {p : Nat → Bool} {n i : Nat} (hi : i < n) (h : ∀ j, j < i → p j = true) (h1 : p i = false) : za_fi p n = i := by
  induction n with
  | zero => omega
  | succ n ih =>
    by_cases q : i = n
    · subst q
      rw [za_fi, if_pos (za_fi_all h), if_neg (by rw [h1]; decide)]
    · have e := ih (by omega)
      rw [za_fi, if_neg (by omega), e]
theorem za_fi_lt {p : Nat → Bool} {n j : Nat} (hj : j < za_fi p n) : p j = true := by
  induction n with
  | zero => exact absurd hj (Nat.not_lt_zero _)
  | succ n ih =>
    rw [za_fi] at hj
    have hle := za_fi_le p n
    split at hj
    · rename_i e
      split at hj
      · rename_i e2
        by_cases q : j = n
        · rw [q]; exact e2
        · exact ih (by omega)
      · exact ih (by omega)
    · exact ih hj
theorem za_fi_f {p : Nat → Bool} {n : Nat} (h : za_fi p n < n) : p (za_fi p n) = false := by
  induction n with
  | zero => exact absurd h (Nat.not_lt_zero _)
  | succ n ih =>
    have hle := za_fi_le p n
    by_cases e : za_fi p n = n
    · by_cases e2 : p n = true
      · rw [za_fi, if_pos e, if_pos e2] at h; omega
      · rw [za_fi, if_pos e, if_neg e2]; simpa using e2
    · rw [za_fi, if_neg e] at h ⊢
      exact ih (by omega)
/-- the first number below n without p, -1 if there is none, as the machine has it -/
def za_ff (p : Nat → Bool) (n : Nat) : Int32 := if za_fi p n < n then nI (za_fi p n) else (-1)
theorem za_ff_at {p : Nat → Bool} {n i : Nat} (hi : i < n) (h : ∀ j, j < i → p j = true) (h1 : p i = false) : nI i = za_ff p n := by
  unfold za_ff
  rw [za_fi_at hi h h1, if_pos hi]
theorem za_ff_all {p : Nat → Bool} {n : Nat} (h : ∀ j, j < n → p j = true) : (-1) = za_ff p n := by
  unfold za_ff
  rw [za_fi_all h, if_neg (Nat.lt_irrefl _)]
theorem za_all_s {p : Nat → Bool} {i : Nat} (h : ∀ j, j < i → p j = true) (h1 : p i = true) : ∀ j, j < i + 1 → p j = true := by
  intro j hj
  rcases Nat.lt_succ_iff_lt_or_eq.mp hj with q | q
  · exact h j q
  · rw [q]; exact h1
theorem za_all_0 {p : Nat → Bool} : ∀ j, j < 0 → p j = true := fun j hj => absurd hj (Nat.not_lt_zero _)
theorem za_uo_z (Rw : Nat → Int32) (f n : Nat) : za_uo 0 Rw f n = nI 0 := by
  induction n with
  | zero => rfl
  | succ n ih => rw [za_uo, b_0, if_neg (by decide), ih]
def za_mvA (Un : Nat → Int32) (s t : Nat) : Bool := za_al (fun x => decide (Un (s * 4 + x) = Un (t * 4 + x))) 4
/-- the kinds among the states t < n of the set w -/
def za_ka (w : Int32) (Kd : Nat → Int32) : Nat → Int32
  | 0 => nI 0
  | n + 1 => if bt w n = true then za_ka w Kd n ||| (nI 1 <<< (Kd n &&& 31)) else za_ka w Kd n
/-- the kinds that the states s < n of kind w reach by the label l -/
def za_kr (w : Int32) (l : Nat) (Tg Kd : Nat → Int32) : Nat → Int32
  | 0 => nI 0
  | n + 1 => if Kd n = w then za_kr w l Tg Kd n ||| za_ka (Tg (n * 4 + l)) Kd 24 else za_kr w l Tg Kd n
def za_foll (Tg Uc : Nat → Int32) (s t : Nat) : Bool := za_al (fun x => decide ((Tg (t * 4 + x) &&& (Uc (s * 4 + x) ^^^ (-1))) = 0)) 4
def za_att (Tg Rw : Nat → Int32) (a b l u k : Nat) : Bool := bt (Tg (a * 4 + l)) u && decide ((Rw (k * 24 + u) &&& Tg (b * 4 + l)) = 0)
