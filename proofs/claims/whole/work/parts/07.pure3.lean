/-! mirrors of the loops that write -/
def za_st (w : Int32) (Un : Nat → Int32) (s : Nat) : Int32 := za_mk (fun x => bt w x && za_mvA Un s x) 24
def za_ua (Tg Rw : Nat → Int32) (f : Nat) (Un : Nat → Int32) : Nat → Int32 := za_fl (fun x => za_uo (Tg x) Rw f 24) Un 96
def za_pr (Tg Rw Un : Nat → Int32) (k y : Nat) : Int32 := za_st (Rw ((k - 1) * 24 + y)) (za_ua Tg Rw ((k - 1) * 24) Un) y
def za_pd (Tg Rw Un : Nat → Int32) (k x : Nat) : Bool := decide (¬ za_pr Tg Rw Un k x = Rw ((k - 1) * 24 + x))
def za_of (F g : Nat → Int32) (o i : Nat) : Nat → Int32 := fun j => if o ≤ j ∧ j < o + i then F (j - o) else g j
theorem za_of0 (F g : Nat → Int32) (o : Nat) : za_of F g o 0 = g := by
  funext j
  unfold za_of
  rw [if_neg (by omega)]
theorem za_ofU {F g : Nat → Int32} {o i : Nat} {v : Int32} (h : v = F i) : za_of F g o (i + 1) = upd (za_of F g o i) (o + i) v := by
  funext j
  unfold za_of upd
  by_cases h1 : j = o + i
  · subst h1
    rw [if_pos (by omega), if_pos rfl, h]
    congr 1
    omega
  · rw [if_neg h1]
    show _ = (if o ≤ j ∧ j < o + i then F (j - o) else g j)
    by_cases h2 : o ≤ j ∧ j < o + i
    · rw [if_pos h2, if_pos (by omega)]
    · rw [if_neg h2, if_neg (by omega)]
theorem za_of_lo {F g : Nat → Int32} {o i j : Nat} (h : j < o) : za_of F g o i j = g j := by
  unfold za_of
  rw [if_neg (by omega)]
theorem za_of_in {F g : Nat → Int32} {o n i : Nat} (h : i < n) : za_of F g o n (o + i) = F i := by
  unfold za_of
  rw [if_pos (by omega), show o + i - o = i by omega]
theorem za_fl_ge {f g : Nat → Int32} {i j : Nat} (h : i ≤ j) : za_fl f g i j = g j := by
  unfold za_fl
  rw [if_neg (by omega)]
theorem za_fl_lt {f g : Nat → Int32} {i j : Nat} (h : j < i) : za_fl f g i j = f j := by
  unfold za_fl
  rw [if_pos h]
/-- the numbering of the kinds: the rows so far, how many kinds -/
def za_nk (La : Nat → Nat) (Kd : Nat → Int32) : Nat → (Nat → Int32) × Nat
  | 0 => (Kd, 0)
  | n + 1 => if La n = n then (upd (za_nk La Kd n).1 n (nI (za_nk La Kd n).2), (za_nk La Kd n).2 + 1) else (upd (za_nk La Kd n).1 n ((za_nk La Kd n).1 (La n)), (za_nk La Kd n).2)
termination_by n => n
theorem za_nk0 (La : Nat → Nat) (Kd : Nat → Int32) : za_nk La Kd 0 = (Kd, 0) := by rw [za_nk]
theorem za_nk_t {La : Nat → Nat} {Kd : Nat → Int32} {n : Nat} (h : La n = n) : za_nk La Kd (n + 1) = (upd (za_nk La Kd n).1 n (nI (za_nk La Kd n).2), (za_nk La Kd n).2 + 1) := by
  rw [za_nk, if_pos h]
theorem za_nk_f {La : Nat → Nat} {Kd : Nat → Int32} {n : Nat} (h : ¬ La n = n) : za_nk La Kd (n + 1) = (upd (za_nk La Kd n).1 n ((za_nk La Kd n).1 (La n)), (za_nk La Kd n).2) := by
  rw [za_nk, if_neg h]
def za_lf (Rw : Nat → Int32) (lr y : Nat) : Nat := za_fi (fun x => !bt (Rw (lr * 24 + y)) x) y
def za_sm (f : Nat → Nat) : Nat → Nat
  | 0 => 0
  | n + 1 => za_sm f n + f n
def za_pc (w : Int32) : Nat := za_cn (bt w) 32
def za_sb (w : Int32) (Tg Uc : Nat → Int32) (s : Nat) : Int32 := za_mk (fun x => bt w x && za_foll Tg Uc s x) 24
def za_cb (Tg Bl Uc : Nat → Int32) (y : Nat) : Int32 := za_sb (Bl y) Tg (za_ua Tg Bl 0 Uc) y
def za_cd (Tg Bl Uc : Nat → Int32) (x : Nat) : Bool := decide (¬ za_cb Tg Bl Uc x = Bl x)
/-- move m (its label m / 24, to m % 24) is an attack of a on b, for k rounds -/
def za_atm (Tg Rw : Nat → Int32) (a b k m : Nat) : Bool := za_att Tg Rw a b (m / 24) (m % 24) k
theorem za_dm {l u : Nat} (hu : u < 24) : (l * 24 + u) / 24 = l ∧ (l * 24 + u) % 24 = u := by omega
theorem za_atm_at {Tg Rw : Nat → Int32} {a b k l u : Nat} (hu : u < 24) : za_atm Tg Rw a b k (l * 24 + u) = za_att Tg Rw a b l u k := by
  unfold za_atm
  rw [(za_dm hu).1, (za_dm hu).2]
def za_fo (Tg Rw : Nat → Int32) (a b k : Nat) : Int32 := if za_fi (fun x => !za_atm Tg Rw a b k x) 96 < 96 then nI (za_fi (fun x => !za_atm Tg Rw a b k x) 96 / 24 * 100 + za_fi (fun x => !za_atm Tg Rw a b k x) 96 % 24) else (-1)
theorem za_fo_at {Tg Rw : Nat → Int32} {a b k l u : Nat} (hl : l < 4) (hu : u < 24) (hq : ∀ j, j < l * 24 + u → (fun x => !za_atm Tg Rw a b k x) j = true) (h : za_att Tg Rw a b l u k = true) : nI (l * 100 + u) = za_fo Tg Rw a b k := by
  unfold za_fo
  rw [za_fi_at (i := l * 24 + u) (by omega) hq (by rw [za_atm_at hu, h]; rfl), if_pos (by omega), (za_dm hu).1, (za_dm hu).2]
theorem za_fo_no {Tg Rw : Nat → Int32} {a b k : Nat} (hq : ∀ j, j < 96 → (fun x => !za_atm Tg Rw a b k x) j = true) : (-1) = za_fo Tg Rw a b k := by
  unfold za_fo
  rw [za_fi_all hq, if_neg (by omega)]
/-- the best answer so far, and the breach behind it -/
def za_ba (w : Int32) (P : Nat → Int32) : Nat → Int32 × Int32
  | 0 => ((-1), (-1))
  | n + 1 => if (if bt w n = true then P n else (-1)) ≤ (za_ba w P n).2 then za_ba w P n else (nI n, (if bt w n = true then P n else (-1)))
theorem za_of_lo2 {F g : Nat → Int32} {o i j : Nat} {v : Int32} (h : j < o) : upd (za_of F g o i) (o + i) v j = g j := by
  unfold upd
  rw [if_neg (by omega)]
  exact za_of_lo h
