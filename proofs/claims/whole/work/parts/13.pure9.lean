/-! attacks and plays, in the net's words -/
def za_at (Tg Co : Nat → Int32) (a b k m : Nat) : Bool := bt (Tg (a * 4 + m / 24)) (m % 24) && !za_ex (fun v => bt (Tg (b * 4 + m / 24)) v && za_ak Tg Co k (m % 24) v) 24
def za_bn (Tg Co : Nat → Int32) (x y : Nat) : Nat := za_fi (fun j => za_ak Tg Co j x y) 24
def za_pl (Tg Co : Nat → Int32) (x y : Nat) : Bool := decide (za_bn Tg Co x y < 24) && decide (0 < za_bn Tg Co x y)
def za_fq (Tg Co : Nat → Int32) (x y m : Nat) : Bool := if m < 96 then za_at Tg Co x y (za_bn Tg Co x y - 1) m else za_at Tg Co y x (za_bn Tg Co x y - 1) (m - 96)
def za_fa (Tg Co : Nat → Int32) (x y : Nat) : Nat := za_fi (fun m => !za_fq Tg Co x y m) 192
/-- the best answer so far: 24 if there is none -/
def za_bs (w : Int32) (B : Nat → Nat) : Nat → Nat
  | 0 => 24
  | n + 1 => if bt w n = true ∧ (za_bs w B n = 24 ∨ B (za_bs w B n) < B n) then n else za_bs w B n
def za_lb (Tg Co : Nat → Int32) (x y : Nat) : Nat := za_fa Tg Co x y % 96 / 24
def za_to (Tg Co : Nat → Int32) (x y : Nat) : Nat := za_fa Tg Co x y % 24
def za_mi (Tg Co : Nat → Int32) (x y : Nat) : Bool := decide (za_fa Tg Co x y < 96)
def za_ot (Tg Co : Nat → Int32) (x y : Nat) : Nat := if za_mi Tg Co x y = true then y else x
def za_an (Tg Co : Nat → Int32) (x y : Nat) : Nat := za_bs (Tg (za_ot Tg Co x y * 4 + za_lb Tg Co x y)) (za_bn Tg Co (za_to Tg Co x y)) 24
def za_ai (j : Nat) : Int32 := if j = 24 then (-1) else nI j
def za_cd9 (Tg Co : Nat → Int32) (x y : Nat) : Nat := (if za_mi Tg Co x y = true then 0 else 1000) + 100 * za_lb Tg Co x y + za_to Tg Co x y
def za_x1 (Tg Co : Nat → Int32) (x y : Nat) : Nat := if za_mi Tg Co x y = true then za_to Tg Co x y else za_an Tg Co x y
def za_y1 (Tg Co : Nat → Int32) (x y : Nat) : Nat := if za_mi Tg Co x y = true then za_an Tg Co x y else za_to Tg Co x y
/-- whether attack q is made, and the two states before it -/
def za_tr (Tg Co : Nat → Int32) (s t : Nat) : Nat → Bool × Nat × Nat
  | 0 => (za_pl Tg Co s t, s, t)
  | q + 1 => if (za_tr Tg Co s t q).1 = true ∧ ¬ za_an Tg Co (za_tr Tg Co s t q).2.1 (za_tr Tg Co s t q).2.2 = 24 then (za_pl Tg Co (za_x1 Tg Co (za_tr Tg Co s t q).2.1 (za_tr Tg Co s t q).2.2) (za_y1 Tg Co (za_tr Tg Co s t q).2.1 (za_tr Tg Co s t q).2.2), za_x1 Tg Co (za_tr Tg Co s t q).2.1 (za_tr Tg Co s t q).2.2, za_y1 Tg Co (za_tr Tg Co s t q).2.1 (za_tr Tg Co s t q).2.2) else (false, (za_tr Tg Co s t q).2.1, (za_tr Tg Co s t q).2.2)
termination_by q => q
theorem za_tr0 (Tg Co : Nat → Int32) (s t : Nat) : za_tr Tg Co s t 0 = (za_pl Tg Co s t, s, t) := by rw [za_tr]
def za_pn (Tg Co : Nat → Int32) (s t : Nat) : Nat := za_fi (fun q => (za_tr Tg Co s t q).1) 24
theorem za_bn_symm {Tg Co : Nat → Int32} (x y : Nat) : za_bn Tg Co x y = za_bn Tg Co y x := za_fi_congr (fun _ _ => za_ak_symm)
theorem za_pl_iff {Tg Co : Nat → Int32} {x y : Nat} : za_pl Tg Co x y = true ↔ za_bn Tg Co x y < 24 ∧ 0 < za_bn Tg Co x y := by
  unfold za_pl
  rw [Bool.and_eq_true, decide_eq_true_eq, decide_eq_true_eq]
/-- two states with a breach above 0 have an attack -/
theorem za_fa_lt {Tg Co : Nat → Int32} {x y : Nat} (h : za_pl Tg Co x y = true) : za_fa Tg Co x y < 192 := by
  obtain ⟨h1, h2⟩ := za_pl_iff.mp h
  rcases Nat.lt_or_ge (za_fa Tg Co x y) 192 with g | g
  · exact g
  · exfalso
    have hno : ∀ m, m < 192 → za_fq Tg Co x y m = false := by
      intro m hm
      have := za_fi_lt (p := fun m => !za_fq Tg Co x y m) (n := 192) (j := m) (by unfold za_fa at g; omega)
      simpa using this
    have hb1 : za_ak Tg Co (za_bn Tg Co x y) x y = false := za_fi_f (p := fun j => za_ak Tg Co j x y) h1
    have hk : za_ak Tg Co (za_bn Tg Co x y - 1) x y = true := za_fi_lt (p := fun j => za_ak Tg Co j x y) (n := 24) (by unfold za_bn at h2 ⊢; omega)
    have go : ∀ a b, (∀ m, m < 96 → za_at Tg Co a b (za_bn Tg Co x y - 1) m = false) → za_fw Tg (za_ak Tg Co (za_bn Tg Co x y - 1)) a b = true := by
      intro a b hab
      refine za_fw_iff.mpr (fun l hl u hu hm => ?_)
      have z := hab (24 * l + u) (by omega)
      unfold za_at at z
      rw [show (24 * l + u) / 24 = l by omega, show (24 * l + u) % 24 = u by omega, hm, Bool.true_and, Bool.not_eq_false'] at z
      obtain ⟨v, hv, z2⟩ := za_ex_iff.mp z
      rw [Bool.and_eq_true] at z2
      exact ⟨v, hv, z2.1, z2.2⟩
    have f1 := go x y (fun m hm => by have := hno m (by omega); unfold za_fq at this; rw [if_pos hm] at this; exact this)
    have f2 := go y x (fun m hm => by have := hno (m + 96) (by omega); unfold za_fq at this; rw [if_neg (by omega), show m + 96 - 96 = m by omega] at this; exact this)
    have := za_ak_s.mpr ⟨hk, f1, f2⟩
    rw [show za_bn Tg Co x y - 1 + 1 = za_bn Tg Co x y by omega, hb1] at this
    cases this
theorem za_lb_lt {Tg Co : Nat → Int32} (x y : Nat) : za_lb Tg Co x y < 4 := by unfold za_lb; omega
theorem za_to_lt {Tg Co : Nat → Int32} (x y : Nat) : za_to Tg Co x y < 24 := by unfold za_to; omega
theorem za_bs_lt (w : Int32) (B : Nat → Nat) (n : Nat) : za_bs w B n = 24 ∨ (za_bs w B n < n ∧ bt w (za_bs w B n) = true) := by
  induction n with
  | zero => exact Or.inl rfl
  | succ n ih =>
    rw [za_bs]
    split
    · rename_i h; exact Or.inr ⟨by omega, h.1⟩
    · rcases ih with h | h
      · exact Or.inl h
      · exact Or.inr ⟨by omega, h.2⟩
/-- the attack that is made: by whom, and that no answer is alike to it for k rounds -/
theorem za_fa_at {Tg Co : Nat → Int32} {x y : Nat} (h : za_pl Tg Co x y = true) (v : Nat) (hv : v < 24) (hb : bt (Tg (za_ot Tg Co x y * 4 + za_lb Tg Co x y)) v = true) : za_ak Tg Co (za_bn Tg Co x y - 1) (za_to Tg Co x y) v = false := by
  have hlt := za_fa_lt h
  have hq : za_fq Tg Co x y (za_fa Tg Co x y) = true := by
    have := za_fi_f (p := fun m => !za_fq Tg Co x y m) (n := 192) hlt
    have : (!za_fq Tg Co x y (za_fa Tg Co x y)) = false := this
    simpa using this
  unfold za_fq at hq
  unfold za_ot za_mi at hb
  unfold za_lb at hb
  unfold za_to
  by_cases g : za_fa Tg Co x y < 96
  · rw [if_pos g] at hq
    rw [decide_eq_true g, if_pos rfl, show za_fa Tg Co x y % 96 = za_fa Tg Co x y by omega] at hb
    unfold za_at at hq
    rw [Bool.and_eq_true, Bool.not_eq_true'] at hq
    cases e : za_ak Tg Co (za_bn Tg Co x y - 1) (za_fa Tg Co x y % 24) v with
    | false => rfl
    | true =>
      have z := (za_ex_iff (p := fun v => bt (Tg (y * 4 + za_fa Tg Co x y / 24)) v && za_ak Tg Co (za_bn Tg Co x y - 1) (za_fa Tg Co x y % 24) v) (n := 24)).mpr ⟨v, hv, by simp only [hb, e, Bool.and_self]⟩
      rw [hq.2] at z
      cases z
  · rw [if_neg g] at hq
    rw [decide_eq_false g, if_neg (by decide), show za_fa Tg Co x y % 96 = za_fa Tg Co x y - 96 by omega] at hb
    unfold za_at at hq
    rw [Bool.and_eq_true, Bool.not_eq_true', show (za_fa Tg Co x y - 96) % 24 = za_fa Tg Co x y % 24 by omega] at hq
    cases e : za_ak Tg Co (za_bn Tg Co x y - 1) (za_fa Tg Co x y % 24) v with
    | false => rfl
    | true =>
      have z := (za_ex_iff (p := fun v => bt (Tg (x * 4 + (za_fa Tg Co x y - 96) / 24)) v && za_ak Tg Co (za_bn Tg Co x y - 1) (za_fa Tg Co x y % 24) v) (n := 24)).mpr ⟨v, hv, by simp only [hb, e, Bool.and_self]⟩
      rw [hq.2] at z
      cases z
theorem za_bn_le {Tg Co : Nat → Int32} {k u v : Nat} (hk : k < 24) (h : za_ak Tg Co k u v = false) : za_bn Tg Co u v ≤ k := za_fi_low hk h
theorem za_ans_bn {Tg Co : Nat → Int32} {x y : Nat} (h : za_pl Tg Co x y = true) (v : Nat) (hv : v < 24) (hb : bt (Tg (za_ot Tg Co x y * 4 + za_lb Tg Co x y)) v = true) : za_bn Tg Co (za_to Tg Co x y) v < za_bn Tg Co x y := by
  obtain ⟨h1, h2⟩ := za_pl_iff.mp h
  have := za_bn_le (show za_bn Tg Co x y - 1 < 24 by omega) (za_fa_at h v hv hb)
  omega
theorem za_next_bn {Tg Co : Nat → Int32} {x y : Nat} (h : za_pl Tg Co x y = true) (ha : ¬ za_an Tg Co x y = 24) : za_bn Tg Co (za_x1 Tg Co x y) (za_y1 Tg Co x y) < za_bn Tg Co x y ∧ za_x1 Tg Co x y < 24 ∧ za_y1 Tg Co x y < 24 ∧ za_an Tg Co x y < 24 := by
  have hb := (za_bs_lt (Tg (za_ot Tg Co x y * 4 + za_lb Tg Co x y)) (za_bn Tg Co (za_to Tg Co x y)) 24).resolve_left ha
  have hlt : za_bn Tg Co (za_to Tg Co x y) (za_an Tg Co x y) < za_bn Tg Co x y := za_ans_bn h _ hb.1 hb.2
  have h24 : za_an Tg Co x y < 24 := hb.1
  have ht := za_to_lt (Tg := Tg) (Co := Co) x y
  unfold za_x1 za_y1
  by_cases g : za_mi Tg Co x y = true
  · rw [if_pos g, if_pos g]
    exact ⟨hlt, ht, h24, h24⟩
  · rw [if_neg g, if_neg g, za_bn_symm]
    exact ⟨hlt, h24, ht, h24⟩
theorem za_tr_in {Tg Co : Nat → Int32} {s t : Nat} (hs : s < 24) (ht : t < 24) (q : Nat) : (za_tr Tg Co s t q).2.1 < 24 ∧ (za_tr Tg Co s t q).2.2 < 24 ∧ ((za_tr Tg Co s t q).1 = true → za_pl Tg Co (za_tr Tg Co s t q).2.1 (za_tr Tg Co s t q).2.2 = true ∧ q + za_bn Tg Co (za_tr Tg Co s t q).2.1 (za_tr Tg Co s t q).2.2 < 24) := by
  induction q with
  | zero =>
    rw [za_tr0]
    dsimp only
    refine ⟨hs, ht, fun h => ⟨h, ?_⟩⟩
    have := (za_pl_iff.mp h).1
    omega
  | succ q ih =>
    obtain ⟨i1, i2, i3⟩ := ih
    rw [za_tr]
    split
    · rename_i g
      obtain ⟨j1, j2⟩ := i3 g.1
      obtain ⟨k1, k2, k3, -⟩ := za_next_bn j1 g.2
      dsimp only
      exact ⟨k2, k3, fun h => ⟨h, by omega⟩⟩
    · dsimp only
      exact ⟨i1, i2, fun h => by cases h⟩
theorem za_pn_lt {Tg Co : Nat → Int32} {s t : Nat} (hs : s < 24) (ht : t < 24) : za_pn Tg Co s t < 24 := by
  have hle : za_pn Tg Co s t ≤ 24 := za_fi_le _ _
  rcases Nat.lt_or_ge (za_pn Tg Co s t) 24 with g | g
  · exact g
  · have h := za_fi_lt (p := fun q => (za_tr Tg Co s t q).1) (n := 24) (j := 23) (by unfold za_pn at g; omega)
    obtain ⟨-, -, i3⟩ := za_tr_in (Tg := Tg) (Co := Co) hs ht 23
    obtain ⟨j1, j2⟩ := i3 h
    have := (za_pl_iff.mp j1).2
    omega
/-- the class's attacks are these -/
theorem za_att_at {Tg Co Rw : Nat → Int32} {a b l u k : Nat} (hR : za_row Tg Co Rw k) (hu : u < 24) : za_att Tg Rw a b l u k = (bt (Tg (a * 4 + l)) u && !za_ex (fun v => bt (Tg (b * 4 + l)) v && za_ak Tg Co k u v) 24) := by
  unfold za_att
  congr 1
  apply za_bool
  rw [decide_eq_true_eq, Bool.not_eq_true']
  constructor
  · intro h
    cases e : za_ex (fun v => bt (Tg (b * 4 + l)) v && za_ak Tg Co k u v) 24 with
    | false => rfl
    | true =>
      obtain ⟨v, hv, g⟩ := za_ex_iff.mp e
      rw [Bool.and_eq_true] at g
      have z := congrArg (fun w => bt w v) h
      simp only [b_and, b_0, za_row_bit hR hu hv, g.1, g.2] at z
      cases z
  · intro h
    refine b_ext (fun i hi => ?_)
    rw [b_and, b_0, hR u hu, za_mk_bit _ 24 (by omega)]
    by_cases g : i < 24
    · cases e : za_ak Tg Co k u i with
      | false => simp
      | true =>
        cases e2 : bt (Tg (b * 4 + l)) i with
        | false => simp
        | true =>
          have z := (za_ex_iff (p := fun v => bt (Tg (b * 4 + l)) v && za_ak Tg Co k u v) (n := 24)).mpr ⟨i, g, by simp only [e, e2, Bool.and_self]⟩
          rw [h] at z
          cases z
    · rw [decide_eq_false g]; simp
theorem za_atm_of {Tg Co Rw : Nat → Int32} {a b k m : Nat} (hR : za_row Tg Co Rw k) : za_atm Tg Rw a b k m = za_at Tg Co a b k m := by
  unfold za_atm za_at
  exact za_att_at hR (by omega)
theorem za_bn_lr {Tg Co Rw Kd : Nat → Int32} {lr kc s t : Nat} (h : za_like Tg Co Rw lr Kd kc) (hs : s < 24) (ht : t < 24) (hb : za_bn Tg Co s t < 24) : za_bn Tg Co s t ≤ lr := by
  unfold za_bn at hb ⊢
  rcases za_fi_of_like h hs ht with ⟨a, b⟩ | ⟨a, b⟩
  · omega
  · omega
theorem za_bv_bn {Tg Co : Nat → Int32} (s t : Nat) : za_bv Tg Co s t = if za_bn Tg Co s t < 24 then nI (za_bn Tg Co s t) else (-1) := rfl
theorem za_bvk_t {Tg Co : Nat → Int32} {s t : Nat} (h : 0 ≤ za_bv Tg Co s t - nI 1) : za_pl Tg Co s t = true ∧ za_bv Tg Co s t - nI 1 = nI (za_bn Tg Co s t - 1) ∧ za_bn Tg Co s t < 24 ∧ 0 < za_bn Tg Co s t := by
  rw [za_bv_bn] at h ⊢
  by_cases g : za_bn Tg Co s t < 24
  · rw [if_pos g] at h ⊢
    by_cases z : 0 < za_bn Tg Co s t
    · exact ⟨za_pl_iff.mpr ⟨g, z⟩, pk_sub (by omega), g, z⟩
    · rw [show za_bn Tg Co s t = 0 by omega] at h
      exact absurd h (by decide)
  · rw [if_neg g] at h
    exact absurd h (by decide)
theorem za_bvk_f {Tg Co : Nat → Int32} {s t : Nat} (h : ¬ 0 ≤ za_bv Tg Co s t - nI 1) : za_pl Tg Co s t = false := by
  cases e : za_pl Tg Co s t with
  | false => rfl
  | true =>
    obtain ⟨g, z⟩ := za_pl_iff.mp e
    rw [za_bv_bn, if_pos g, pk_sub (by omega)] at h
    exact absurd (nI_pos' (by omega)) h
def za_ac (Tg Co : Nat → Int32) (s t : Nat) : Int32 := if za_pl Tg Co s t = true then nI (za_cn (za_at Tg Co s t (za_bn Tg Co s t - 1)) 96 + za_cn (za_at Tg Co t s (za_bn Tg Co s t - 1)) 96) else nI 0
theorem za_ac_of {Tg Co Rw Kd : Nat → Int32} {lr kc s t : Nat} (h : za_like Tg Co Rw lr Kd kc) (hs : s < 24) (ht : t < 24) (hp : za_pl Tg Co s t = true) : nI (za_cn (za_atm Tg Rw s t (za_bn Tg Co s t - 1)) 96 + za_cn (za_atm Tg Rw t s (za_bn Tg Co s t - 1)) 96) = za_ac Tg Co s t := by
  obtain ⟨g, z⟩ := za_pl_iff.mp hp
  have hl := za_bn_lr h hs ht g
  unfold za_ac
  rw [if_pos hp, za_cn_congr (fun m _ => za_atm_of (h.2.1 (za_bn Tg Co s t - 1) (by omega))), za_cn_congr (p := za_atm Tg Rw t s (za_bn Tg Co s t - 1)) (fun m _ => za_atm_of (h.2.1 (za_bn Tg Co s t - 1) (by omega)))]
theorem za_fi_split {p : Nat → Bool} {n m : Nat} (h : n ≤ m) (h1 : za_fi p m < n) : za_fi p n = za_fi p m := za_fi_at h1 (fun j hj => za_fi_lt hj) (za_fi_f (by omega))
/-- the first attack by s, or by t: as the class looks for it -/
theorem za_fo_1 {Tg Co Rw : Nat → Int32} {x y : Nat} (hR : za_row Tg Co Rw (za_bn Tg Co x y - 1)) (h : ¬ za_fo Tg Rw x y (za_bn Tg Co x y - 1) = (-1)) : za_mi Tg Co x y = true ∧ za_fo Tg Rw x y (za_bn Tg Co x y - 1) = nI (za_lb Tg Co x y * 100 + za_to Tg Co x y) := by
  have e : za_fi (fun z => !za_atm Tg Rw x y (za_bn Tg Co x y - 1) z) 96 = za_fi (fun z => !za_fq Tg Co x y z) 96 := za_fi_congr (fun m hm => by unfold za_fq; rw [if_pos hm, za_atm_of hR])
  unfold za_fo at h ⊢
  rw [e] at h ⊢
  by_cases g : za_fi (fun z => !za_fq Tg Co x y z) 96 < 96
  · have e2 : za_fa Tg Co x y = za_fi (fun z => !za_fq Tg Co x y z) 96 := za_fi_at (p := fun z => !za_fq Tg Co x y z) (by omega) (fun j hj => za_fi_lt (p := fun z => !za_fq Tg Co x y z) hj) (za_fi_f (p := fun z => !za_fq Tg Co x y z) g)
    rw [if_pos g]
    unfold za_mi za_lb za_to
    rw [e2]
    exact ⟨decide_eq_true g, by rw [show za_fi (fun z => !za_fq Tg Co x y z) 96 % 96 = za_fi (fun z => !za_fq Tg Co x y z) 96 by omega]⟩
  · rw [if_neg g] at h
    exact absurd rfl h
theorem za_fo_2 {Tg Co Rw : Nat → Int32} {x y : Nat} (hR : za_row Tg Co Rw (za_bn Tg Co x y - 1)) (hp : za_pl Tg Co x y = true) (h : za_fo Tg Rw x y (za_bn Tg Co x y - 1) = (-1)) : za_mi Tg Co x y = false ∧ za_fo Tg Rw y x (za_bn Tg Co x y - 1) = nI (za_lb Tg Co x y * 100 + za_to Tg Co x y) := by
  have hlt := za_fa_lt hp
  have hge : 96 ≤ za_fa Tg Co x y := by
    rcases Nat.lt_or_ge (za_fa Tg Co x y) 96 with g | g
    · exfalso
      have e1 : za_fi (fun z => !za_fq Tg Co x y z) 96 = za_fa Tg Co x y := za_fi_split (by omega) g
      have e : za_fi (fun z => !za_atm Tg Rw x y (za_bn Tg Co x y - 1) z) 96 = za_fi (fun z => !za_fq Tg Co x y z) 96 := za_fi_congr (fun m hm => by unfold za_fq; rw [if_pos hm, za_atm_of hR])
      unfold za_fo at h
      rw [e, e1, if_pos g] at h
      exact za_m1 (by omega) h
    · exact g
  have e3 : za_fi (fun z => !za_atm Tg Rw y x (za_bn Tg Co x y - 1) z) 96 = za_fa Tg Co x y - 96 := by
    refine za_fi_at (by omega) (fun j hj => ?_) ?_
    · have z := za_fi_lt (p := fun z => !za_fq Tg Co x y z) (n := 192) (j := j + 96) (by show j + 96 < za_fa Tg Co x y; omega)
      unfold za_fq at z
      rw [if_neg (by omega), show j + 96 - 96 = j by omega] at z
      show (!za_atm Tg Rw y x (za_bn Tg Co x y - 1) j) = true
      rw [za_atm_of hR]
      exact z
    · have z : (!za_fq Tg Co x y (za_fa Tg Co x y)) = false := za_fi_f (p := fun z => !za_fq Tg Co x y z) (n := 192) hlt
      unfold za_fq at z
      rw [if_neg (by omega)] at z
      show (!za_atm Tg Rw y x (za_bn Tg Co x y - 1) (za_fa Tg Co x y - 96)) = false
      rw [za_atm_of hR]
      exact z
  unfold za_fo za_mi za_lb za_to
  rw [e3, if_pos (by omega), show za_fa Tg Co x y % 96 = za_fa Tg Co x y - 96 by omega, show (za_fa Tg Co x y - 96) % 24 = za_fa Tg Co x y % 24 by omega]
  exact ⟨decide_eq_false (by omega), rfl⟩
/-- the best answer, as the class finds it -/
theorem za_ba_of {w : Int32} {B : Nat → Nat} {P : Nat → Int32} {n : Nat} (hn : n ≤ 24) (h : ∀ v, v < n → bt w v = true → P v = nI (B v) ∧ B v < 24) : za_ba w P n = (za_ai (za_bs w B n), if za_bs w B n = 24 then (-1) else nI (B (za_bs w B n))) ∧ (za_bs w B n = 24 ∨ (za_bs w B n < n ∧ bt w (za_bs w B n) = true)) := by
  induction n with
  | zero => exact ⟨rfl, Or.inl rfl⟩
  | succ n ih =>
    obtain ⟨i1, i2⟩ := ih (by omega) (fun v hv => h v (by omega))
    have hlt := za_bs_lt w B (n + 1)
    refine ⟨?_, hlt⟩
    rw [za_ba, i1]
    by_cases g : bt w n = true
    · obtain ⟨g1, g2⟩ := h n (by omega) g
      rw [if_pos g, g1]
      by_cases z : za_bs w B n = 24
      · have e : za_bs w B (n + 1) = n := by rw [za_bs, if_pos ⟨g, Or.inl z⟩]
        rw [e, if_neg (by show ¬ nI (B n) ≤ (if za_bs w B n = 24 then (-1 : Int32) else _); rw [if_pos z]; intro q; exact absurd (Int32.le_iff_toInt_le.mp q) (by rw [nI_toInt (by omega), show (-1 : Int32).toInt = -1 by decide]; omega))]
        unfold za_ai
        rw [if_neg (by omega), if_neg (by omega)]
      · rcases i2 with y | y
        · exact absurd y z
        · obtain ⟨b1, b2⟩ := h _ (show za_bs w B n < n + 1 by omega) y.2
          show (if nI (B n) ≤ (if za_bs w B n = 24 then (-1 : Int32) else nI (B (za_bs w B n))) then _ else _) = _
          rw [if_neg z]
          by_cases q : B (za_bs w B n) < B n
          · have e : za_bs w B (n + 1) = n := by rw [za_bs, if_pos ⟨g, Or.inr q⟩]
            rw [if_neg (nI_ge q (by omega)), e]
            unfold za_ai
            rw [if_neg (by omega), if_neg (by omega)]
          · have e : za_bs w B (n + 1) = za_bs w B n := by rw [za_bs, if_neg (by rintro ⟨-, c | c⟩ <;> contradiction)]
            rw [if_pos (nI_le (by omega) (by omega)), e, if_neg z]
    · have e : za_bs w B (n + 1) = za_bs w B n := by rw [za_bs, if_neg (fun c => g c.1)]
      rw [if_neg g, e, if_pos]
      show (-1 : Int32) ≤ (if za_bs w B n = 24 then (-1) else nI (B (za_bs w B n)))
      split
      · decide
      · rename_i z
        rcases i2 with y | y
        · exact absurd y z
        · obtain ⟨b1, b2⟩ := h _ (show za_bs w B n < n + 1 by omega) y.2
          refine Int32.le_iff_toInt_le.mpr ?_
          rw [nI_toInt (by omega), show (-1 : Int32).toInt = -1 by decide]
          omega
theorem za_best {Tg Co Rw Kd : Nat → Int32} {lr kc x y e0 : Nat} (h : za_like Tg Co Rw lr Kd kc) (hp : za_pl Tg Co x y = true) (he : e0 = za_lb Tg Co x y * 100 + za_to Tg Co x y) : (za_ba (Tg (za_ot Tg Co x y * 4 + e0 / 100)) (fun z => za_ff (fun q => bt (Rw (q * 24 + e0 % 100)) z) (lr + 1)) 24).1 = za_ai (za_an Tg Co x y) := by
  have hlb := za_lb_lt (Tg := Tg) (Co := Co) x y
  have hto := za_to_lt (Tg := Tg) (Co := Co) x y
  rw [show e0 / 100 = za_lb Tg Co x y by omega, show e0 % 100 = za_to Tg Co x y by omega]
  rw [(za_ba_of (B := za_bn Tg Co (za_to Tg Co x y)) (Nat.le_refl _) (fun v hv hb => ?_)).1]
  · rfl
  · have g := za_ans_bn hp v hv hb
    have g2 := (za_pl_iff.mp hp).1
    refine ⟨?_, by omega⟩
    show za_ff (fun q => bt (Rw (q * 24 + za_to Tg Co x y)) v) (lr + 1) = _
    rw [za_bv_of h hto hv, za_bv_bn, if_pos (by omega)]
theorem za_ai_m1 {j : Nat} (hj : j ≤ 24) : za_ai j = (-1) ↔ j = 24 := by
  unfold za_ai
  by_cases h : j = 24
  · rw [if_pos h]; exact ⟨fun _ => h, fun _ => rfl⟩
  · rw [if_neg h]; exact ⟨fun q => absurd q (za_m1 (by omega)), fun q => absurd q h⟩
theorem za_an_le {Tg Co : Nat → Int32} (x y : Nat) : za_an Tg Co x y ≤ 24 := by
  rcases za_bs_lt (Tg (za_ot Tg Co x y * 4 + za_lb Tg Co x y)) (za_bn Tg Co (za_to Tg Co x y)) 24 with h | h
  · exact Nat.le_of_eq h
  · exact Nat.le_of_lt h.1
def za_l1 (Tg Co : Nat → Int32) (x y j : Nat) : Nat := if za_pl Tg Co x y = true then j + 1 else j
def za_M1 (Tg Co : Nat → Int32) (x y j : Nat) (Md : Nat → Int32) : Nat → Int32 := if za_pl Tg Co x y = true then upd Md j (nI (za_cd9 Tg Co x y)) else Md
def za_A1 (Tg Co : Nat → Int32) (x y j : Nat) (An : Nat → Int32) : Nat → Int32 := if za_pl Tg Co x y = true then upd An j (za_ai (za_an Tg Co x y)) else An
def za_go (Tg Co : Nat → Int32) (x y : Nat) : Bool := za_pl Tg Co x y && !decide (za_an Tg Co x y = 24)
theorem za_once1 {Tg Co Sd : Nat → Int32} {x y sd0 : Nat} (hside : sd0 = (if za_mi Tg Co x y = true then 0 else 1)) (h0 : Sd 0 = nI x) (h1 : Sd 1 = nI y) : Sd (1 - sd0) = nI (za_ot Tg Co x y) := by
  by_cases g : za_mi Tg Co x y = true
  · rw [if_pos g] at hside
    have e : za_ot Tg Co x y = y := by unfold za_ot; rw [if_pos g]
    rw [hside, e]; exact h1
  · rw [if_neg g] at hside
    have e : za_ot Tg Co x y = x := by unfold za_ot; rw [if_neg g]
    rw [hside, e]; exact h0
theorem za_once2 {Tg Co : Nat → Int32} {x y sd0 e0 : Nat} (hside : sd0 = (if za_mi Tg Co x y = true then 0 else 1)) (he : e0 = za_lb Tg Co x y * 100 + za_to Tg Co x y) : nI (za_cd9 Tg Co x y) = nI (sd0 * 1000 + e0) := by
  by_cases g : za_mi Tg Co x y = true
  · rw [if_pos g] at hside
    have e : za_cd9 Tg Co x y = 0 + 100 * za_lb Tg Co x y + za_to Tg Co x y := by unfold za_cd9; rw [if_pos g]
    rw [hside, e, he]; exact congrArg nI (by omega)
  · rw [if_neg g] at hside
    have e : za_cd9 Tg Co x y = 1000 + 100 * za_lb Tg Co x y + za_to Tg Co x y := by unfold za_cd9; rw [if_neg g]
    rw [hside, e, he]; exact congrArg nI (by omega)
theorem za_once3 {Tg Co Sd : Nat → Int32} {x y sd0 e0 : Nat} (hside : sd0 = (if za_mi Tg Co x y = true then 0 else 1)) (he : e0 = za_lb Tg Co x y * 100 + za_to Tg Co x y) (ha : ¬ za_an Tg Co x y = 24) : upd (upd Sd sd0 (nI (e0 % 100))) (1 - sd0) (za_ai (za_an Tg Co x y)) 0 = nI (za_x1 Tg Co x y) ∧ upd (upd Sd sd0 (nI (e0 % 100))) (1 - sd0) (za_ai (za_an Tg Co x y)) 1 = nI (za_y1 Tg Co x y) := by
  have hto := za_to_lt (Tg := Tg) (Co := Co) x y
  have e1 : e0 % 100 = za_to Tg Co x y := by omega
  rw [e1]
  have ea : za_ai (za_an Tg Co x y) = nI (za_an Tg Co x y) := by unfold za_ai; rw [if_neg ha]
  rw [ea]
  by_cases g : za_mi Tg Co x y = true
  · rw [if_pos g] at hside
    have x1 : za_x1 Tg Co x y = za_to Tg Co x y := by unfold za_x1; rw [if_pos g]
    have y1 : za_y1 Tg Co x y = za_an Tg Co x y := by unfold za_y1; rw [if_pos g]
    rw [hside, x1, y1]
    exact ⟨rfl, rfl⟩
  · rw [if_neg g] at hside
    have x1 : za_x1 Tg Co x y = za_an Tg Co x y := by unfold za_x1; rw [if_neg g]
    have y1 : za_y1 Tg Co x y = za_to Tg Co x y := by unfold za_y1; rw [if_neg g]
    rw [hside, x1, y1]
    exact ⟨rfl, rfl⟩
theorem za_play1 {Tg Co : Nat → Int32} {s t j : Nat} (hj : ∀ q, q < j → (za_tr Tg Co s t q).1 = true) (htl : (za_tr Tg Co s t j).1 = za_pl Tg Co (za_tr Tg Co s t j).2.1 (za_tr Tg Co s t j).2.2) : ∀ q, q < za_l1 Tg Co (za_tr Tg Co s t j).2.1 (za_tr Tg Co s t j).2.2 j → (za_tr Tg Co s t q).1 = true := by
  intro q hq
  unfold za_l1 at hq
  by_cases g : za_pl Tg Co (za_tr Tg Co s t j).2.1 (za_tr Tg Co s t j).2.2 = true
  · rw [if_pos g] at hq
    by_cases e : q = j
    · rw [e, htl]; exact g
    · exact hj q (by omega)
  · rw [if_neg g] at hq
    exact hj q hq
theorem za_play2 {Tg Co Mq : Nat → Int32} {s t j : Nat} (hM : ∀ q, q < j → Mq q = nI (za_cd9 Tg Co (za_tr Tg Co s t q).2.1 (za_tr Tg Co s t q).2.2)) : ∀ q, q < za_l1 Tg Co (za_tr Tg Co s t j).2.1 (za_tr Tg Co s t j).2.2 j → za_M1 Tg Co (za_tr Tg Co s t j).2.1 (za_tr Tg Co s t j).2.2 j Mq q = nI (za_cd9 Tg Co (za_tr Tg Co s t q).2.1 (za_tr Tg Co s t q).2.2) := by
  intro q hq
  unfold za_l1 at hq
  unfold za_M1
  by_cases g : za_pl Tg Co (za_tr Tg Co s t j).2.1 (za_tr Tg Co s t j).2.2 = true
  · rw [if_pos g] at hq ⊢
    unfold upd
    by_cases e : q = j
    · rw [if_pos e, e]
    · rw [if_neg e]; exact hM q (by omega)
  · rw [if_neg g] at hq ⊢
    exact hM q hq
theorem za_play3 {Tg Co Aq : Nat → Int32} {s t j : Nat} (hM : ∀ q, q < j → Aq q = za_ai (za_an Tg Co (za_tr Tg Co s t q).2.1 (za_tr Tg Co s t q).2.2)) : ∀ q, q < za_l1 Tg Co (za_tr Tg Co s t j).2.1 (za_tr Tg Co s t j).2.2 j → za_A1 Tg Co (za_tr Tg Co s t j).2.1 (za_tr Tg Co s t j).2.2 j Aq q = za_ai (za_an Tg Co (za_tr Tg Co s t q).2.1 (za_tr Tg Co s t q).2.2) := by
  intro q hq
  unfold za_l1 at hq
  unfold za_A1
  by_cases g : za_pl Tg Co (za_tr Tg Co s t j).2.1 (za_tr Tg Co s t j).2.2 = true
  · rw [if_pos g] at hq ⊢
    unfold upd
    by_cases e : q = j
    · rw [if_pos e, e]
    · rw [if_neg e]; exact hM q (by omega)
  · rw [if_neg g] at hq ⊢
    exact hM q hq
theorem za_go_iff {Tg Co : Nat → Int32} {x y : Nat} : za_go Tg Co x y = true ↔ za_pl Tg Co x y = true ∧ ¬ za_an Tg Co x y = 24 := by
  unfold za_go
  rw [Bool.and_eq_true, Bool.not_eq_true', decide_eq_false_iff_not]
theorem za_tr_go {Tg Co : Nat → Int32} {s t j : Nat} (htl : (za_tr Tg Co s t j).1 = za_pl Tg Co (za_tr Tg Co s t j).2.1 (za_tr Tg Co s t j).2.2) (h : za_go Tg Co (za_tr Tg Co s t j).2.1 (za_tr Tg Co s t j).2.2 = true) : za_l1 Tg Co (za_tr Tg Co s t j).2.1 (za_tr Tg Co s t j).2.2 j = j + 1 ∧ za_tr Tg Co s t (j + 1) = (za_pl Tg Co (za_x1 Tg Co (za_tr Tg Co s t j).2.1 (za_tr Tg Co s t j).2.2) (za_y1 Tg Co (za_tr Tg Co s t j).2.1 (za_tr Tg Co s t j).2.2), za_x1 Tg Co (za_tr Tg Co s t j).2.1 (za_tr Tg Co s t j).2.2, za_y1 Tg Co (za_tr Tg Co s t j).2.1 (za_tr Tg Co s t j).2.2) := by
  obtain ⟨h1, h2⟩ := za_go_iff.mp h
  refine ⟨by unfold za_l1; rw [if_pos h1], ?_⟩
  rw [za_tr, if_pos ⟨htl.trans h1, h2⟩]
theorem za_play4 {Tg Co Sd1 : Nat → Int32} {s t i j : Nat} (hij : i = j) (htl : (za_tr Tg Co s t j).1 = za_pl Tg Co (za_tr Tg Co s t j).2.1 (za_tr Tg Co s t j).2.2) (hq : za_go Tg Co (za_tr Tg Co s t j).2.1 (za_tr Tg Co s t j).2.2 = true → Sd1 0 = nI (za_x1 Tg Co (za_tr Tg Co s t j).2.1 (za_tr Tg Co s t j).2.2) ∧ Sd1 1 = nI (za_y1 Tg Co (za_tr Tg Co s t j).2.1 (za_tr Tg Co s t j).2.2)) (h : za_go Tg Co (za_tr Tg Co s t j).2.1 (za_tr Tg Co s t j).2.2 = true) : i + 1 = za_l1 Tg Co (za_tr Tg Co s t j).2.1 (za_tr Tg Co s t j).2.2 j ∧ Sd1 0 = nI (za_tr Tg Co s t (za_l1 Tg Co (za_tr Tg Co s t j).2.1 (za_tr Tg Co s t j).2.2 j)).2.1 ∧ Sd1 1 = nI (za_tr Tg Co s t (za_l1 Tg Co (za_tr Tg Co s t j).2.1 (za_tr Tg Co s t j).2.2 j)).2.2 := by
  obtain ⟨e1, e2⟩ := za_tr_go htl h
  rw [e1, e2]
  dsimp only
  exact ⟨by omega, (hq h).1, (hq h).2⟩
theorem za_play5 {Tg Co : Nat → Int32} {s t j : Nat} (htl : (za_tr Tg Co s t j).1 = za_pl Tg Co (za_tr Tg Co s t j).2.1 (za_tr Tg Co s t j).2.2) (h : za_go Tg Co (za_tr Tg Co s t j).2.1 (za_tr Tg Co s t j).2.2 = false) : (za_tr Tg Co s t (za_l1 Tg Co (za_tr Tg Co s t j).2.1 (za_tr Tg Co s t j).2.2 j)).1 = false := by
  by_cases g : za_pl Tg Co (za_tr Tg Co s t j).2.1 (za_tr Tg Co s t j).2.2 = true
  · have e : za_l1 Tg Co (za_tr Tg Co s t j).2.1 (za_tr Tg Co s t j).2.2 j = j + 1 := by unfold za_l1; rw [if_pos g]
    rw [e, za_tr, if_neg]
    rintro ⟨-, c⟩
    rw [za_go_iff.mpr ⟨g, c⟩] at h
    cases h
  · have e : za_l1 Tg Co (za_tr Tg Co s t j).2.1 (za_tr Tg Co s t j).2.2 j = j := by unfold za_l1; rw [if_neg g]
    rw [e, htl]
    simpa using g
theorem za_play6 {Tg Co : Nat → Int32} {s t j : Nat} (htl : (za_tr Tg Co s t j).1 = za_pl Tg Co (za_tr Tg Co s t j).2.1 (za_tr Tg Co s t j).2.2) (h : za_go Tg Co (za_tr Tg Co s t j).2.1 (za_tr Tg Co s t j).2.2 = true) (_ : 0 < za_l1 Tg Co (za_tr Tg Co s t j).2.1 (za_tr Tg Co s t j).2.2 j) : (za_tr Tg Co s t (za_l1 Tg Co (za_tr Tg Co s t j).2.1 (za_tr Tg Co s t j).2.2 j)).1 = za_pl Tg Co (za_tr Tg Co s t (za_l1 Tg Co (za_tr Tg Co s t j).2.1 (za_tr Tg Co s t j).2.2 j)).2.1 (za_tr Tg Co s t (za_l1 Tg Co (za_tr Tg Co s t j).2.1 (za_tr Tg Co s t j).2.2 j)).2.2 := by
  obtain ⟨e1, e2⟩ := za_tr_go htl h
  rw [e1, e2]
theorem za_tr23 {Tg Co : Nat → Int32} {s t : Nat} (hs : s < 24) (ht : t < 24) : ¬ (za_tr Tg Co s t 23).1 = true := by
  intro h
  obtain ⟨-, -, i3⟩ := za_tr_in (Tg := Tg) (Co := Co) hs ht 23
  obtain ⟨j1, j2⟩ := i3 h
  have := (za_pl_iff.mp j1).2
  omega
theorem za_play8 {Tg Co : Nat → Int32} {s t j : Nat} (hs : s < 24) (ht : t < 24) (hj : ∀ q, q < j → (za_tr Tg Co s t q).1 = true) (h : (za_tr Tg Co s t j).1 = false) : j = za_pn Tg Co s t := by
  rcases Nat.lt_or_ge j 24 with g | g
  · exact (za_fi_at g hj h).symm
  · exact absurd (hj 23 (by omega)) (za_tr23 hs ht)
theorem za_play7 {Tg Co : Nat → Int32} {s t i j : Nat} {g : Bool} (hs : s < 24) (ht : t < 24) (hj : ∀ q, q < j → (za_tr Tg Co s t q).1 = true) (hgi : g = true → i = j) (hg2 : g = false → (za_tr Tg Co s t j).1 = false) (hi : 24 ≤ i) : j = za_pn Tg Co s t := by
  cases g with
  | true =>
    have := hgi rfl
    exact absurd (hj 23 (by omega)) (za_tr23 hs ht)
  | false => exact za_play8 hs ht hj (hg2 rfl)
