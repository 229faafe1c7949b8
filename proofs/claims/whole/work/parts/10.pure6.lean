/-! the answers of the class's own methods, in the net's words -/
def za_clp (w : Int32) : Nat := w.toNatClampNeg
theorem za_clS {j : Nat} (h : j < 24) : za_clp (nI j) = j := nI_clamp (by omega)
theorem za_clL {j : Nat} (h : j < 4) : za_clp (nI j) = j := nI_clamp (by omega)
def za_isM (w x0 v : Int32) : Bool := za_isS w && za_isS v && za_isL x0
theorem za_isM_of {w x0 v : Int32} (h : (za_isS w && za_isS v && za_isL x0) = true) : (∃ s : Nat, s < 24 ∧ w = nI s) ∧ (∃ l : Nat, l < 4 ∧ x0 = nI l) ∧ ∃ t : Nat, t < 24 ∧ v = nI t := by
  rw [Bool.and_eq_true, Bool.and_eq_true] at h
  exact ⟨za_isS_of h.1.1, za_isL_of h.2, za_isS_of h.1.2⟩
theorem za_isSS_of {w v : Int32} (h : (za_isS w && za_isS v) = true) : (∃ s : Nat, s < 24 ∧ w = nI s) ∧ ∃ t : Nat, t < 24 ∧ v = nI t := by
  rw [Bool.and_eq_true] at h
  exact ⟨za_isS_of h.1, za_isS_of h.2⟩
def za_mok (Tg : Nat → Int32) (ct w x0 v : Int32) : Bool := (za_isS w && za_isS v && za_isL x0) && (!bt (Tg (za_clp w * 4 + za_clp x0)) (za_clp v) && decide (ct < nI 120))
def za_mvT (Tg : Nat → Int32) (ct w x0 v : Int32) : Nat → Int32 := if za_mok Tg ct w x0 v = true then upd Tg (za_clp w * 4 + za_clp x0) (Tg (za_clp w * 4 + za_clp x0) ||| (nI 1 <<< (v &&& 31))) else Tg
def za_mct (Tg : Nat → Int32) (ct w x0 v : Int32) : Int32 := if za_mok Tg ct w x0 v = true then ct + nI 1 else ct
theorem za_mok1 {Tg : Nat → Int32} {ct w x0 v : Int32} (h : (za_isS w && za_isS v && za_isL x0) = false) : za_mok Tg ct w x0 v = false := by
  unfold za_mok
  rw [h, Bool.false_and]
theorem za_mok2 {Tg : Nat → Int32} {ct w x0 v : Int32} {s l t : Nat} (hs : s < 24) (hl : l < 4) (ht : t < 24) (hw : w = nI s) (hx : x0 = nI l) (hv : v = nI t) (h : bt (Tg (s * 4 + l)) t = true) : za_mok Tg ct w x0 v = false := by
  subst hw hx hv
  unfold za_mok
  rw [za_clS hs, za_clL hl, za_clS ht, h]
  simp
theorem za_mok3 {Tg : Nat → Int32} {ct w x0 v : Int32} (h : ¬ ct < nI 120) : za_mok Tg ct w x0 v = false := by
  unfold za_mok
  rw [decide_eq_false h]
  simp
theorem za_mok4 {Tg : Nat → Int32} {ct w x0 v : Int32} {s l t : Nat} (hs : s < 24) (hl : l < 4) (ht : t < 24) (hw : w = nI s) (hx : x0 = nI l) (hv : v = nI t) (h1 : (za_isS w && za_isS v && za_isL x0) = true) (h2 : bt (Tg (s * 4 + l)) t = false) (h3 : ct < nI 120) : za_mok Tg ct w x0 v = true := by
  subst hw hx hv
  unfold za_mok
  rw [za_clS hs, za_clL hl, za_clS ht, h1, h2, decide_eq_true h3]
  rfl
def za_dok (Tg : Nat → Int32) (w x0 v : Int32) : Bool := (za_isS w && za_isS v && za_isL x0) && bt (Tg (za_clp w * 4 + za_clp x0)) (za_clp v)
def za_dvT (Tg : Nat → Int32) (w x0 v : Int32) : Nat → Int32 := if za_dok Tg w x0 v = true then upd Tg (za_clp w * 4 + za_clp x0) (Tg (za_clp w * 4 + za_clp x0) &&& ((nI 1 <<< (v &&& 31)) ^^^ (-1))) else Tg
def za_dct (Tg : Nat → Int32) (ct w x0 v : Int32) : Int32 := if za_dok Tg w x0 v = true then ct - nI 1 else ct
theorem za_dok1 {Tg : Nat → Int32} {w x0 v : Int32} (h : (za_isS w && za_isS v && za_isL x0) = false) : za_dok Tg w x0 v = false := by
  unfold za_dok
  rw [h, Bool.false_and]
theorem za_dok2 {Tg : Nat → Int32} {w x0 v : Int32} {s l t : Nat} (hs : s < 24) (hl : l < 4) (ht : t < 24) (hw : w = nI s) (hx : x0 = nI l) (hv : v = nI t) (h : bt (Tg (s * 4 + l)) t = false) : za_dok Tg w x0 v = false := by
  subst hw hx hv
  unfold za_dok
  rw [za_clS hs, za_clL hl, za_clS ht, h, Bool.and_false]
theorem za_dok4 {Tg : Nat → Int32} {w x0 v : Int32} {s l t : Nat} (hs : s < 24) (hl : l < 4) (ht : t < 24) (hw : w = nI s) (hx : x0 = nI l) (hv : v = nI t) (h1 : (za_isS w && za_isS v && za_isL x0) = true) (h2 : bt (Tg (s * 4 + l)) t = true) : za_dok Tg w x0 v = true := by
  subst hw hx hv
  unfold za_dok
  rw [za_clS hs, za_clL hl, za_clS ht, h1, h2]
  rfl
def za_cvC (Co : Nat → Int32) (w x0 : Int32) : Nat → Int32 := if za_isS w = true then upd Co (za_clp w) x0 else Co
/-- the breach of two states, -1 if they are alike for ever -/
def za_bv (Tg Co : Nat → Int32) (s t : Nat) : Int32 := za_ff (fun x => za_ak Tg Co x s t) 24
theorem za_row_bit {Tg Co Rw : Nat → Int32} {k s t : Nat} (h : za_row Tg Co Rw k) (hs : s < 24) (ht : t < 24) : bt (Rw (k * 24 + s)) t = za_ak Tg Co k s t := by
  rw [h s hs, za_mk_bit _ 24 (by omega), decide_eq_true ht, Bool.true_and]
theorem za_fi_of_like {Tg Co Rw Kd : Nat → Int32} {lr kc s t : Nat} (h : za_like Tg Co Rw lr Kd kc) (hs : s < 24) (ht : t < 24) : (za_fi (fun x => bt (Rw (x * 24 + s)) t) (lr + 1) < lr + 1 ∧ za_fi (fun x => za_ak Tg Co x s t) 24 = za_fi (fun x => bt (Rw (x * 24 + s)) t) (lr + 1)) ∨ (za_fi (fun x => bt (Rw (x * 24 + s)) t) (lr + 1) = lr + 1 ∧ za_fi (fun x => za_ak Tg Co x s t) 24 = 24) := by
  obtain ⟨h1, h2, h3, -⟩ := h
  have e : za_fi (fun x => bt (Rw (x * 24 + s)) t) (lr + 1) = za_fi (fun x => za_ak Tg Co x s t) (lr + 1) := za_fi_congr (fun x hx => za_row_bit (h2 x (by omega)) hs ht)
  rw [e]
  have hle := za_fi_le (fun x => za_ak Tg Co x s t) (lr + 1)
  by_cases q : za_fi (fun x => za_ak Tg Co x s t) (lr + 1) < lr + 1
  · refine Or.inl ⟨q, ?_⟩
    exact za_fi_at (by omega) (fun j hj => za_fi_lt (p := fun x => za_ak Tg Co x s t) hj) (za_fi_f (p := fun x => za_ak Tg Co x s t) q)
  · refine Or.inr ⟨by omega, za_fi_all (fun j hj => ?_)⟩
    by_cases g : j ≤ lr
    · exact za_fi_lt (p := fun x => za_ak Tg Co x s t) (n := lr + 1) (by omega)
    · rw [za_stab_le (show lr ≤ j by omega) h3 hs ht]
      exact za_fi_lt (p := fun x => za_ak Tg Co x s t) (n := lr + 1) (j := lr) (by omega)
theorem za_bv_of {Tg Co Rw Kd : Nat → Int32} {lr kc s t : Nat} (h : za_like Tg Co Rw lr Kd kc) (hs : s < 24) (ht : t < 24) : za_ff (fun x => bt (Rw (x * 24 + s)) t) (lr + 1) = za_bv Tg Co s t := by
  unfold za_bv za_ff
  have h1 := h.1
  rcases za_fi_of_like h hs ht with ⟨a, b⟩ | ⟨a, b⟩
  · rw [if_pos a, b, if_pos (by omega)]
  · rw [a, b, if_neg (by omega), if_neg (by omega)]
theorem za_m1 {n : Nat} (h : n < 2 ^ 31) : ¬ nI n = (-1) := by
  intro q
  have e := congrArg Int32.toInt q
  rw [nI_toInt h] at e
  have e2 : (-1 : Int32).toInt = -1 := by decide
  rw [e2] at e
  omega
theorem za_bv_al {Tg Co : Nat → Int32} {s t : Nat} : za_bv Tg Co s t = (-1) ↔ za_ak Tg Co 23 s t = true := by
  unfold za_bv za_ff
  have hle := za_fi_le (fun x => za_ak Tg Co x s t) 24
  by_cases q : za_fi (fun x => za_ak Tg Co x s t) 24 < 24
  · rw [if_pos q]
    refine ⟨fun h => absurd h (za_m1 (by omega)), fun h => ?_⟩
    have := za_fi_f q
    rw [za_ak_le (show za_fi (fun x => za_ak Tg Co x s t) 24 ≤ 23 by omega) h] at this
    cases this
  · rw [if_neg q]
    exact ⟨fun _ => za_fi_lt (p := fun x => za_ak Tg Co x s t) (n := 24) (by omega), fun _ => rfl⟩
theorem za_ka_congr {w : Int32} {Ka Kb : Nat → Int32} {n : Nat} (h : ∀ s, s < n → Ka s = Kb s) : za_ka w Ka n = za_ka w Kb n := by
  induction n with
  | zero => rfl
  | succ n ih => rw [za_ka, za_ka, ih (fun s hs => h s (by omega)), h n (by omega)]
theorem za_kr_congr {w : Int32} {l : Nat} {Tg Ka Kb : Nat → Int32} (h : ∀ s, s < 24 → Ka s = Kb s) {n : Nat} (hn : n ≤ 24) : za_kr w l Tg Ka n = za_kr w l Tg Kb n := by
  induction n with
  | zero => rfl
  | succ n ih => rw [za_kr, za_kr, ih (by omega), h n (by omega), za_ka_congr h]
def za_rv (Tg Co : Nat → Int32) (w : Int32) (l : Nat) : Int32 := za_kr w l Tg (za_kd Tg Co) 24
