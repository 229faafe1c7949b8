/-! what is so when the likeness is settled; when the cover is -/
def za_small (Tg : Nat → Int32) : Prop := ∀ j, j < 96 → ∀ i, 24 ≤ i → bt (Tg j) i = false
/-- the least state alike to y, among those up to y -/
def za_lc (Tg Co : Nat → Int32) (y : Nat) : Nat := za_fi (fun x => !za_ak Tg Co 23 y x) y
def za_kd (Tg Co : Nat → Int32) (s : Nat) : Int32 := (za_nk (za_lc Tg Co) (fun _ => nI 0) 24).1 s
def za_kc (Tg Co : Nat → Int32) : Nat := (za_nk (za_lc Tg Co) (fun _ => nI 0) 24).2
def za_like (Tg Co Rw : Nat → Int32) (lr : Nat) (Kd : Nat → Int32) (kc : Nat) : Prop := lr < 24 ∧ (∀ j, j ≤ lr → za_row Tg Co Rw j) ∧ za_stab Tg Co lr ∧ (∀ s, s < 24 → Kd s = za_kd Tg Co s) ∧ kc = za_kc Tg Co
theorem za_row0 {Tg Co Rw : Nat → Int32} {j : Nat} (hj : j ≤ 0) : za_row Tg Co (za_fl (fun x => za_mk (fun z => decide (Co z = Co x)) 24) Rw 24) j := by
  have e : j = 0 := by omega
  subst e
  intro s hs
  rw [show 0 * 24 + s = s by omega, za_fl_lt hs]
  rfl
theorem za_ua_at {Tg Rw Un : Nat → Int32} {f i : Nat} (hi : i < 96) : za_ua Tg Rw f Un i = za_uo (Tg i) Rw f 24 := za_fl_lt hi
theorem za_pr_row {Tg Co Rw Un : Nat → Int32} {q y : Nat} (hR : za_row Tg Co Rw q) (hy : y < 24) : za_pr Tg Rw Un (q + 1) y = za_mk (za_ak Tg Co (q + 1) y) 24 := by
  unfold za_pr za_st
  rw [show q + 1 - 1 = q by omega]
  refine za_mk_congr (fun x hx => ?_)
  rw [hR y hy, za_mk_bit _ 24 (by omega), za_mv_iff hR (fun i hi => za_ua_at hi) hy hx, decide_eq_true hx, Bool.true_and]
  rfl
theorem za_rows_s {Tg Co Rq Uq : Nat → Int32} {q : Nat} (hR : ∀ j, j ≤ q → za_row Tg Co Rq j) : ∀ j, j ≤ q + 1 → za_row Tg Co (za_of (za_pr Tg Rq Uq (q + 1)) Rq ((q + 1) * 24) 24) j := by
  intro j hj s hs
  by_cases e : j = q + 1
  · subst e
    rw [za_of_in hs, za_pr_row (hR q (Nat.le_refl _)) hs]
  · rw [za_of_lo (by omega), hR j (by omega) s hs]
theorem za_rows_k {Tg Co Rq Uq : Nat → Int32} {q j : Nat} (hR : ∀ j, j ≤ q → za_row Tg Co Rq j) (hj : j ≤ q) : za_row Tg Co (za_of (za_pr Tg Rq Uq (q + 1)) Rq ((q + 1) * 24) 24) j := za_rows_s hR j (by omega)
theorem za_stab_of {Tg Co Rq Uq : Nat → Int32} {q : Nat} (hR : ∀ j, j ≤ q → za_row Tg Co Rq j) (h : za_ex (za_pd Tg Rq Uq (q + 1)) 24 = false) : za_stab Tg Co q := by
  intro s t hs ht
  have h1 : za_pd Tg Rq Uq (q + 1) s = false := by
    cases e : za_pd Tg Rq Uq (q + 1) s with
    | false => rfl
    | true => rw [za_ex_iff.mpr ⟨s, hs, e⟩] at h; cases h
  unfold za_pd at h1
  rw [decide_eq_false_iff_not, Classical.not_not, za_pr_row (hR q (Nat.le_refl _)) hs, show q + 1 - 1 = q by omega, hR q (Nat.le_refl _) s hs] at h1
  exact za_mk_inj h1 ht
theorem za_lf_lc {Tg Co Rw : Nat → Int32} {z y : Nat} (hz : z ≤ 23) (hZ : ∀ j, j ≤ z → za_row Tg Co Rw j) (hY : za_stab Tg Co z) (hy : y < 24) : za_lf Rw z y = za_lc Tg Co y := by
  unfold za_lf za_lc
  refine za_fi_congr (fun x hx => ?_)
  rw [hZ z (Nat.le_refl _) y hy, za_mk_bit _ 24 (by omega), decide_eq_true (show x < 24 by omega), Bool.true_and, za_stab_le hz hY hy (show x < 24 by omega)]
theorem za_nk_congr {La Lb : Nat → Nat} {Ka Kb : Nat → Int32} {n : Nat} (h : ∀ y, y < n → La y = Lb y) (hle : ∀ y, La y ≤ y) : (∀ s, s < n → (za_nk La Ka n).1 s = (za_nk Lb Kb n).1 s) ∧ (za_nk La Ka n).2 = (za_nk Lb Kb n).2 := by
  induction n with
  | zero => exact ⟨fun s hs => absurd hs (Nat.not_lt_zero _), by rw [za_nk0, za_nk0]⟩
  | succ n ih =>
    obtain ⟨i1, i2⟩ := ih (fun y hy => h y (by omega))
    have e := h n (by omega)
    by_cases hq : La n = n
    · rw [za_nk_t hq, za_nk_t (La := Lb) (e ▸ hq)]
      refine ⟨fun s hs => ?_, by show _ + 1 = _ + 1; rw [i2]⟩
      show upd _ n _ s = upd _ n _ s
      unfold upd
      by_cases g : s = n
      · rw [if_pos g, if_pos g, i2]
      · rw [if_neg g, if_neg g, i1 s (by omega)]
    · rw [za_nk_f hq, za_nk_f (La := Lb) (e ▸ hq)]
      refine ⟨fun s hs => ?_, i2⟩
      show upd _ n _ s = upd _ n _ s
      have hl : La n < n := Nat.lt_of_le_of_ne (hle n) hq
      unfold upd
      by_cases g : s = n
      · rw [if_pos g, if_pos g, i1 _ hl, e]
      · rw [if_neg g, if_neg g, i1 s (by omega)]
theorem za_like_mk {Tg Co Rz Kd : Nat → Int32} {z : Nat} (hz : z ≤ 23) (hZ : ∀ j, j ≤ z → za_row Tg Co Rz j) (hY : za_stab Tg Co z) : za_like Tg Co Rz z (za_nk (za_lf Rz z) Kd 24).1 (za_nk (za_lf Rz z) Kd 24).2 := by
  obtain ⟨h1, h2⟩ := za_nk_congr (La := za_lf Rz z) (Lb := za_lc Tg Co) (Ka := Kd) (Kb := fun _ => nI 0) (n := 24) (fun y hy => za_lf_lc hz hZ hY hy) (fun y => za_fi_le _ y)
  exact ⟨by omega, hZ, hY, h1, h2⟩
/-- s covers t for k rounds -/
def za_fc (Tg : Nat → Int32) (R : Nat → Nat → Bool) (s t : Nat) : Bool := za_al (fun l => za_al (fun u => !bt (Tg (t * 4 + l)) u || za_ex (fun v => bt (Tg (s * 4 + l)) v && R v u) 24) 24) 4
def za_cv (Tg Co : Nat → Int32) : Nat → Nat → Nat → Bool
  | 0 => fun s t => decide (Co t = Co s)
  | k + 1 => fun s t => za_cv Tg Co k s t && za_fc Tg (za_cv Tg Co k) s t
def za_cov (Tg Co Bl : Nat → Int32) : Prop := ∀ s, s < 24 → Bl s = za_mk (za_cv Tg Co 576 s) 24
def za_cstab (Tg Co : Nat → Int32) (k : Nat) : Prop := ∀ s t, s < 24 → t < 24 → za_cv Tg Co (k + 1) s t = za_cv Tg Co k s t
theorem za_fc_iff {Tg : Nat → Int32} {R : Nat → Nat → Bool} {s t : Nat} : za_fc Tg R s t = true ↔ ∀ l, l < 4 → ∀ u, u < 24 → bt (Tg (t * 4 + l)) u = true → ∃ v, v < 24 ∧ bt (Tg (s * 4 + l)) v = true ∧ R v u = true := by
  unfold za_fc
  rw [za_al_iff]
  constructor
  · intro h l hl u hu hb
    have h1 := za_al_iff.mp (h l hl) u hu
    rw [hb] at h1
    simp only [Bool.not_true, Bool.false_or] at h1
    obtain ⟨v, hv, h2⟩ := za_ex_iff.mp h1
    rw [Bool.and_eq_true] at h2
    exact ⟨v, hv, h2.1, h2.2⟩
  · intro h l hl
    refine za_al_iff.mpr (fun u hu => ?_)
    show (!bt (Tg (t * 4 + l)) u || _) = true
    by_cases hb : bt (Tg (t * 4 + l)) u = true
    · rw [hb]
      simp only [Bool.not_true, Bool.false_or]
      obtain ⟨v, hv, h1, h2⟩ := h l hl u hu hb
      exact za_ex_iff.mpr ⟨v, hv, by rw [h1, h2]; rfl⟩
    · have hb : bt (Tg (t * 4 + l)) u = false := by simpa using hb
      rw [hb]
      rfl
theorem za_foll_iff {Tg Co Bl Uc : Nat → Int32} {q s t : Nat} (hsm : za_small Tg) (hR : ∀ s, s < 24 → Bl s = za_mk (za_cv Tg Co q s) 24) (hU : ∀ i, i < 96 → Uc i = za_uo (Tg i) Bl 0 24) (hs : s < 24) (ht : t < 24) : za_foll Tg Uc s t = za_fc Tg (za_cv Tg Co q) s t := by
  have hbit : ∀ l i, l < 4 → i < 24 → (bt (Uc (s * 4 + l)) i = true ↔ ∃ v, v < 24 ∧ bt (Tg (s * 4 + l)) v = true ∧ za_cv Tg Co q v i = true) := by
    intro l i hl hi
    rw [hU _ (by omega), za_uo_bit, za_ex_iff]
    constructor
    · rintro ⟨v, hv, h⟩
      rw [Bool.and_eq_true, Nat.zero_add, hR v hv, za_mk_bit _ 24 (by omega)] at h
      exact ⟨v, hv, h.1, by simpa [hi] using h.2⟩
    · rintro ⟨v, hv, h1, h2⟩
      refine ⟨v, hv, ?_⟩
      rw [Bool.and_eq_true, Nat.zero_add, hR v hv, za_mk_bit _ 24 (by omega)]
      exact ⟨h1, by simp [hi, h2]⟩
  apply za_bool
  rw [za_fc_iff]
  unfold za_foll
  rw [za_al_iff]
  constructor
  · intro h l hl u hu hb
    have e := of_decide_eq_true (h l hl)
    have e2 := congrArg (fun z => bt z u) e
    simp only [b_and, b_xor, b_0, b_m1 u (by omega), hb, Bool.true_and] at e2
    have e3 : bt (Uc (s * 4 + l)) u = true := by simpa using e2
    exact (hbit l u hl hu).mp e3
  · intro h l hl
    refine decide_eq_true (b_ext (fun i hi => ?_))
    rw [b_and, b_xor, b_0, b_m1 i hi]
    rcases Nat.lt_or_ge i 24 with g | g
    · by_cases hb : bt (Tg (t * 4 + l)) i = true
      · rw [(hbit l i hl g).mpr (h l hl i g hb)]
        simp
      · have hb : bt (Tg (t * 4 + l)) i = false := by simpa using hb
        rw [hb, Bool.false_and]
    · rw [hsm _ (by omega) i g, Bool.false_and]
theorem za_cov_0 {Tg Co Bl : Nat → Int32} : ∀ s, s < 24 → za_fl (fun x => za_mk (fun z => decide (Co z = Co x)) 24) Bl 24 s = za_mk (za_cv Tg Co 0 s) 24 := by
  intro s hs
  rw [za_fl_lt hs]
  rfl
theorem za_cb_row {Tg Co Bl Uc : Nat → Int32} {q y : Nat} (hsm : za_small Tg) (hR : ∀ s, s < 24 → Bl s = za_mk (za_cv Tg Co q s) 24) (hy : y < 24) : za_cb Tg Bl Uc y = za_mk (za_cv Tg Co (q + 1) y) 24 := by
  unfold za_cb za_sb
  refine za_mk_congr (fun x hx => ?_)
  rw [hR y hy, za_mk_bit _ 24 (by omega), za_foll_iff hsm hR (fun i hi => za_ua_at hi) hy hx, decide_eq_true hx, Bool.true_and]
  rfl
theorem za_cov_s {Tg Co Bl Uc : Nat → Int32} {q : Nat} (hsm : za_small Tg) (hR : ∀ s, s < 24 → Bl s = za_mk (za_cv Tg Co q s) 24) : ∀ s, s < 24 → za_fl (za_cb Tg Bl Uc) Bl 24 s = za_mk (za_cv Tg Co (q + 1) s) 24 := by
  intro s hs
  rw [za_fl_lt hs, za_cb_row hsm hR hs]
theorem za_cstab_s {Tg Co : Nat → Int32} {k : Nat} (h : za_cstab Tg Co k) : za_cstab Tg Co (k + 1) := by
  intro s t hs ht
  show (za_cv Tg Co (k + 1) s t && za_fc Tg (za_cv Tg Co (k + 1)) s t) = (za_cv Tg Co k s t && za_fc Tg (za_cv Tg Co k) s t)
  have e : za_fc Tg (za_cv Tg Co (k + 1)) s t = za_fc Tg (za_cv Tg Co k) s t := by
    unfold za_fc
    refine za_al_congr (fun l _ => za_al_congr (fun u hu => ?_))
    rw [za_ex_congr (fun v hv => by rw [h v u hv hu])]
  rw [h s t hs ht, e]
theorem za_cstab_le {Tg Co : Nat → Int32} {k j : Nat} (hj : k ≤ j) (h : za_cstab Tg Co k) {s t : Nat} (hs : s < 24) (ht : t < 24) : za_cv Tg Co j s t = za_cv Tg Co k s t := by
  have go : ∀ d, za_cstab Tg Co (k + d) ∧ za_cv Tg Co (k + d) s t = za_cv Tg Co k s t := by
    intro d
    induction d with
    | zero => exact ⟨h, rfl⟩
    | succ d ih => exact ⟨za_cstab_s ih.1, (ih.1 s t hs ht).trans ih.2⟩
  have := (go (j - k)).2
  rw [show k + (j - k) = j by omega] at this
  exact this
theorem za_cstab_of {Tg Co Bl Uc : Nat → Int32} {q : Nat} (hsm : za_small Tg) (hR : ∀ s, s < 24 → Bl s = za_mk (za_cv Tg Co q s) 24) (h : za_ex (za_cd Tg Bl Uc) 24 = false) : za_cstab Tg Co (q + 1) := by
  refine za_cstab_s ?_
  intro s t hs ht
  have h1 : za_cd Tg Bl Uc s = false := by
    cases e : za_cd Tg Bl Uc s with
    | false => rfl
    | true => rw [za_ex_iff.mpr ⟨s, hs, e⟩] at h; cases h
  unfold za_cd at h1
  rw [decide_eq_false_iff_not, Classical.not_not, za_cb_row hsm hR hs, hR s hs] at h1
  exact za_mk_inj h1 ht
theorem za_cov_of {Tg Co Bl : Nat → Int32} {q : Nat} (hR : ∀ s, s < 24 → Bl s = za_mk (za_cv Tg Co q s) 24) (h : za_cstab Tg Co q) (hq : q ≤ 576) : za_cov Tg Co Bl := by
  intro s hs
  rw [hR s hs]
  exact za_mk_congr (fun t ht => (za_cstab_le hq h hs ht).symm)
