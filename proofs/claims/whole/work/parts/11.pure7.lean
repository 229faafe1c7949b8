/-! the reference's state beside the class's: its moves, its breaches round by round -/
def za_rel (Tg : Nat → Int32) (Mv : Nat → Bool) : Prop := ∀ s l t, s < 24 → l < 4 → t < 24 → Mv (96 * s + 24 * l + t) = bt (Tg (s * 4 + l)) t
def za_Mok (Mv : Nat → Bool) (mn w x0 v : Int32) : Bool := (za_isS w && za_isL x0 && za_isS v) && (!Mv (96 * za_clp w + 24 * za_clp x0 + za_clp v) && !decide (mn = nI 120))
def za_MvT (Mv : Nat → Bool) (mn w x0 v : Int32) : Nat → Bool := if za_Mok Mv mn w x0 v = true then za_ub Mv (96 * za_clp w + 24 * za_clp x0 + za_clp v) true else Mv
def za_Mct (Mv : Nat → Bool) (mn w x0 v : Int32) : Int32 := if za_Mok Mv mn w x0 v = true then mn + nI 1 else mn
def za_Dok (Mv : Nat → Bool) (w x0 v : Int32) : Bool := (za_isS w && za_isL x0 && za_isS v) && Mv (96 * za_clp w + 24 * za_clp x0 + za_clp v)
def za_DvT (Mv : Nat → Bool) (w x0 v : Int32) : Nat → Bool := if za_Dok Mv w x0 v = true then za_ub Mv (96 * za_clp w + 24 * za_clp x0 + za_clp v) false else Mv
def za_Dct (Mv : Nat → Bool) (mn w x0 v : Int32) : Int32 := if za_Dok Mv w x0 v = true then mn - nI 1 else mn
def za_fb (f g : Nat → Bool) (i : Nat) : Nat → Bool := fun j => if j < i then f j else g j
theorem za_fb0 (f g : Nat → Bool) : za_fb f g 0 = g := by funext j; simp [za_fb]
theorem za_fbU {f g : Nat → Bool} {i : Nat} {v : Bool} (h : v = f i) : za_fb f g (i + 1) = za_ub (za_fb f g i) i v := by
  funext j
  unfold za_fb za_ub
  by_cases h1 : j = i
  · subst h1; simp [h]
  · by_cases h2 : j < i
    · simp [h1, h2, Nat.lt_succ_of_lt h2]
    · simp [h1, h2, show ¬ j < i + 1 by omega]
def za_vb0 (Mc : Nat → Int32) (q : Nat) : Int32 := if Mc (q / 24) = Mc (q % 24) then nI 1000 else nI 0
/-- what stands for the pair q in the reference's breaches when k rounds have been looked at -/
def za_vb (Tg Co : Nat → Int32) (k q : Nat) : Int32 := if za_ak Tg Co k (q / 24) (q % 24) = true then nI 1000 else nI (za_fi (fun x => za_ak Tg Co x (q / 24) (q % 24)) 24)
def za_ap (Tg Co : Nat → Int32) (k q : Nat) : Bool := za_ak Tg Co k (q / 24) (q % 24) && !za_ak Tg Co (k + 1) (q / 24) (q % 24)
theorem za_vb_0 {Tg Co Mc Br : Nat → Int32} {i : Nat} (hMc : ∀ s, s < 24 → Mc s = Co s) (hi : 576 ≤ i) : ∀ q, q < 576 → za_fl (za_vb0 Mc) Br i q = za_vb Tg Co 0 q := by
  intro q hq
  rw [za_fl_lt (by omega)]
  unfold za_vb0 za_vb
  rw [hMc _ (by omega), hMc _ (by omega)]
  by_cases h : Co (q / 24) = Co (q % 24)
  · have h2 : za_ak Tg Co 0 (q / 24) (q % 24) = true := decide_eq_true h.symm
    rw [if_pos h, if_pos h2]
  · have h2 : za_ak Tg Co 0 (q / 24) (q % 24) = false := decide_eq_false (fun z => h z.symm)
    rw [if_neg h, if_neg (by rw [h2]; decide), za_fi_at (i := 0) (by omega) (fun j hj => absurd hj (Nat.not_lt_zero _)) h2]
theorem za_fi_low {Tg Co : Nat → Int32} {k s t : Nat} (hk : k < 24) (h : za_ak Tg Co k s t = false) : za_fi (fun x => za_ak Tg Co x s t) 24 ≤ k := by
  rcases Nat.lt_or_ge k (za_fi (fun x => za_ak Tg Co x s t) 24) with q | q
  · have := za_fi_lt (p := fun x => za_ak Tg Co x s t) q
    rw [h] at this
    cases this
  · exact q
theorem za_ak24 {Tg Co : Nat → Int32} {k s t : Nat} (hk : 23 ≤ k) (hs : s < 24) (ht : t < 24) : za_ak Tg Co k s t = za_ak Tg Co 23 s t := za_stab_le hk (za_stab23 Tg Co) hs ht
theorem za_lowk {Tg Co : Nat → Int32} {k s t : Nat} (hs : s < 24) (ht : t < 24) (h : za_ak Tg Co k s t = false) : za_fi (fun x => za_ak Tg Co x s t) 24 ≤ k ∧ za_fi (fun x => za_ak Tg Co x s t) 24 < 24 := by
  rcases Nat.lt_or_ge k 24 with q | q
  · have := za_fi_low q h
    exact ⟨this, by omega⟩
  · have h2 : za_ak Tg Co 23 s t = false := by rw [← za_ak24 (show 23 ≤ k by omega) hs ht]; exact h
    have := za_fi_low (show 23 < 24 by omega) h2
    exact ⟨by omega, by omega⟩
/-- the breaches say who is alike for k rounds, whether an entry was looked at in this round or not -/
theorem za_bx {Tg Co Bc : Nat → Int32} {k i : Nat} (hk : k ≤ 24) (h1 : ∀ q, q < i → Bc q = za_vb Tg Co (k + 1) q) (h2 : ∀ q, i ≤ q → q < 576 → Bc q = za_vb Tg Co k q) : ∀ s t, s < 24 → t < 24 → (!decide (Bc (24 * s + t) ≤ nI k)) = za_ak Tg Co k s t := by
  intro s t hs ht
  have e1 : (24 * s + t) / 24 = s := by omega
  have e2 : (24 * s + t) % 24 = t := by omega
  have hv : Bc (24 * s + t) = nI 1000 ∨ ∃ f, Bc (24 * s + t) = nI f ∧ f < 24 ∧ (k < f ↔ za_ak Tg Co k s t = true) := by
    rcases Nat.lt_or_ge (24 * s + t) i with q | q
    · rw [h1 _ q]
      unfold za_vb
      rw [e1, e2]
      by_cases g : za_ak Tg Co (k + 1) s t = true
      · rw [if_pos g]; exact Or.inl rfl
      · rw [if_neg g]
        have g : za_ak Tg Co (k + 1) s t = false := by simpa using g
        obtain ⟨a, b⟩ := za_lowk hs ht g
        refine Or.inr ⟨_, rfl, b, fun z => za_fi_lt (p := fun x => za_ak Tg Co x s t) z, fun z => ?_⟩
        rcases Nat.lt_or_ge k (za_fi (fun x => za_ak Tg Co x s t) 24) with y | y
        · exact y
        · have f := za_fi_f (p := fun x => za_ak Tg Co x s t) b
          rw [za_ak_le y z] at f
          cases f
    · rw [h2 _ q (by omega)]
      unfold za_vb
      rw [e1, e2]
      by_cases g : za_ak Tg Co k s t = true
      · rw [if_pos g]; exact Or.inl rfl
      · rw [if_neg g]
        have g' : za_ak Tg Co k s t = false := by simpa using g
        obtain ⟨a, b⟩ := za_lowk hs ht g'
        exact Or.inr ⟨_, rfl, b, fun z => by omega, fun z => absurd z g⟩
  rcases hv with h | ⟨f, h, hf, hq⟩
  · rw [h, decide_eq_false (nI_ge (by omega) (by omega))]
    rcases Nat.lt_or_ge (24 * s + t) i with q | q
    · have g := h1 _ q
      rw [h] at g
      unfold za_vb at g
      rw [e1, e2] at g
      by_cases z : za_ak Tg Co (k + 1) s t = true
      · rw [(za_ak_s.mp z).1]; rfl
      · rw [if_neg z] at g
        have z' : za_ak Tg Co (k + 1) s t = false := by simpa using z
        have := (za_lowk hs ht z').2
        have := (nI_eq (by omega) (by omega)).mp g
        omega
    · have g := h2 _ q (by omega)
      rw [h] at g
      unfold za_vb at g
      rw [e1, e2] at g
      by_cases z : za_ak Tg Co k s t = true
      · rw [z]; rfl
      · rw [if_neg z] at g
        have z' : za_ak Tg Co k s t = false := by simpa using z
        have := (za_lowk hs ht z').2
        have := (nI_eq (by omega) (by omega)).mp g
        omega
  · rw [h]
    by_cases z : za_ak Tg Co k s t = true
    · rw [z, decide_eq_false (nI_ge (hq.mpr z) (by omega))]; rfl
    · have y : ¬ k < f := fun y => z (hq.mp y)
      rw [decide_eq_true (nI_le (by omega) (by omega))]
      simp [z]
theorem za_mans_ex {Tg : Nat → Int32} {Mv : Nat → Bool} {Bc : Nat → Int32} {R : Nat → Nat → Bool} {t l u k : Nat} (hMv : za_rel Tg Mv) (hB : ∀ s t, s < 24 → t < 24 → (!decide (Bc (24 * s + t) ≤ nI k)) = R s t) (ht : t < 24) (hl : l < 4) (hu : u < 24) : za_mans Mv Bc t l u k = za_ex (fun v => bt (Tg (t * 4 + l)) v && R u v) 24 := by
  unfold za_mans
  refine za_ex_congr (fun x hx => ?_)
  rw [hMv t l x ht hl hx, hB u x hu hx]
theorem za_al2 {p : Nat → Bool} : za_al p 96 = za_al (fun l => za_al (fun u => p (24 * l + u)) 24) 4 := by
  apply za_bool
  rw [za_al_iff, za_al_iff]
  constructor
  · intro h l hl
    exact za_al_iff.mpr (fun u hu => h _ (by omega))
  · intro h j hj
    have := za_al_iff.mp (h (j / 24) (by omega)) (j % 24) (by omega)
    have e : 24 * (j / 24) + j % 24 = j := by omega
    rw [e] at this
    exact this
theorem za_mfol_fw {Tg : Nat → Int32} {Mv : Nat → Bool} {Bc : Nat → Int32} {R : Nat → Nat → Bool} {s t k : Nat} (hMv : za_rel Tg Mv) (hB : ∀ s t, s < 24 → t < 24 → (!decide (Bc (24 * s + t) ≤ nI k)) = R s t) (hs : s < 24) (ht : t < 24) : za_mfol Mv Bc s t k = za_fw Tg R s t := by
  unfold za_mfol za_fw
  rw [za_al2]
  refine za_al_congr (fun l hl => za_al_congr (fun u hu => ?_))
  rw [show (24 * l + u) / 24 = l by omega, show (24 * l + u) % 24 = u by omega, show 96 * s + (24 * l + u) = 96 * s + 24 * l + u by omega, hMv s l u hs hl hu, za_mans_ex hMv hB ht hl hu]
theorem za_ap1 {Tg Co Bc : Nat → Int32} {k q : Nat} (h : Bc q = za_vb Tg Co k q) (h1 : ¬ Bc q = nI 1000) : za_ap Tg Co k q = false := by
  unfold za_ap
  cases e : za_ak Tg Co k (q / 24) (q % 24) with
  | false => rfl
  | true =>
    unfold za_vb at h
    rw [if_pos e] at h
    exact absurd h h1
theorem za_apk {Tg Co Bc : Nat → Int32} {k q : Nat} (hq : q < 576) (h : Bc q = za_vb Tg Co k q) (h1 : Bc q = nI 1000) : za_ak Tg Co k (q / 24) (q % 24) = true := by
  cases e : za_ak Tg Co k (q / 24) (q % 24) with
  | true => rfl
  | false =>
    unfold za_vb at h
    rw [if_neg (by rw [e]; decide), h1] at h
    have := (za_lowk (show q / 24 < 24 by omega) (show q % 24 < 24 by omega) e).2
    have := (nI_eq (by omega) (by omega)).mp h
    omega
theorem za_ap2 {Tg Co Bc : Nat → Int32} {k q : Nat} (hq : q < 576) (h : Bc q = za_vb Tg Co k q) (h1 : Bc q = nI 1000) (h2 : za_fw Tg (za_ak Tg Co k) (q / 24) (q % 24) = false) : za_ap Tg Co k q = true := by
  unfold za_ap
  rw [za_apk hq h h1]
  show (!(za_ak Tg Co k (q / 24) (q % 24) && (za_fw Tg (za_ak Tg Co k) (q / 24) (q % 24) && za_fw Tg (za_ak Tg Co k) (q % 24) (q / 24)))) = true
  rw [h2, Bool.false_and, Bool.and_false]
  rfl
theorem za_ap3 {Tg Co Bc : Nat → Int32} {k q : Nat} (hq : q < 576) (h : Bc q = za_vb Tg Co k q) (h1 : Bc q = nI 1000) (h2 : za_fw Tg (za_ak Tg Co k) (q % 24) (q / 24) = false) : za_ap Tg Co k q = true := by
  unfold za_ap
  rw [za_apk hq h h1]
  show (!(za_ak Tg Co k (q / 24) (q % 24) && (za_fw Tg (za_ak Tg Co k) (q / 24) (q % 24) && za_fw Tg (za_ak Tg Co k) (q % 24) (q / 24)))) = true
  rw [h2, Bool.and_false, Bool.and_false]
  rfl
theorem za_ap4 {Tg Co Bc : Nat → Int32} {k q : Nat} (hq : q < 576) (h : Bc q = za_vb Tg Co k q) (h1 : Bc q = nI 1000) (h2 : za_fw Tg (za_ak Tg Co k) (q / 24) (q % 24) = true) (h3 : za_fw Tg (za_ak Tg Co k) (q % 24) (q / 24) = true) : za_ap Tg Co k q = false := by
  unfold za_ap
  have e := za_apk hq h h1
  rw [za_ak_s.mpr ⟨e, h2, h3⟩]
  simp
theorem za_ap_lt {Tg Co : Nat → Int32} {k q : Nat} (hq : q < 576) (h : za_ap Tg Co k q = true) : k + 1 < 24 := by
  rcases Nat.lt_or_ge (k + 1) 24 with g | g
  · exact g
  · unfold za_ap at h
    rw [za_ak24 (show 23 ≤ k by omega) (by omega) (by omega), za_ak24 (show 23 ≤ k + 1 by omega) (by omega) (by omega)] at h
    cases z : za_ak Tg Co 23 (q / 24) (q % 24) <;> rw [z] at h <;> cases h
theorem za_vbT {Tg Co : Nat → Int32} {k q : Nat} (hq : q < 576) (h : za_ap Tg Co k q = true) : nI (k + 1) = za_vb Tg Co (k + 1) q := by
  have hk := za_ap_lt hq h
  unfold za_ap at h
  rw [Bool.and_eq_true, Bool.not_eq_true'] at h
  unfold za_vb
  rw [if_neg (by rw [h.2]; decide), za_fi_at (i := k + 1) hk (fun j hj => za_ak_le (show j ≤ k by omega) h.1) h.2]
theorem za_vbF {Tg Co : Nat → Int32} {k q : Nat} (h : za_ap Tg Co k q = false) : za_vb Tg Co k q = za_vb Tg Co (k + 1) q := by
  unfold za_ap at h
  unfold za_vb
  cases e : za_ak Tg Co k (q / 24) (q % 24) with
  | false =>
    have e2 : za_ak Tg Co (k + 1) (q / 24) (q % 24) = false := by
      cases z : za_ak Tg Co (k + 1) (q / 24) (q % 24) with
      | false => rfl
      | true => rw [(za_ak_s.mp z).1] at e; cases e
    rw [e2]
  | true =>
    rw [e, Bool.true_and, Bool.not_eq_false'] at h
    rw [h]
theorem za_vbS {Tg Co Bc : Nat → Int32} {k i : Nat} {x : Int32} (h1 : ∀ q, q < i → Bc q = za_vb Tg Co (k + 1) q) (hx : x = za_vb Tg Co (k + 1) i) : ∀ q, q < i + 1 → upd Bc i x q = za_vb Tg Co (k + 1) q := by
  intro q hq
  unfold upd
  by_cases e : q = i
  · rw [if_pos e, hx, e]
  · rw [if_neg e]; exact h1 q (by omega)
theorem za_vbK {Tg Co Bc : Nat → Int32} {k i : Nat} {x : Int32} (h2 : ∀ q, i ≤ q → q < 576 → Bc q = za_vb Tg Co k q) : ∀ q, i + 1 ≤ q → q < 576 → upd Bc i x q = za_vb Tg Co k q := by
  intro q h3 h4
  unfold upd
  rw [if_neg (by omega)]
  exact h2 q (by omega) h4
theorem za_stab_ap {Tg Co : Nat → Int32} {k : Nat} (h : za_ex (za_ap Tg Co k) 576 = false) : za_stab Tg Co (k + 1) := by
  refine za_stab_s ?_
  intro s t hs ht
  have h1 : za_ap Tg Co k (24 * s + t) = false := by
    cases e : za_ap Tg Co k (24 * s + t) with
    | false => rfl
    | true => rw [za_ex_iff.mpr ⟨24 * s + t, by omega, e⟩] at h; cases h
  unfold za_ap at h1
  rw [show (24 * s + t) / 24 = s by omega, show (24 * s + t) % 24 = t by omega] at h1
  cases z : za_ak Tg Co k s t with
  | false =>
    cases y : za_ak Tg Co (k + 1) s t with
    | false => rfl
    | true => rw [(za_ak_s.mp y).1] at z; cases z
  | true => rw [z, Bool.true_and, Bool.not_eq_false'] at h1; exact h1
theorem za_ap_none {Tg Co : Nat → Int32} {k : Nat} (hk : 23 ≤ k) : za_ex (za_ap Tg Co k) 576 = false := by
  cases e : za_ex (za_ap Tg Co k) 576 with
  | false => rfl
  | true =>
    obtain ⟨q, hq, h⟩ := za_ex_iff.mp e
    have := za_ap_lt hq h
    omega
/-- the breaches as the reference has them in the end -/
def za_brs (Tg Co Br : Nat → Int32) : Prop := ∀ q, q < 576 → Br q = za_vb Tg Co 23 q
theorem za_brs_of {Tg Co Bq : Nat → Int32} {k : Nat} (hB : ∀ q, q < 576 → Bq q = za_vb Tg Co k q) (h : za_stab Tg Co k) : za_brs Tg Co Bq := by
  intro q hq
  rw [hB q hq]
  unfold za_vb
  have e : za_ak Tg Co k (q / 24) (q % 24) = za_ak Tg Co 23 (q / 24) (q % 24) := by
    rcases Nat.le_total k 23 with g | g
    · exact (za_stab_le g h (by omega) (by omega)).symm
    · exact za_ak24 g (by omega) (by omega)
  rw [e]
