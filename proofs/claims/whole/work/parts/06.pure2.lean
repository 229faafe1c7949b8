/-! alike for k rounds: an equivalence of the 24 states; sets and unions; it is settled after 23 rounds -/
theorem za_mk_bit (p : Nat → Bool) (n : Nat) (hn : n ≤ 32) (i : Nat) : bt (za_mk p n) i = (decide (i < n) && p i) := by
  rcases Nat.lt_or_ge i 32 with hi | hi
  · induction n with
    | zero =>
      show bt (0 : Int32) i = _
      rw [b_0]
      simp
    | succ n ih =>
      have ih := ih (by omega)
      rw [za_mk]
      by_cases h : p n = true
      · rw [if_pos h, b_or, ih, b_shl n (by omega) (nI 1) hi, za_1b (i - n) (by omega)]
        by_cases q : i = n
        · subst q
          simp [h]
        · by_cases q2 : i < n
          · simp [q2, show ¬ n ≤ i by omega, show i < n + 1 by omega]
          · simp [q2, show n ≤ i by omega, show ¬ i < n + 1 by omega, show ¬ i - n = 0 by omega]
      · rw [if_neg h, ih]
        by_cases q : i = n
        · subst q
          simp [h]
        · by_cases q2 : i < n
          · simp [q2, show i < n + 1 by omega]
          · simp [q2, show ¬ i < n + 1 by omega]
  · rw [b_big hi, decide_eq_false (by omega)]
    rfl
theorem za_mk_congr {p q : Nat → Bool} {n : Nat} (h : ∀ i, i < n → p i = q i) : za_mk p n = za_mk q n := by
  induction n with
  | zero => rfl
  | succ n ih => rw [za_mk, za_mk, ih (fun i hi => h i (by omega)), h n (by omega)]
theorem za_mk_inj {p q : Nat → Bool} (h : za_mk p 24 = za_mk q 24) {i : Nat} (hi : i < 24) : p i = q i := by
  have e := congrArg (fun z => bt z i) h
  simp only [za_mk_bit _ 24 (by omega)] at e
  simpa [hi] using e
theorem za_ex_congr {p q : Nat → Bool} {n : Nat} (h : ∀ i, i < n → p i = q i) : za_ex p n = za_ex q n := by
  induction n with
  | zero => rfl
  | succ n ih => rw [za_ex, za_ex, ih (fun i hi => h i (by omega)), h n (by omega)]
theorem za_al_congr {p q : Nat → Bool} {n : Nat} (h : ∀ i, i < n → p i = q i) : za_al p n = za_al q n := by
  induction n with
  | zero => rfl
  | succ n ih => rw [za_al, za_al, ih (fun i hi => h i (by omega)), h n (by omega)]
theorem za_cn_congr {p q : Nat → Bool} {n : Nat} (h : ∀ i, i < n → p i = q i) : za_cn p n = za_cn q n := by
  induction n with
  | zero => rfl
  | succ n ih => rw [za_cn, za_cn, ih (fun i hi => h i (by omega)), h n (by omega)]
theorem za_fi_congr {p q : Nat → Bool} {n : Nat} (h : ∀ i, i < n → p i = q i) : za_fi p n = za_fi q n := by
  induction n with
  | zero => rfl
  | succ n ih => rw [za_fi, za_fi, ih (fun i hi => h i (by omega)), h n (by omega)]
theorem za_bool {a b : Bool} (h : a = true ↔ b = true) : a = b := by
  cases a <;> cases b <;> simp_all
theorem za_uo_bit (w : Int32) (Rw : Nat → Int32) (f n i : Nat) : bt (za_uo w Rw f n) i = za_ex (fun v => bt w v && bt (Rw (f + v)) i) n := by
  induction n with
  | zero => exact b_0 i
  | succ n ih =>
    rw [za_uo, za_ex, ← ih]
    by_cases h : bt w n = true
    · rw [if_pos h, b_or, h, Bool.true_and]
    · have h' : bt w n = false := by simpa using h
      rw [if_neg h, h', Bool.false_and, Bool.or_false]
/-- each move of s has its match among the moves of t -/
def za_fw (Tg : Nat → Int32) (R : Nat → Nat → Bool) (s t : Nat) : Bool := za_al (fun l => za_al (fun u => !bt (Tg (s * 4 + l)) u || za_ex (fun v => bt (Tg (t * 4 + l)) v && R u v) 24) 24) 4
theorem za_fw_iff {Tg : Nat → Int32} {R : Nat → Nat → Bool} {s t : Nat} : za_fw Tg R s t = true ↔ ∀ l, l < 4 → ∀ u, u < 24 → bt (Tg (s * 4 + l)) u = true → ∃ v, v < 24 ∧ bt (Tg (t * 4 + l)) v = true ∧ R u v = true := by
  unfold za_fw
  rw [za_al_iff]
  constructor
  · intro h l hl u hu hb
    have h1 := za_al_iff.mp (h l hl) u hu
    rw [hb] at h1
    simp only [Bool.not_true, Bool.false_or] at h1
    obtain ⟨v, hv, h2⟩ := za_ex_iff.mp h1
    rw [Bool.and_eq_true] at h2
    exact ⟨v, hv, h2.1, h2.2⟩
  · intro h l hl
    refine za_al_iff.mpr (fun u hu => ?_)
    show (!bt (Tg (s * 4 + l)) u || _) = true
    by_cases hb : bt (Tg (s * 4 + l)) u = true
    · rw [hb]
      simp only [Bool.not_true, Bool.false_or]
      obtain ⟨v, hv, h1, h2⟩ := h l hl u hu hb
      exact za_ex_iff.mpr ⟨v, hv, by rw [h1, h2]; rfl⟩
    · have hb : bt (Tg (s * 4 + l)) u = false := by simpa using hb
      rw [hb]
      rfl
/-- alike for k rounds -/
def za_ak (Tg Co : Nat → Int32) : Nat → Nat → Nat → Bool
  | 0 => fun s t => decide (Co t = Co s)
  | k + 1 => fun s t => za_ak Tg Co k s t && (za_fw Tg (za_ak Tg Co k) s t && za_fw Tg (za_ak Tg Co k) t s)
theorem za_ak_s {Tg Co : Nat → Int32} {k s t : Nat} : za_ak Tg Co (k + 1) s t = true ↔ za_ak Tg Co k s t = true ∧ za_fw Tg (za_ak Tg Co k) s t = true ∧ za_fw Tg (za_ak Tg Co k) t s = true := by
  show (za_ak Tg Co k s t && (za_fw Tg (za_ak Tg Co k) s t && za_fw Tg (za_ak Tg Co k) t s)) = true ↔ _
  rw [Bool.and_eq_true, Bool.and_eq_true]
theorem za_ak_refl {Tg Co : Nat → Int32} {k s : Nat} (hs : s < 24) : za_ak Tg Co k s s = true := by
  induction k generalizing s with
  | zero => show decide (Co s = Co s) = true; simp
  | succ k ih =>
    have h : za_fw Tg (za_ak Tg Co k) s s = true := za_fw_iff.mpr (fun l hl u hu hb => ⟨u, hu, hb, ih hu⟩)
    exact za_ak_s.mpr ⟨ih hs, h, h⟩
theorem za_ak_symm {Tg Co : Nat → Int32} {k s t : Nat} : za_ak Tg Co k s t = za_ak Tg Co k t s := by
  induction k generalizing s t with
  | zero =>
    show decide (Co t = Co s) = decide (Co s = Co t)
    by_cases h : Co t = Co s
    · simp [h]
    · have h2 : ¬ Co s = Co t := fun q => h q.symm
      simp [h, h2]
  | succ k ih =>
    show (za_ak Tg Co k s t && (za_fw Tg (za_ak Tg Co k) s t && za_fw Tg (za_ak Tg Co k) t s)) = (za_ak Tg Co k t s && (za_fw Tg (za_ak Tg Co k) t s && za_fw Tg (za_ak Tg Co k) s t))
    rw [ih, Bool.and_comm (za_fw Tg (za_ak Tg Co k) s t)]
theorem za_ak_trans {Tg Co : Nat → Int32} {k s t w : Nat} (hs : s < 24) (ht : t < 24) (hw : w < 24) (h1 : za_ak Tg Co k s t = true) (h2 : za_ak Tg Co k t w = true) : za_ak Tg Co k s w = true := by
  induction k generalizing s t w with
  | zero =>
    have e1 : Co t = Co s := of_decide_eq_true h1
    have e2 : Co w = Co t := of_decide_eq_true h2
    exact decide_eq_true (e2.trans e1)
  | succ k ih =>
    obtain ⟨a1, b1, c1⟩ := za_ak_s.mp h1
    obtain ⟨a2, b2, c2⟩ := za_ak_s.mp h2
    refine za_ak_s.mpr ⟨ih hs ht hw a1 a2, za_fw_iff.mpr (fun l hl u hu hb => ?_), za_fw_iff.mpr (fun l hl u hu hb => ?_)⟩
    · obtain ⟨v, hv, g1, g2⟩ := za_fw_iff.mp b1 l hl u hu hb
      obtain ⟨x, hx, g3, g4⟩ := za_fw_iff.mp b2 l hl v hv g1
      exact ⟨x, hx, g3, ih hu hv hx g2 g4⟩
    · obtain ⟨v, hv, g1, g2⟩ := za_fw_iff.mp c2 l hl u hu hb
      obtain ⟨x, hx, g3, g4⟩ := za_fw_iff.mp c1 l hl v hv g1
      exact ⟨x, hx, g3, ih hu hv hx g2 g4⟩
theorem za_ak_le {Tg Co : Nat → Int32} {k j s t : Nat} (hj : j ≤ k) (h : za_ak Tg Co k s t = true) : za_ak Tg Co j s t = true := by
  induction k with
  | zero => rw [show j = 0 by omega]; exact h
  | succ k ih =>
    by_cases q : j = k + 1
    · rw [q]; exact h
    · exact ih (by omega) (za_ak_s.mp h).1
/-- the rows of a round, as numbers -/
def za_row (Tg Co Rw : Nat → Int32) (k : Nat) : Prop := ∀ s, s < 24 → Rw (k * 24 + s) = za_mk (za_ak Tg Co k s) 24
theorem za_mv_iff {Tg Co Rw Un : Nat → Int32} {k s t : Nat} (hR : za_row Tg Co Rw k) (hU : ∀ i, i < 96 → Un i = za_uo (Tg i) Rw (k * 24) 24) (hs : s < 24) (ht : t < 24) : za_mvA Un s t = (za_fw Tg (za_ak Tg Co k) s t && za_fw Tg (za_ak Tg Co k) t s) := by
  have hbit : ∀ x l i, x < 24 → l < 4 → i < 24 → (bt (Un (x * 4 + l)) i = true ↔ ∃ v, v < 24 ∧ bt (Tg (x * 4 + l)) v = true ∧ za_ak Tg Co k v i = true) := by
    intro x l i hx hl hi
    rw [hU _ (by omega), za_uo_bit, za_ex_iff]
    constructor
    · rintro ⟨v, hv, h⟩
      rw [Bool.and_eq_true, hR v hv, za_mk_bit _ 24 (by omega)] at h
      exact ⟨v, hv, h.1, by simpa [hi] using h.2⟩
    · rintro ⟨v, hv, h1, h2⟩
      refine ⟨v, hv, ?_⟩
      rw [Bool.and_eq_true, hR v hv, za_mk_bit _ 24 (by omega)]
      exact ⟨h1, by simp [hi, h2]⟩
  have hbig : ∀ x l i, x < 24 → l < 4 → 24 ≤ i → bt (Un (x * 4 + l)) i = false := by
    intro x l i hx hl hi
    rw [hU _ (by omega), za_uo_bit]
    cases e : za_ex (fun v => bt (Tg (x * 4 + l)) v && bt (Rw (k * 24 + v)) i) 24 with
    | false => rfl
    | true =>
      obtain ⟨v, hv, h⟩ := za_ex_iff.mp e
      rw [Bool.and_eq_true, hR v hv, za_mk_bit _ 24 (by omega)] at h
      have h2 := h.2
      rw [decide_eq_false (by omega)] at h2
      exact absurd h2 (by simp)
  apply za_bool
  rw [Bool.and_eq_true]
  unfold za_mvA
  rw [za_al_iff]
  constructor
  · intro h
    have go : ∀ a b, a < 24 → b < 24 → (∀ l, l < 4 → Un (a * 4 + l) = Un (b * 4 + l)) → za_fw Tg (za_ak Tg Co k) a b = true := by
      intro a b ha hb hE
      refine za_fw_iff.mpr (fun l hl u hu hm => ?_)
      have h1 := (hbit a l u ha hl hu).mpr ⟨u, hu, hm, za_ak_refl hu⟩
      rw [hE l hl] at h1
      obtain ⟨v, hv, h2, h3⟩ := (hbit b l u hb hl hu).mp h1
      exact ⟨v, hv, h2, by rw [za_ak_symm]; exact h3⟩
    exact ⟨go s t hs ht (fun l hl => of_decide_eq_true (h l hl)), go t s ht hs (fun l hl => (of_decide_eq_true (h l hl)).symm)⟩
  · rintro ⟨h1, h2⟩ l hl
    refine decide_eq_true (b_ext (fun i _ => ?_))
    rcases Nat.lt_or_ge i 24 with hi | hi
    · have go : ∀ a b, a < 24 → b < 24 → za_fw Tg (za_ak Tg Co k) a b = true → bt (Un (a * 4 + l)) i = true → bt (Un (b * 4 + l)) i = true := by
        intro a b ha hb hF hm
        obtain ⟨v, hv, g1, g2⟩ := (hbit a l i ha hl hi).mp hm
        obtain ⟨x, hx, g3, g4⟩ := za_fw_iff.mp hF l hl v hv g1
        exact (hbit b l i hb hl hi).mpr ⟨x, hx, g3, za_ak_trans hx hv hi (by rw [za_ak_symm]; exact g4) g2⟩
      exact za_bool ⟨go s t hs ht h1, go t s ht hs h2⟩
    · rw [hbig s l i hs hl hi, hbig t l i ht hl hi]
/-- settled from round k on -/
def za_stab (Tg Co : Nat → Int32) (k : Nat) : Prop := ∀ s t, s < 24 → t < 24 → za_ak Tg Co (k + 1) s t = za_ak Tg Co k s t
theorem za_fw_congr {Tg : Nat → Int32} {R R' : Nat → Nat → Bool} {s t : Nat} (h : ∀ u v, u < 24 → v < 24 → R u v = R' u v) : za_fw Tg R s t = za_fw Tg R' s t := by
  unfold za_fw
  refine za_al_congr (fun l _ => za_al_congr (fun u hu => ?_))
  rw [za_ex_congr (fun v hv => by rw [h u v hu hv])]
theorem za_stab_s {Tg Co : Nat → Int32} {k : Nat} (h : za_stab Tg Co k) : za_stab Tg Co (k + 1) := by
  intro s t hs ht
  show (za_ak Tg Co (k + 1) s t && (za_fw Tg (za_ak Tg Co (k + 1)) s t && za_fw Tg (za_ak Tg Co (k + 1)) t s)) = (za_ak Tg Co k s t && (za_fw Tg (za_ak Tg Co k) s t && za_fw Tg (za_ak Tg Co k) t s))
  rw [h s t hs ht, za_fw_congr h, za_fw_congr (s := t) (t := s) h]
theorem za_stab_le {Tg Co : Nat → Int32} {k j : Nat} (hj : k ≤ j) (h : za_stab Tg Co k) {s t : Nat} (hs : s < 24) (ht : t < 24) : za_ak Tg Co j s t = za_ak Tg Co k s t := by
  have go : ∀ d, za_stab Tg Co (k + d) ∧ za_ak Tg Co (k + d) s t = za_ak Tg Co k s t := by
    intro d
    induction d with
    | zero => exact ⟨h, rfl⟩
    | succ d ih => exact ⟨za_stab_s ih.1, (ih.1 s t hs ht).trans ih.2⟩
  have := (go (j - k)).2
  rw [show k + (j - k) = j by omega] at this
  exact this
theorem za_cn_le {p : Nat → Bool} (n : Nat) : za_cn p n ≤ n := by
  induction n with
  | zero => exact Nat.le_refl _
  | succ n ih => rw [za_cn]; split <;> omega
theorem za_cn_mono {p q : Nat → Bool} {n : Nat} (h : ∀ i, i < n → p i = true → q i = true) : za_cn p n ≤ za_cn q n := by
  induction n with
  | zero => exact Nat.le_refl _
  | succ n ih =>
    have ih := ih (fun i hi => h i (by omega))
    rw [za_cn, za_cn]
    by_cases h1 : p n = true
    · rw [if_pos h1, if_pos (h n (by omega) h1)]; omega
    · rw [if_neg h1]; split <;> omega
theorem za_cn_lt {p q : Nat → Bool} {n j : Nat} (h : ∀ i, i < n → p i = true → q i = true) (hj : j < n) (h1 : p j = false) (h2 : q j = true) : za_cn p n < za_cn q n := by
  induction n with
  | zero => omega
  | succ n ih =>
    rw [za_cn, za_cn]
    by_cases e : j = n
    · subst e
      rw [if_neg (by rw [h1]; decide), if_pos h2]
      have := za_cn_mono (p := p) (q := q) (n := j) (fun i hi => h i (by omega))
      omega
    · have ih := ih (fun i hi => h i (by omega)) (by omega)
      by_cases h3 : p n = true
      · rw [if_pos h3, if_pos (h n (by omega) h3)]; omega
      · rw [if_neg h3]; split <;> omega
theorem za_cn_full {p : Nat → Bool} {n : Nat} (h : n ≤ za_cn p n) : ∀ i, i < n → p i = true := by
  induction n with
  | zero => intro i hi; omega
  | succ n ih =>
    have hle := za_cn_le (p := p) n
    rw [za_cn] at h
    by_cases h1 : p n = true
    · rw [if_pos h1] at h
      intro i hi
      by_cases e : i = n
      · rw [e]; exact h1
      · exact ih (by omega) i (by omega)
    · rw [if_neg h1] at h; omega
/-- no lesser state is alike to s for k rounds -/
def za_rep (Tg Co : Nat → Int32) (k s : Nat) : Bool := za_al (fun t => !za_ak Tg Co k s t) s
theorem za_rep_iff {Tg Co : Nat → Int32} {k s : Nat} : za_rep Tg Co k s = true ↔ ∀ t, t < s → za_ak Tg Co k s t = false := by
  unfold za_rep
  rw [za_al_iff]
  simp
theorem za_rep_of {Tg Co : Nat → Int32} {k : Nat} : ∀ s, s < 24 → ∃ r, r ≤ s ∧ za_rep Tg Co k r = true ∧ za_ak Tg Co k s r = true := by
  intro s
  induction s using Nat.strongRecOn with
  | ind s ih =>
    intro hs
    by_cases h : za_rep Tg Co k s = true
    · exact ⟨s, Nat.le_refl _, h, za_ak_refl hs⟩
    · rw [za_rep_iff] at h
      have h2 : ∃ t, t < s ∧ za_ak Tg Co k s t = true := by
        apply Classical.byContradiction
        intro q
        refine h (fun t ht => ?_)
        cases e : za_ak Tg Co k s t with
        | false => rfl
        | true => exact absurd ⟨t, ht, e⟩ q
      obtain ⟨t, ht, h3⟩ := h2
      obtain ⟨r, hr, g1, g2⟩ := ih t ht (by omega)
      exact ⟨r, by omega, g1, za_ak_trans hs (by omega) (by omega) h3 g2⟩
theorem za_rep_stab {Tg Co : Nat → Int32} {k : Nat} (h : ∀ s, s < 24 → za_rep Tg Co (k + 1) s = true → za_rep Tg Co k s = true) : za_stab Tg Co k := by
  intro s t hs ht
  apply za_bool
  refine ⟨fun q => (za_ak_s.mp q).1, fun q => ?_⟩
  obtain ⟨r1, l1, a1, b1⟩ := za_rep_of (Tg := Tg) (Co := Co) (k := k + 1) s hs
  obtain ⟨r2, l2, a2, b2⟩ := za_rep_of (Tg := Tg) (Co := Co) (k := k + 1) t ht
  have c1 : za_ak Tg Co k r1 s = true := by rw [za_ak_symm]; exact (za_ak_s.mp b1).1
  have c2 := (za_ak_s.mp b2).1
  have c3 : za_ak Tg Co k r1 r2 = true := za_ak_trans (by omega) ht (by omega) (za_ak_trans (by omega) hs ht c1 q) c2
  have e : r1 = r2 := by
    rcases Nat.lt_trichotomy r1 r2 with g | g | g
    · have := za_rep_iff.mp (h r2 (by omega) a2) r1 g
      rw [za_ak_symm, c3] at this
      cases this
    · exact g
    · have := za_rep_iff.mp (h r1 (by omega) a1) r2 g
      rw [c3] at this
      cases this
  subst e
  exact za_ak_trans hs (by omega) ht b1 (by rw [za_ak_symm]; exact b2)
theorem za_rep_up {Tg Co : Nat → Int32} {k s : Nat} (h : za_rep Tg Co k s = true) : za_rep Tg Co (k + 1) s = true := by
  refine za_rep_iff.mpr (fun t ht => ?_)
  cases e : za_ak Tg Co (k + 1) s t with
  | false => rfl
  | true =>
    have := za_rep_iff.mp h t ht
    rw [(za_ak_s.mp e).1] at this
    cases this
theorem za_grow (Tg Co : Nat → Int32) (k : Nat) : za_stab Tg Co k ∨ k + 1 ≤ za_cn (za_rep Tg Co k) 24 := by
  induction k with
  | zero =>
    refine Or.inr ?_
    have h0 : za_rep Tg Co 0 0 = true := rfl
    have : za_cn (fun _ => false) 24 < za_cn (za_rep Tg Co 0) 24 := za_cn_lt (j := 0) (fun i _ h => by cases h) (by omega) rfl h0
    omega
  | succ k ih =>
    by_cases hs : za_stab Tg Co k
    · exact Or.inl (za_stab_s hs)
    · refine Or.inr ?_
      have ih := ih.resolve_left hs
      have h2 : ∃ s, s < 24 ∧ za_rep Tg Co (k + 1) s = true ∧ za_rep Tg Co k s = false := by
        apply Classical.byContradiction
        intro q
        refine hs (za_rep_stab (fun s h24 h => ?_))
        cases e : za_rep Tg Co k s with
        | true => rfl
        | false => exact absurd ⟨s, h24, h, e⟩ q
      obtain ⟨s, h24, g1, g2⟩ := h2
      have := za_cn_lt (n := 24) (p := za_rep Tg Co k) (q := za_rep Tg Co (k + 1)) (fun i _ h => za_rep_up h) h24 g2 g1
      omega
theorem za_stab23 (Tg Co : Nat → Int32) : za_stab Tg Co 23 := by
  rcases za_grow Tg Co 23 with h | h
  · exact h
  · have hall := za_cn_full h
    have hne : ∀ s t, s < 24 → t < s → za_ak Tg Co 23 s t = false := fun s t hs ht => za_rep_iff.mp (hall s hs) t ht
    intro s t hs ht
    apply za_bool
    refine ⟨fun q => (za_ak_s.mp q).1, fun q => ?_⟩
    rcases Nat.lt_trichotomy s t with g | g | g
    · rw [za_ak_symm, hne t s ht g] at q; cases q
    · subst g; exact za_ak_refl hs
    · rw [hne s t hs g] at q; cases q
