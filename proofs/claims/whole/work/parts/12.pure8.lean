/-! covers: settled after 576 rounds at the latest; the reference's rows -/
theorem za_cv_s {Tg Co : Nat → Int32} {k s t : Nat} : za_cv Tg Co (k + 1) s t = true ↔ za_cv Tg Co k s t = true ∧ za_fc Tg (za_cv Tg Co k) s t = true := by
  show (za_cv Tg Co k s t && za_fc Tg (za_cv Tg Co k) s t) = true ↔ _
  rw [Bool.and_eq_true]
theorem za_cgrow (Tg Co : Nat → Int32) (k : Nat) : za_cstab Tg Co k ∨ za_cn (fun q => za_cv Tg Co k (q / 24) (q % 24)) 576 + k ≤ 576 := by
  induction k with
  | zero =>
    have := za_cn_le (p := fun q => za_cv Tg Co 0 (q / 24) (q % 24)) 576
    exact Or.inr (by omega)
  | succ k ih =>
    by_cases hs : za_cstab Tg Co k
    · exact Or.inl (za_cstab_s hs)
    · refine Or.inr ?_
      have ih := ih.resolve_left hs
      have h2 : ∃ q, q < 576 ∧ za_cv Tg Co (k + 1) (q / 24) (q % 24) = false ∧ za_cv Tg Co k (q / 24) (q % 24) = true := by
        apply Classical.byContradiction
        intro z
        refine hs (fun s t h1 h3 => ?_)
        cases e : za_cv Tg Co (k + 1) s t with
        | true => rw [(za_cv_s.mp e).1]
        | false =>
          cases e2 : za_cv Tg Co k s t with
          | false => rfl
          | true => exact absurd ⟨24 * s + t, by omega, by rw [show (24 * s + t) / 24 = s by omega, show (24 * s + t) % 24 = t by omega]; exact e, by rw [show (24 * s + t) / 24 = s by omega, show (24 * s + t) % 24 = t by omega]; exact e2⟩ z
      obtain ⟨q, hq, g1, g2⟩ := h2
      have := za_cn_lt (n := 576) (p := fun q => za_cv Tg Co (k + 1) (q / 24) (q % 24)) (q := fun q => za_cv Tg Co k (q / 24) (q % 24)) (fun i _ h => (za_cv_s.mp h).1) hq g1 g2
      omega
theorem za_cstab576 (Tg Co : Nat → Int32) : za_cstab Tg Co 576 := by
  rcases za_cgrow Tg Co 576 with h | h
  · exact h
  · intro s t hs ht
    have z : za_cv Tg Co 576 s t = false := by
      cases e : za_cv Tg Co 576 s t with
      | false => rfl
      | true =>
        have := za_cn_lt (n := 576) (p := fun _ => false) (q := fun q => za_cv Tg Co 576 (q / 24) (q % 24)) (fun i _ h => by cases h) (show 24 * s + t < 576 by omega) rfl (by show za_cv Tg Co 576 ((24 * s + t) / 24) ((24 * s + t) % 24) = true; rw [show (24 * s + t) / 24 = s by omega, show (24 * s + t) % 24 = t by omega]; exact e)
        omega
    rw [z]
    cases e : za_cv Tg Co (576 + 1) s t with
    | false => rfl
    | true => rw [(za_cv_s.mp e).1] at z; cases z
theorem za_cv576 {Tg Co : Nat → Int32} {k s t : Nat} (hk : 576 ≤ k) (hs : s < 24) (ht : t < 24) : za_cv Tg Co k s t = za_cv Tg Co 576 s t := za_cstab_le hk (za_cstab576 Tg Co) hs ht
def za_vc (Tg Co : Nat → Int32) (k q : Nat) : Bool := za_cv Tg Co k (q / 24) (q % 24)
def za_vc0 (Mc : Nat → Int32) (q : Nat) : Bool := decide (Mc (q / 24) = Mc (q % 24))
theorem za_vc_0 {Tg Co Mc : Nat → Int32} {Cd : Nat → Bool} {i : Nat} (hMc : ∀ s, s < 24 → Mc s = Co s) (hi : 576 ≤ i) : ∀ q, q < 576 → za_fb (za_vc0 Mc) Cd i q = za_vc Tg Co 0 q := by
  intro q hq
  unfold za_fb
  rw [if_pos (by omega)]
  unfold za_vc0 za_vc
  rw [hMc _ (by omega), hMc _ (by omega)]
  show decide (Co (q / 24) = Co (q % 24)) = decide (Co (q % 24) = Co (q / 24))
  by_cases h : Co (q / 24) = Co (q % 24)
  · rw [decide_eq_true h, decide_eq_true h.symm]
  · rw [decide_eq_false h, decide_eq_false (fun z => h z.symm)]
theorem za_mmat_fc {Tg : Nat → Int32} {Mv Cd : Nat → Bool} {R : Nat → Nat → Bool} {s t : Nat} (hMv : za_rel Tg Mv) (hC : ∀ s t, s < 24 → t < 24 → Cd (24 * s + t) = R s t) (hs : s < 24) (ht : t < 24) : za_mmat Mv Cd s t = za_fc Tg R s t := by
  unfold za_mmat za_fc
  rw [za_al2]
  refine za_al_congr (fun l hl => za_al_congr (fun u hu => ?_))
  unfold za_mm1
  rw [show 96 * t + (24 * l + u) = 96 * t + 24 * l + u by omega, hMv t l u ht hl hu]
  congr 1
  refine za_ex_congr (fun v hv => ?_)
  unfold za_mm2
  rw [show (24 * l + u) / 24 = l by omega, show (24 * l + u) % 24 = u by omega, hMv s l v hs hl hv, hC v u hv hu]
theorem za_vc_s {Tg Co : Nat → Int32} {Mv Cq : Nat → Bool} {k q : Nat} (hMv : za_rel Tg Mv) (hC : ∀ q, q < 576 → Cq q = za_vc Tg Co k q) (hq : q < 576) : (Cq q && za_mmat Mv Cq (q / 24) (q % 24)) = za_vc Tg Co (k + 1) q := by
  rw [hC q hq, za_mmat_fc (R := za_cv Tg Co k) hMv (fun s t hs ht => by rw [hC _ (by omega)]; unfold za_vc; rw [show (24 * s + t) / 24 = s by omega, show (24 * s + t) % 24 = t by omega]) (by omega) (by omega)]
  rfl
def za_cq (Tg Co : Nat → Int32) (k q : Nat) : Bool := !decide (za_vc Tg Co (k + 1) q = za_vc Tg Co k q)
theorem za_cstab_cq {Tg Co : Nat → Int32} {k : Nat} (h : za_ex (za_cq Tg Co k) 576 = false) : za_cstab Tg Co (k + 1) := by
  refine za_cstab_s ?_
  intro s t hs ht
  have h1 : za_cq Tg Co k (24 * s + t) = false := by
    cases e : za_cq Tg Co k (24 * s + t) with
    | false => rfl
    | true => rw [za_ex_iff.mpr ⟨24 * s + t, by omega, e⟩] at h; cases h
  unfold za_cq at h1
  rw [Bool.not_eq_false', decide_eq_true_eq] at h1
  unfold za_vc at h1
  rw [show (24 * s + t) / 24 = s by omega, show (24 * s + t) % 24 = t by omega] at h1
  exact h1
theorem za_cq_none {Tg Co : Nat → Int32} {k : Nat} (hk : 576 ≤ k) : za_ex (za_cq Tg Co k) 576 = false := by
  cases e : za_ex (za_cq Tg Co k) 576 with
  | false => rfl
  | true =>
    obtain ⟨q, hq, h⟩ := za_ex_iff.mp e
    unfold za_cq za_vc at h
    rw [za_cv576 (show 576 ≤ k + 1 by omega) (by omega) (by omega), za_cv576 hk (by omega) (by omega)] at h
    simp at h
def za_cds (Tg Co : Nat → Int32) (Cd : Nat → Bool) : Prop := ∀ q, q < 576 → Cd q = za_vc Tg Co 576 q
theorem za_cds_of {Tg Co : Nat → Int32} {Cq : Nat → Bool} {k : Nat} (hC : ∀ q, q < 576 → Cq q = za_vc Tg Co k q) (h : za_cstab Tg Co k) : za_cds Tg Co Cq := by
  intro q hq
  rw [hC q hq]
  unfold za_vc
  rcases Nat.le_total k 576 with g | g
  · exact (za_cstab_le g h (by omega) (by omega)).symm
  · exact za_cv576 g (by omega) (by omega)
theorem za_ubS {f g : Nat → Bool} {i : Nat} {x : Bool} (h1 : ∀ q, q < i → f q = g q) (hx : x = g i) : ∀ q, q < i + 1 → za_ub f i x q = g q := by
  intro q hq
  unfold za_ub
  by_cases e : q = i
  · rw [if_pos e, hx, e]
  · rw [if_neg e]; exact h1 q (by omega)
/-! the kinds as the reference finds them -/
theorem za_nk_keep {La : Nat → Nat} {Kd : Nat → Int32} {n m s : Nat} (hm : n ≤ m) (hs : s < n) : (za_nk La Kd m).1 s = (za_nk La Kd n).1 s := by
  induction m with
  | zero => rw [show n = 0 by omega]
  | succ m ih =>
    by_cases e : n = m + 1
    · rw [e]
    · rw [← ih (by omega)]
      by_cases h : La m = m
      · rw [za_nk_t h]
        show upd _ m _ s = _
        unfold upd
        rw [if_neg (by omega)]
      · rw [za_nk_f h]
        show upd _ m _ s = _
        unfold upd
        rw [if_neg (by omega)]
theorem za_kd_at {Tg Co : Nat → Int32} {n s : Nat} (hn : n ≤ 24) (hs : s < n) : (za_nk (za_lc Tg Co) (fun _ => nI 0) n).1 s = za_kd Tg Co s := (za_nk_keep hn hs).symm
theorem za_nk_le (La : Nat → Nat) (Kd : Nat → Int32) (n : Nat) : (za_nk La Kd n).2 ≤ n := by
  induction n with
  | zero => rw [za_nk0]; exact Nat.le_refl _
  | succ n ih =>
    by_cases h : La n = n
    · rw [za_nk_t h]; show _ + 1 ≤ _; omega
    · rw [za_nk_f h]; show (za_nk La Kd n).2 ≤ _; omega
/-- a state with no lesser one alike to it opens a kind; any other has the kind of the least one -/
theorem za_kd_new {Tg Co : Nat → Int32} {s : Nat} (hs : s < 24) (h : za_lc Tg Co s = s) : za_kd Tg Co s = nI (za_nk (za_lc Tg Co) (fun _ => nI 0) s).2 := by
  rw [← za_kd_at (n := s + 1) (by omega) (by omega), za_nk_t h]
  show upd _ s _ s = _
  unfold upd
  rw [if_pos rfl]
theorem za_kd_old {Tg Co : Nat → Int32} {s : Nat} (hs : s < 24) (h : za_lc Tg Co s < s) : za_kd Tg Co s = za_kd Tg Co (za_lc Tg Co s) := by
  rw [← za_kd_at (n := s + 1) (by omega) (by omega), za_nk_f (by omega)]
  show upd _ s _ s = _
  unfold upd
  rw [if_pos rfl, za_kd_at (by omega) h]
theorem za_lc_le (Tg Co : Nat → Int32) (s : Nat) : za_lc Tg Co s ≤ s := za_fi_le _ _
theorem za_lc_al {Tg Co : Nat → Int32} {s : Nat} (hs : s < 24) : za_ak Tg Co 23 s (za_lc Tg Co s) = true := by
  rcases Nat.lt_or_ge (za_lc Tg Co s) s with h | h
  · have this : (!za_ak Tg Co 23 s (za_lc Tg Co s)) = false := za_fi_f (p := fun x => !za_ak Tg Co 23 s x) h
    simpa using this
  · have e : za_lc Tg Co s = s := Nat.le_antisymm (za_lc_le Tg Co s) h
    rw [e]
    exact za_ak_refl hs
theorem za_lc_min {Tg Co : Nat → Int32} {s t : Nat} (h : za_ak Tg Co 23 s t = true) (ht : t ≤ s) : za_lc Tg Co s ≤ t := by
  rcases Nat.lt_or_ge t (za_lc Tg Co s) with g | g
  · have := za_fi_lt (p := fun x => !za_ak Tg Co 23 s x) g
    rw [h] at this
    cases this
  · exact g
theorem za_lc_eq {Tg Co : Nat → Int32} {s t : Nat} (hs : s < 24) (ht : t < 24) (h : za_ak Tg Co 23 s t = true) : za_lc Tg Co s = za_lc Tg Co t := by
  have l1 := za_lc_le Tg Co s
  have l2 := za_lc_le Tg Co t
  have a1 : za_ak Tg Co 23 s (za_lc Tg Co t) = true := za_ak_trans hs ht (by omega) h (za_lc_al ht)
  have a2 : za_ak Tg Co 23 t (za_lc Tg Co s) = true := za_ak_trans ht hs (by omega) (by rw [za_ak_symm]; exact h) (za_lc_al hs)
  rcases Nat.le_total s t with g | g
  · have h2 := za_lc_min a2 (by omega)
    have h1 := za_lc_min a1 (by omega)
    omega
  · have h1 := za_lc_min a1 (by omega)
    have h2 := za_lc_min a2 (by omega)
    omega
theorem za_kd_lc {Tg Co : Nat → Int32} {s : Nat} (hs : s < 24) : za_kd Tg Co s = za_kd Tg Co (za_lc Tg Co s) := by
  rcases Nat.lt_or_ge (za_lc Tg Co s) s with h | h
  · exact za_kd_old hs h
  · rw [Nat.le_antisymm (za_lc_le Tg Co s) h]
theorem za_kd_alike {Tg Co : Nat → Int32} {s t : Nat} (hs : s < 24) (ht : t < 24) (h : za_ak Tg Co 23 s t = true) : za_kd Tg Co s = za_kd Tg Co t := by
  rw [za_kd_lc hs, za_kd_lc ht, za_lc_eq hs ht h]
theorem za_kd_nI {Tg Co : Nat → Int32} {s : Nat} (hs : s < 24) : ∃ j : Nat, j < 24 ∧ za_kd Tg Co s = nI j := by
  have l := za_lc_le Tg Co s
  have e := za_lc_eq hs (show za_lc Tg Co s < 24 by omega) (za_lc_al hs)
  rw [za_kd_lc hs, za_kd_new (by omega) e.symm]
  have := za_nk_le (za_lc Tg Co) (fun _ => nI 0) (za_lc Tg Co s)
  exact ⟨_, by omega, rfl⟩
/-- while the reference looks at s: what it has found among the states below t -/
def za_mkv (Tg Co : Nat → Int32) (s t : Nat) : Int32 := if za_ex (za_ak Tg Co 23 s) t = true then za_kd Tg Co s else (-1)
theorem za_mkv_t {Tg Co : Nat → Int32} {s t : Nat} (hs : s < 24) (ht : t < s) (h : za_ak Tg Co 23 s t = true) : za_kd Tg Co t = za_mkv Tg Co s (t + 1) := by
  unfold za_mkv
  rw [if_pos (za_ex_iff.mpr ⟨t, by omega, h⟩)]
  exact (za_kd_alike hs (by omega) h).symm
theorem za_mkv_f {Tg Co : Nat → Int32} {s t : Nat} (h : za_ak Tg Co 23 s t = false) : za_mkv Tg Co s t = za_mkv Tg Co s (t + 1) := by
  unfold za_mkv
  rw [za_ex, h, Bool.or_false]
theorem za_mkv_old {Tg Co : Nat → Int32} {s : Nat} (hs : s < 24) (h : ¬ za_mkv Tg Co s s < 0) : za_lc Tg Co s < s ∧ za_mkv Tg Co s s = za_kd Tg Co s := by
  unfold za_mkv at h ⊢
  by_cases e : za_ex (za_ak Tg Co 23 s) s = true
  · rw [if_pos e]
    obtain ⟨t, ht, g⟩ := za_ex_iff.mp e
    have := za_lc_min g (by omega)
    exact ⟨by omega, rfl⟩
  · rw [if_neg e] at h
    exact absurd (by decide) h
theorem za_mkv_new {Tg Co : Nat → Int32} {s : Nat} (hs : s < 24) (h : za_mkv Tg Co s s < 0) : za_lc Tg Co s = s := by
  unfold za_mkv at h
  by_cases e : za_ex (za_ak Tg Co 23 s) s = true
  · rw [if_pos e] at h
    obtain ⟨j, hj, g⟩ := za_kd_nI (Tg := Tg) (Co := Co) hs
    rw [g] at h
    exact absurd h (nI_pos (by omega))
  · unfold za_lc
    refine za_fi_all (fun t ht => ?_)
    cases g : za_ak Tg Co 23 s t with
    | false => rfl
    | true => exact absurd (za_ex_iff.mpr ⟨t, ht, g⟩) e
theorem za_brs_al {Tg Co Br : Nat → Int32} {s t : Nat} (h : za_brs Tg Co Br) (hs : s < 24) (ht : t < 24) : decide (Br (24 * s + t) = nI 1000) = za_ak Tg Co 23 s t := by
  rw [h _ (by omega)]
  unfold za_vb
  rw [show (24 * s + t) / 24 = s by omega, show (24 * s + t) % 24 = t by omega]
  by_cases e : za_ak Tg Co 23 s t = true
  · rw [if_pos e, e]; simp
  · have e' : za_ak Tg Co 23 s t = false := by simpa using e
    rw [if_neg e, e', decide_eq_false_iff_not]
    intro z
    have := (za_lowk hs ht e').2
    have := (nI_eq (by omega) (by omega)).mp z
    omega
