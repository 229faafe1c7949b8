/-! the reference's answers are the class's -/
theorem za_brs_at {Tg Co Br : Nat → Int32} {s t : Nat} (h : za_brs Tg Co Br) (hs : s < 24) (ht : t < 24) (ha : za_ak Tg Co 23 s t = false) : Br (24 * s + t) = nI (za_bn Tg Co s t) ∧ za_bn Tg Co s t < 24 := by
  refine ⟨?_, (za_lowk hs ht ha).2⟩
  rw [h _ (by omega)]
  unfold za_vb
  rw [show (24 * s + t) / 24 = s by omega, show (24 * s + t) % 24 = t by omega, if_neg (by rw [ha]; decide)]
  rfl
theorem za_brs_bv {Tg Co Br : Nat → Int32} {s t : Nat} (h : za_brs Tg Co Br) (hs : s < 24) (ht : t < 24) (ha : za_ak Tg Co 23 s t = false) : Br (24 * s + t) = za_bv Tg Co s t := by
  obtain ⟨h1, h2⟩ := za_brs_at h hs ht ha
  rw [h1, za_bv_bn, if_pos h2]
theorem za_bn_al {Tg Co : Nat → Int32} {s t : Nat} (h : za_bn Tg Co s t < 24) : za_ak Tg Co 23 s t = false := by
  cases e : za_ak Tg Co 23 s t with
  | false => rfl
  | true =>
    have z := za_fi_f (p := fun j => za_ak Tg Co j s t) (n := 24) h
    rw [za_ak_le (show za_fi (fun j => za_ak Tg Co j s t) 24 ≤ 23 by unfold za_bn at h; omega) e] at z
    cases z
theorem za_brs_bn {Tg Co Br : Nat → Int32} {s t : Nat} (h : za_brs Tg Co Br) (hs : s < 24) (ht : t < 24) (hp : za_bn Tg Co s t < 24) : Br (24 * s + t) = nI (za_bn Tg Co s t) := (za_brs_at h hs ht (za_bn_al hp)).1
theorem za_brs_bx {Tg Co Br : Nat → Int32} {k : Nat} (h : za_brs Tg Co Br) (hk : k < 24) : ∀ s t, s < 24 → t < 24 → (!decide (Br (24 * s + t) ≤ nI k)) = za_ak Tg Co k s t := by
  intro s t hs ht
  cases e : za_ak Tg Co 23 s t with
  | true =>
    rw [za_ak_le (show k ≤ 23 by omega) e, h _ (by omega)]
    unfold za_vb
    rw [show (24 * s + t) / 24 = s by omega, show (24 * s + t) % 24 = t by omega, if_pos e, decide_eq_false (nI_ge (by omega) (by omega))]
    rfl
  | false =>
    obtain ⟨h1, h2⟩ := za_brs_at h hs ht e
    rw [h1]
    by_cases g : k < za_bn Tg Co s t
    · have z : za_ak Tg Co k s t = true := za_fi_lt (p := fun j => za_ak Tg Co j s t) (n := 24) g
      rw [z, decide_eq_false (nI_ge g (by omega))]
      rfl
    · have z : za_ak Tg Co k s t = false := by
        cases y : za_ak Tg Co k s t with
        | false => rfl
        | true =>
          have f := za_fi_f (p := fun j => za_ak Tg Co j s t) (n := 24) h2
          rw [za_ak_le (show za_fi (fun j => za_ak Tg Co j s t) 24 ≤ k by unfold za_bn at g; omega) y] at f
          cases f
      rw [z, decide_eq_true (nI_le (by omega) (by omega))]
      rfl
theorem za_mat_at {Tg Co Br : Nat → Int32} {Mv : Nat → Bool} {s t k m : Nat} (hMv : za_rel Tg Mv) (h : za_brs Tg Co Br) (hk : k < 24) (hs : s < 24) (ht : t < 24) (hm : m < 96) : za_mat Mv Br s t m k = za_at Tg Co s t k m := by
  unfold za_mat za_at
  have e : 96 * s + m = 96 * s + 24 * (m / 24) + m % 24 := by omega
  rw [e, hMv s (m / 24) (m % 24) hs (by omega) (by omega), za_mans_ex hMv (za_brs_bx h hk) ht (by omega) (by omega)]
theorem za_or0 (x : Int32) : x ||| nI 0 = x := by
  refine b_ext (fun i _ => ?_)
  rw [b_or, show bt (nI 0) i = false from b_0 i, Bool.or_false]
theorem za_orA (x y z : Int32) : x ||| (y ||| z) = x ||| y ||| z := by
  refine b_ext (fun i _ => ?_)
  rw [b_or, b_or, b_or, b_or, Bool.or_assoc]
theorem za_ri_ka {Tg Mk Kd : Nat → Int32} {Mv : Nat → Bool} {w a : Int32} {l s n : Nat} (hMv : za_rel Tg Mv) (hK : ∀ x, x < 24 → Mk x = Kd x) (hs : s < 24) (hl : l < 4) (hn : n ≤ 24) : za_ri w l Mv Mk s a n = if Kd s = w then a ||| za_ka (Tg (s * 4 + l)) Kd n else a := by
  induction n with
  | zero =>
    rw [za_ri, za_ka, za_or0]
    split <;> rfl
  | succ n ih =>
    rw [za_ri, za_ka, ih (by omega), hMv s l n hs hl (by omega), hK s hs, hK n (by omega)]
    by_cases g : Kd s = w
    · by_cases z : bt (Tg (s * 4 + l)) n = true
      · rw [if_pos ⟨g, z⟩, if_pos g, if_pos g, if_pos z, za_orA]
      · rw [if_neg (fun q => z q.2), if_pos g, if_pos g, if_neg z]
    · rw [if_neg (fun q => g q.1), if_neg g, if_neg g]
theorem za_ro_kr {Tg Mk Kd : Nat → Int32} {Mv : Nat → Bool} {w : Int32} {l n : Nat} (hMv : za_rel Tg Mv) (hK : ∀ x, x < 24 → Mk x = Kd x) (hl : l < 4) (hn : n ≤ 24) : za_ro w l Mv Mk n = za_kr w l Tg Kd n := by
  induction n with
  | zero => rfl
  | succ n ih => rw [za_ro, za_kr, za_ri_ka hMv hK (by omega) hl (Nat.le_refl _), ih (by omega)]
theorem za_ro_rv {Tg Co Mk : Nat → Int32} {Mv : Nat → Bool} {w : Int32} {l : Nat} (hMv : za_rel Tg Mv) (hK : ∀ x, x < 24 → Mk x = za_kd Tg Co x) (hl : l < 4) : za_ro w l Mv Mk 24 = za_rv Tg Co w l := za_ro_kr hMv hK hl (Nat.le_refl _)
theorem za_kc_le (Tg Co : Nat → Int32) : za_kc Tg Co ≤ 24 := za_nk_le _ _ _
theorem za_nk2_mono {La : Nat → Nat} {Kd : Nat → Int32} {n m : Nat} (h : n ≤ m) : (za_nk La Kd n).2 ≤ (za_nk La Kd m).2 := by
  induction m with
  | zero => rw [show n = 0 by omega]; exact Nat.le_refl _
  | succ m ih =>
    by_cases e : n = m + 1
    · rw [e]; exact Nat.le_refl _
    · have := ih (by omega)
      by_cases g : La m = m
      · rw [za_nk_t g]; show _ ≤ _ + 1; omega
      · rw [za_nk_f g]; exact this
theorem za_kd_kc {Tg Co : Nat → Int32} {s : Nat} (hs : s < 24) : ∃ j : Nat, j < za_kc Tg Co ∧ za_kd Tg Co s = nI j := by
  have l := za_lc_le Tg Co s
  have e := za_lc_eq hs (show za_lc Tg Co s < 24 by omega) (za_lc_al hs)
  refine ⟨(za_nk (za_lc Tg Co) (fun _ => nI 0) (za_lc Tg Co s)).2, ?_, by rw [za_kd_lc hs, za_kd_new (by omega) e.symm]⟩
  have h1 : (za_nk (za_lc Tg Co) (fun _ => nI 0) (za_lc Tg Co s + 1)).2 = (za_nk (za_lc Tg Co) (fun _ => nI 0) (za_lc Tg Co s)).2 + 1 := by rw [za_nk_t e.symm]
  have h2 := za_nk2_mono (La := za_lc Tg Co) (Kd := fun _ => nI 0) (show za_lc Tg Co s + 1 ≤ 24 by omega)
  unfold za_kc
  omega
theorem za_ka_bit {Tg Co : Nat → Int32} {w : Int32} {n i : Nat} (hn : n ≤ 24) (hi : za_kc Tg Co ≤ i) (hi2 : i < 32) : bt (za_ka w (za_kd Tg Co) n) i = false := by
  induction n with
  | zero => exact b_0 i
  | succ n ih =>
    rw [za_ka]
    split
    · obtain ⟨j, hj, e⟩ := za_kd_kc (Tg := Tg) (Co := Co) (show n < 24 by omega)
      have hk := za_kc_le Tg Co
      rw [b_or, ih (by omega), e, b_shl j (by omega) (nI 1) hi2, za_1b (i - j) (by omega), decide_eq_false (show ¬ i - j = 0 by omega)]
      simp
    · exact ih (by omega)
theorem za_kr_bit {Tg Co : Nat → Int32} {w : Int32} {l n i : Nat} (hn : n ≤ 24) (hi : za_kc Tg Co ≤ i) (hi2 : i < 32) : bt (za_kr w l Tg (za_kd Tg Co) n) i = false := by
  induction n with
  | zero => exact b_0 i
  | succ n ih =>
    rw [za_kr]
    split
    · rw [b_or, ih (by omega), za_ka_bit (Nat.le_refl _) hi hi2]; rfl
    · exact ih (by omega)
def za_b01 (b : Bool) : Nat := if b = true then 1 else 0
theorem za_sm_cn (p : Nat → Bool) (n : Nat) : za_sm (fun z => za_b01 (p z)) n = za_cn p n := by
  induction n with
  | zero => rfl
  | succ n ih =>
    rw [za_sm, za_cn, ih]
    unfold za_b01
    split <;> rfl
theorem za_bit01 {w : Int32} {t : Nat} (ht : t < 32) : ((w >>> (nI t &&& 31)) &&& nI 1) = nI (za_b01 (bt w t)) := by
  refine b_ext (fun i hi => ?_)
  have e1 : bt ((w >>> (nI t &&& 31)) &&& nI 1) i = (decide (i = 0) && bt w t) := by
    rw [b_and, za_1b i hi, b_sshr t ht w hi]
    by_cases h0 : i = 0
    · subst h0
      simp [ht]
    · simp [h0]
  have e2 : bt (nI (za_b01 (bt w t))) i = (decide (i = 0) && bt w t) := by
    unfold za_b01
    cases e : bt w t with
    | true => rw [if_pos rfl, za_1b i hi, Bool.and_true]
    | false =>
      have z : bt (nI 0) i = false := b_0 i
      rw [if_neg (by decide), z, Bool.and_false]
  rw [e1, e2]
def za_lks (Tg Co : Nat → Int32) : Nat := za_sm (fun k => za_sm (fun l => za_cn (bt (za_rv Tg Co (nI k) l)) (za_kc Tg Co)) 4) (za_kc Tg Co)
theorem za_sm_congr {f g : Nat → Nat} {n : Nat} (h : ∀ i, i < n → f i = g i) : za_sm f n = za_sm g n := by
  induction n with
  | zero => rfl
  | succ n ih => rw [za_sm, za_sm, ih (fun i hi => h i (by omega)), h n (by omega)]
theorem za_pc_rv {Tg Co : Nat → Int32} {w : Int32} {l : Nat} : za_pc (za_rv Tg Co w l) = za_cn (bt (za_rv Tg Co w l)) (za_kc Tg Co) := by
  have hk := za_kc_le Tg Co
  unfold za_pc
  exact za_cn_more (by omega) (fun i h1 h2 => za_kr_bit (Nat.le_refl _) h1 h2)
theorem za_lks_of {Tg Co Kd : Nat → Int32} (hK : ∀ s, s < 24 → Kd s = za_kd Tg Co s) : za_sm (fun k => za_sm (fun l => za_pc (za_kr (nI k) l Tg Kd 24)) 4) (za_kc Tg Co) = za_lks Tg Co := by
  unfold za_lks
  refine za_sm_congr (fun k _ => za_sm_congr (fun l _ => ?_))
  rw [za_kr_congr hK (Nat.le_refl _)]
  exact za_pc_rv
def za_isp (Tg Co : Nat → Int32) (w v : Int32) : Bool := (za_isS w && za_isS v) && za_pl Tg Co (za_clp w) (za_clp v)
def za_asum (Tg Co : Nat → Int32) (w v : Int32) (i : Nat) : Nat := if za_isp Tg Co w v = true then za_cn (za_at Tg Co (za_clp w) (za_clp v) (za_bn Tg Co (za_clp w) (za_clp v) - 1)) i + za_cn (za_at Tg Co (za_clp v) (za_clp w) (za_bn Tg Co (za_clp w) (za_clp v) - 1)) i else 0
theorem za_isp_of {Tg Co : Nat → Int32} {w v : Int32} (h : za_isp Tg Co w v = true) : (∃ s : Nat, s < 24 ∧ w = nI s) ∧ (∃ t : Nat, t < 24 ∧ v = nI t) ∧ za_pl Tg Co (za_clp w) (za_clp v) = true := by
  unfold za_isp at h
  rw [Bool.and_eq_true] at h
  obtain ⟨h1, h2⟩ := za_isSS_of h.1
  exact ⟨h1, h2, h.2⟩
theorem za_isp_pl {Tg Co : Nat → Int32} {w v : Int32} {s t : Nat} (h : za_pl Tg Co (za_clp w) (za_clp v) = true) (hw : w = nI s) (hv : v = nI t) (hs : s < 24) (ht : t < 24) : za_pl Tg Co s t = true := by
  rw [hw, hv, za_clS hs, za_clS ht] at h
  exact h
theorem za_isp1 {Tg Co : Nat → Int32} {w v : Int32} {s t : Nat} (hw : w = nI s) (hv : v = nI t) (hs : s < 24) (ht : t < 24) (h : za_ak Tg Co 23 s t = true) : za_isp Tg Co w v = false := by
  unfold za_isp
  rw [hw, hv, za_clS hs, za_clS ht]
  cases e : za_pl Tg Co s t with
  | false => rw [Bool.and_false]
  | true =>
    have := za_bn_al (za_pl_iff.mp e).1
    rw [h] at this
    cases this
theorem za_isp2 {Tg Co : Nat → Int32} {w v : Int32} {s t : Nat} (hw : w = nI s) (hv : v = nI t) (hs : s < 24) (ht : t < 24) (h1 : za_ak Tg Co 23 s t = false) (h : nI (za_bn Tg Co s t) ≤ 0) : za_isp Tg Co w v = false := by
  have hb := (za_lowk hs ht h1).2
  have hb : za_bn Tg Co s t < 24 := hb
  have h2 := (nI_leI (show za_bn Tg Co s t < 2 ^ 31 by omega) (show 0 < 2 ^ 31 by omega)).mp h
  unfold za_isp
  rw [hw, hv, za_clS hs, za_clS ht]
  cases e : za_pl Tg Co s t with
  | false => rw [Bool.and_false]
  | true =>
    have := (za_pl_iff.mp e).2
    omega
theorem za_isp3 {Tg Co : Nat → Int32} {w v : Int32} {s t : Nat} (h4 : za_isS w = true) (h11 : za_isS v = true) (hw : w = nI s) (hv : v = nI t) (hs : s < 24) (ht : t < 24) (h1 : za_ak Tg Co 23 s t = false) (h : ¬ nI (za_bn Tg Co s t) ≤ 0) : za_isp Tg Co w v = true := by
  have hb : za_bn Tg Co s t < 24 := (za_lowk hs ht h1).2
  unfold za_isp
  rw [h4, h11, hw, hv, za_clS hs, za_clS ht, za_pl_iff.mpr ⟨hb, ?_⟩]
  · rfl
  · rcases Nat.eq_zero_or_pos (za_bn Tg Co s t) with g | g
    · rw [g] at h
      exact absurd (Int32.le_refl _) h
    · exact g
theorem za_asum_at {Tg Co : Nat → Int32} {w v : Int32} {s t : Nat} (h : za_isp Tg Co w v = true) (hw : w = nI s) (hv : v = nI t) (hs : s < 24) (ht : t < 24) (i : Nat) : za_asum Tg Co w v i = za_cn (za_at Tg Co s t (za_bn Tg Co s t - 1)) i + za_cn (za_at Tg Co t s (za_bn Tg Co s t - 1)) i := by
  unfold za_asum
  rw [if_pos h, hw, hv, za_clS hs, za_clS ht]
theorem za_asum_f {Tg Co : Nat → Int32} {w v : Int32} {i : Nat} (h : za_isp Tg Co w v = false) : nI (za_asum Tg Co w v i) = if (za_isS w && za_isS v) = true then za_ac Tg Co (za_clp w) (za_clp v) else nI 0 := by
  unfold za_asum
  rw [if_neg (by rw [h]; decide)]
  by_cases g : (za_isS w && za_isS v) = true
  · rw [if_pos g]
    unfold za_isp at h
    rw [g, Bool.true_and] at h
    unfold za_ac
    rw [if_neg (by rw [h]; decide)]
  · rw [if_neg g]
theorem za_asum_e {Tg Co : Nat → Int32} {w v : Int32} {i : Nat} (hi : i = 96) : nI (za_asum Tg Co w v i) = if (za_isS w && za_isS v) = true then za_ac Tg Co (za_clp w) (za_clp v) else nI 0 := by
  subst hi
  cases h : za_isp Tg Co w v with
  | false => exact za_asum_f h
  | true =>
    obtain ⟨⟨s, hs, hw⟩, ⟨t, ht, hv⟩, hp⟩ := za_isp_of h
    have hp := za_isp_pl hp hw hv hs ht
    rw [za_asum_at h hw hv hs ht]
    unfold za_isp at h
    rw [Bool.and_eq_true] at h
    rw [if_pos h.1, hw, hv, za_clS hs, za_clS ht]
    unfold za_ac
    rw [if_pos hp]
theorem za_fq1 {Tg Co : Nat → Int32} {s t i : Nat} (hi : i < 96) (h : za_at Tg Co s t (za_bn Tg Co s t - 1) i = false) : (fun z => !za_fq Tg Co s t z) i = true := by
  show (!za_fq Tg Co s t i) = true
  unfold za_fq
  rw [if_pos hi, h]
  rfl
theorem za_fq2 {Tg Co : Nat → Int32} {s t i : Nat} (hi : 96 ≤ i) (h : za_at Tg Co t s (za_bn Tg Co s t - 1) (i - 96) = false) : (fun z => !za_fq Tg Co s t z) i = true := by
  show (!za_fq Tg Co s t i) = true
  unfold za_fq
  rw [if_neg (by omega), h]
  rfl
theorem za_fq3 {Tg Co : Nat → Int32} {s t i : Nat} (hi : i = 192) (hq : ∀ z, z < i → (fun z => !za_fq Tg Co s t z) z = true) : i = za_fa Tg Co s t := by
  subst hi
  exact (za_fi_all hq).symm
theorem za_fq4 {Tg Co : Nat → Int32} {s t i : Nat} (hi : i < 96) (hq : ∀ z, z < i → (fun z => !za_fq Tg Co s t z) z = true) (h : za_at Tg Co s t (za_bn Tg Co s t - 1) i = true) : i = za_fa Tg Co s t := by
  refine (za_fi_at (by omega) hq ?_).symm
  show (!za_fq Tg Co s t i) = false
  unfold za_fq
  rw [if_pos hi, h]
  rfl
theorem za_fq5 {Tg Co : Nat → Int32} {s t i : Nat} (hi : 96 ≤ i) (h2 : i < 192) (hq : ∀ z, z < i → (fun z => !za_fq Tg Co s t z) z = true) (h : za_at Tg Co t s (za_bn Tg Co s t - 1) (i - 96) = true) : i = za_fa Tg Co s t := by
  refine (za_fi_at h2 hq ?_).symm
  show (!za_fq Tg Co s t i) = false
  unfold za_fq
  rw [if_neg (by omega), h]
  rfl
def za_bt9 (w : Int32) (B : Nat → Nat) (i : Nat) : Bool := bt w i && (decide (za_bs w B i = 24) || decide (B (za_bs w B i) < B i))
theorem za_bt1 {w : Int32} {B : Nat → Nat} {i : Nat} (h : bt w i = false) : za_bt9 w B i = false := by
  unfold za_bt9
  rw [h, Bool.false_and]
theorem za_ai_neg {j : Nat} (hj : j ≤ 24) : za_ai j < 0 ↔ j = 24 := by
  unfold za_ai
  by_cases h : j = 24
  · rw [if_pos h]; exact ⟨fun _ => h, fun _ => by decide⟩
  · rw [if_neg h]; exact ⟨fun q => absurd q (nI_pos (by omega)), fun q => absurd q h⟩
theorem za_bs_le (w : Int32) (B : Nat → Nat) {n : Nat} (hn : n ≤ 24) : za_bs w B n ≤ 24 := by
  rcases za_bs_lt w B n with h | h
  · omega
  · omega
theorem za_bt2 {w : Int32} {B : Nat → Nat} {i : Nat} (hi : i ≤ 24) (h : bt w i = true) (h2 : za_ai (za_bs w B i) < 0) : za_bt9 w B i = true := by
  unfold za_bt9
  rw [h, decide_eq_true ((za_ai_neg (za_bs_le w B hi)).mp h2)]
  rfl
theorem za_bt3 {w : Int32} {B : Nat → Nat} {i : Nat} (h2 : za_bs w B i < 24) (h3 : B i ≤ B (za_bs w B i)) : za_bt9 w B i = false := by
  unfold za_bt9
  rw [decide_eq_false (show ¬ za_bs w B i = 24 by omega), decide_eq_false (show ¬ B (za_bs w B i) < B i by omega)]
  simp
theorem za_bt4 {w : Int32} {B : Nat → Nat} {i : Nat} (h : bt w i = true) (h3 : B (za_bs w B i) < B i) : za_bt9 w B i = true := by
  unfold za_bt9
  rw [h, decide_eq_true h3]
  simp
theorem za_bs_t {w : Int32} {B : Nat → Nat} {i : Nat} (hi : i < 24) (h : za_bt9 w B i = true) : za_ai (za_bs w B (i + 1)) = nI i := by
  unfold za_bt9 at h
  rw [Bool.and_eq_true, Bool.or_eq_true, decide_eq_true_eq, decide_eq_true_eq] at h
  rw [za_bs, if_pos h]
  unfold za_ai
  rw [if_neg (by omega)]
theorem za_bs_f {w : Int32} {B : Nat → Nat} {i : Nat} (h : za_bt9 w B i = false) : za_ai (za_bs w B (i + 1)) = za_ai (za_bs w B i) := by
  rw [za_bs, if_neg]
  intro q
  unfold za_bt9 at h
  rw [q.1, Bool.true_and, Bool.or_eq_false_iff, decide_eq_false_iff_not, decide_eq_false_iff_not] at h
  rcases q.2 with z | z
  · exact h.1 z
  · exact h.2 z
theorem za_ai_of {w : Int32} {B : Nat → Nat} {i : Nat} (hi : i ≤ 24) (h : ¬ za_ai (za_bs w B i) < 0) : za_ai (za_bs w B i) = nI (za_bs w B i) ∧ za_bs w B i < 24 ∧ bt w (za_bs w B i) = true := by
  rcases za_bs_lt w B i with g | g
  · exact absurd ((za_ai_neg (by omega)).mpr g) h
  · refine ⟨?_, by omega, g.2⟩
    unfold za_ai
    rw [if_neg (by omega)]
