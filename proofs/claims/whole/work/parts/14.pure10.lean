/-! answers of the last promises -/
theorem za_cn_more {p : Nat → Bool} {n m : Nat} (h : n ≤ m) (hp : ∀ i, n ≤ i → i < m → p i = false) : za_cn p m = za_cn p n := by
  induction m with
  | zero => rw [show n = 0 by omega]
  | succ m ih =>
    by_cases e : n = m + 1
    · rw [e]
    · rw [za_cn, if_neg (by rw [hp m (by omega) (by omega)]; decide), ih (by omega) (fun i h1 h2 => hp i h1 (by omega))]
theorem za_pc_mk (p : Nat → Bool) : za_pc (za_mk p 24) = za_cn p 24 := by
  unfold za_pc
  rw [za_cn_more (n := 24) (by omega) (fun i h1 h2 => by rw [za_mk_bit _ 24 (by omega), decide_eq_false (by omega)]; rfl)]
  exact za_cn_congr (fun i hi => by rw [za_mk_bit _ 24 (by omega), decide_eq_true hi, Bool.true_and])
/-- attack i of the play, its answer: -1 where there is none -/
def za_ok9 (Tg Co : Nat → Int32) (w v x0 : Int32) : Bool := (za_isS w && za_isS v) && (!decide (x0 < 0) && decide (za_clp x0 < za_pn Tg Co (za_clp w) (za_clp v)))
def za_kv (Tg Co : Nat → Int32) (w v x0 : Int32) : Int32 := if za_ok9 Tg Co w v x0 = true then nI (za_cd9 Tg Co (za_tr Tg Co (za_clp w) (za_clp v) (za_clp x0)).2.1 (za_tr Tg Co (za_clp w) (za_clp v) (za_clp x0)).2.2) else (-1)
def za_wv9 (Tg Co : Nat → Int32) (w v x0 : Int32) : Int32 := if za_ok9 Tg Co w v x0 = true then za_ai (za_an Tg Co (za_tr Tg Co (za_clp w) (za_clp v) (za_clp x0)).2.1 (za_tr Tg Co (za_clp w) (za_clp v) (za_clp x0)).2.2) else (-1)
def za_pnv (Tg Co : Nat → Int32) (w v : Int32) : Nat := if (za_isS w && za_isS v) = true then za_pn Tg Co (za_clp w) (za_clp v) else 0
theorem za_pnv_lt (Tg Co : Nat → Int32) (w v : Int32) : za_pnv Tg Co w v < 24 := by
  unfold za_pnv
  split
  · rename_i h
    obtain ⟨⟨s, hs, rfl⟩, t, ht, rfl⟩ := za_isSS_of h
    rw [za_clS hs, za_clS ht]
    exact za_pn_lt hs ht
  · omega
theorem za_ok9_f1 {Tg Co : Nat → Int32} {w v x0 : Int32} (h : x0 < 0) : za_ok9 Tg Co w v x0 = false := by
  unfold za_ok9
  rw [decide_eq_true h]
  simp
theorem za_ok9_f2 {Tg Co : Nat → Int32} {w v x0 : Int32} (h0 : ¬ x0 < 0) (h : nI (za_pnv Tg Co w v) ≤ x0) : za_ok9 Tg Co w v x0 = false := by
  obtain ⟨j, hj, rfl⟩ := nI_of h0
  have hb := za_pnv_lt Tg Co w v
  have h2 := (nI_leI (by omega) hj).mp h
  unfold za_ok9
  unfold za_pnv at h2
  by_cases g : (za_isS w && za_isS v) = true
  · rw [if_pos g] at h2
    rw [g, show za_clp (nI j) = j from nI_clamp hj, decide_eq_false (show ¬ j < za_pn Tg Co (za_clp w) (za_clp v) by omega)]
    simp
  · rw [show (za_isS w && za_isS v) = false by simpa using g, Bool.false_and]
theorem za_ok9_t {Tg Co : Nat → Int32} {w v x0 : Int32} (h0 : ¬ x0 < 0) (h : ¬ nI (za_pnv Tg Co w v) ≤ x0) : za_ok9 Tg Co w v x0 = true ∧ (za_isS w && za_isS v) = true ∧ ∃ j : Nat, j < za_pn Tg Co (za_clp w) (za_clp v) ∧ j < 24 ∧ x0 = nI j ∧ za_clp x0 = j := by
  obtain ⟨j, hj, rfl⟩ := nI_of h0
  have hb := za_pnv_lt Tg Co w v
  have h2 : j < za_pnv Tg Co w v := Nat.lt_of_not_le (fun q => h (nI_le q hj))
  have hc : za_clp (nI j) = j := nI_clamp hj
  by_cases g : (za_isS w && za_isS v) = true
  · have h3 := h2
    unfold za_pnv at h3
    rw [if_pos g] at h3
    refine ⟨?_, g, j, h3, by omega, rfl, hc⟩
    unfold za_ok9
    rw [g, hc, decide_eq_false h0, decide_eq_true h3]
    rfl
  · unfold za_pnv at h2
    rw [if_neg g] at h2
    exact absurd h2 (Nat.not_lt_zero _)
