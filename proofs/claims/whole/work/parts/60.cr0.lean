theorem za_an_1 {Tg Co : Nat → Int32} {x y : Nat} (h : za_mi Tg Co x y = true) : za_ai (za_bs (Tg (y * 4 + za_lb Tg Co x y)) (za_bn Tg Co (za_to Tg Co x y)) 24) = za_ai (za_an Tg Co x y) := by
  have e : za_ot Tg Co x y = y := by unfold za_ot; rw [if_pos h]
  unfold za_an
  rw [e]
theorem za_an_2 {Tg Co : Nat → Int32} {x y : Nat} (h : za_mi Tg Co x y = false) : za_ai (za_bs (Tg (x * 4 + za_lb Tg Co x y)) (za_bn Tg Co (za_to Tg Co x y)) 24) = za_ai (za_an Tg Co x y) := by
  have e : za_ot Tg Co x y = x := by unfold za_ot; rw [if_neg (by rw [h]; decide)]
  unfold za_an
  rw [e]
theorem za_han1 {Tg Co : Nat → Int32} {x y : Nat} (hp : za_pl Tg Co x y = true) (h : za_mi Tg Co x y = true) : ∀ v, v < 24 → bt (Tg (y * 4 + za_lb Tg Co x y)) v = true → za_bn Tg Co (za_to Tg Co x y) v < 24 := by
  intro v hv hb
  have e : za_ot Tg Co x y = y := by unfold za_ot; rw [if_pos h]
  have g := za_ans_bn hp v hv (by rw [e]; exact hb)
  have := (za_pl_iff.mp hp).1
  omega
theorem za_han2 {Tg Co : Nat → Int32} {x y : Nat} (hp : za_pl Tg Co x y = true) (h : za_mi Tg Co x y = false) : ∀ v, v < 24 → bt (Tg (x * 4 + za_lb Tg Co x y)) v = true → za_bn Tg Co (za_to Tg Co x y) v < 24 := by
  intro v hv hb
  have e : za_ot Tg Co x y = x := by unfold za_ot; rw [if_neg (by rw [h]; decide)]
  have g := za_ans_bn hp v hv (by rw [e]; exact hb)
  have := (za_pl_iff.mp hp).1
  omega
theorem za_cd1 {Tg Co : Nat → Int32} {x y : Nat} (h : za_mi Tg Co x y = true) : nI (0 + 100 * za_lb Tg Co x y + za_to Tg Co x y) = nI (za_cd9 Tg Co x y) := by
  unfold za_cd9
  rw [if_pos h]
theorem za_cd2 {Tg Co : Nat → Int32} {x y : Nat} (h : za_mi Tg Co x y = false) : nI (1000 + 100 * za_lb Tg Co x y + za_to Tg Co x y) = nI (za_cd9 Tg Co x y) := by
  unfold za_cd9
  rw [if_neg (by rw [h]; decide)]
/-- what stands in the reference's rows when j attacks are made -/
def za_prow (Tg Co : Nat → Int32) (w v : Int32) (j : Nat) (Aq Sq : Nat → Int32) : Prop := ∀ q, q < j → (za_isS w && za_isS v) = true ∧ (za_tr Tg Co (za_clp w) (za_clp v) q).1 = true ∧ Aq q = nI (za_cd9 Tg Co (za_tr Tg Co (za_clp w) (za_clp v) q).2.1 (za_tr Tg Co (za_clp w) (za_clp v) q).2.2) ∧ Sq q = za_ai (za_an Tg Co (za_tr Tg Co (za_clp w) (za_clp v) q).2.1 (za_tr Tg Co (za_clp w) (za_clp v) q).2.2)
def za_pst (Tg Co : Nat → Int32) (w v : Int32) (j : Nat) (g : Bool) (c3 c4 : Int32) : Prop := (g = true → (za_isS w && za_isS v) = true ∧ c3 = nI (za_tr Tg Co (za_clp w) (za_clp v) j).2.1 ∧ c4 = nI (za_tr Tg Co (za_clp w) (za_clp v) j).2.2 ∧ (za_tr Tg Co (za_clp w) (za_clp v) j).1 = true) ∧ (g = false → j = za_pnv Tg Co w v)
theorem za_pst0 (Tg Co : Nat → Int32) (w v : Int32) : za_pst Tg Co w v 0 (za_isp Tg Co w v) w v := by
  refine ⟨fun h => ?_, fun h => ?_⟩
  · obtain ⟨⟨s, hs, hw⟩, ⟨t, ht, hv⟩, hp⟩ := za_isp_of h
    have h2 := h
    unfold za_isp at h2
    rw [Bool.and_eq_true] at h2
    rw [za_tr0]
    dsimp only
    refine ⟨h2.1, ?_, ?_, hp⟩
    · rw [hw, za_clS hs]
    · rw [hv, za_clS ht]
  · unfold za_pnv
    by_cases g : (za_isS w && za_isS v) = true
    · rw [if_pos g]
      unfold za_isp at h
      rw [g, Bool.true_and] at h
      obtain ⟨⟨s, hs, hw⟩, t, ht, hv⟩ := za_isSS_of g
      refine za_play8 (by rw [hw, za_clS hs]; exact hs) (by rw [hv, za_clS ht]; exact ht) (fun q hq => absurd hq (Nat.not_lt_zero _)) ?_
      rw [za_tr0]
      dsimp only
      exact h
    · rw [if_neg g]
theorem za_prow_s {Tg Co Aq Sq : Nat → Int32} {w v : Int32} {j : Nat} (h : za_prow Tg Co w v j Aq Sq) (hss : (za_isS w && za_isS v) = true) (ht : (za_tr Tg Co (za_clp w) (za_clp v) j).1 = true) : za_prow Tg Co w v (j + 1) (upd Aq j (nI (za_cd9 Tg Co (za_tr Tg Co (za_clp w) (za_clp v) j).2.1 (za_tr Tg Co (za_clp w) (za_clp v) j).2.2))) (upd Sq j (za_ai (za_an Tg Co (za_tr Tg Co (za_clp w) (za_clp v) j).2.1 (za_tr Tg Co (za_clp w) (za_clp v) j).2.2))) := by
  intro q hq
  unfold upd
  by_cases e : q = j
  · subst e
    rw [if_pos rfl, if_pos rfl]
    exact ⟨hss, ht, rfl, rfl⟩
  · rw [if_neg e, if_neg e]
    exact h q (by omega)
theorem za_pst_s {Tg Co : Nat → Int32} {w v : Int32} {j : Nat} {g : Bool} {c3 c4 : Int32} {Aq Sq : Nat → Int32} (hr : za_prow Tg Co w v j Aq Sq) (hss : (za_isS w && za_isS v) = true) (ht : (za_tr Tg Co (za_clp w) (za_clp v) j).1 = true)
    (hc : ¬ za_an Tg Co (za_tr Tg Co (za_clp w) (za_clp v) j).2.1 (za_tr Tg Co (za_clp w) (za_clp v) j).2.2 = 24 → c3 = nI (za_x1 Tg Co (za_tr Tg Co (za_clp w) (za_clp v) j).2.1 (za_tr Tg Co (za_clp w) (za_clp v) j).2.2) ∧ c4 = nI (za_y1 Tg Co (za_tr Tg Co (za_clp w) (za_clp v) j).2.1 (za_tr Tg Co (za_clp w) (za_clp v) j).2.2))
    (hg : g = true ↔ ¬ za_an Tg Co (za_tr Tg Co (za_clp w) (za_clp v) j).2.1 (za_tr Tg Co (za_clp w) (za_clp v) j).2.2 = 24 ∧ za_pl Tg Co (za_x1 Tg Co (za_tr Tg Co (za_clp w) (za_clp v) j).2.1 (za_tr Tg Co (za_clp w) (za_clp v) j).2.2) (za_y1 Tg Co (za_tr Tg Co (za_clp w) (za_clp v) j).2.1 (za_tr Tg Co (za_clp w) (za_clp v) j).2.2) = true) : za_pst Tg Co w v (j + 1) g c3 c4 := by
  obtain ⟨⟨s, hs, hw⟩, t, h24, hv⟩ := za_isSS_of hss
  have hs1 : za_clp w < 24 := by rw [hw, za_clS hs]; exact hs
  have ht1 : za_clp v < 24 := by rw [hv, za_clS h24]; exact h24
  refine ⟨fun h => ?_, fun h => ?_⟩
  · obtain ⟨a, b⟩ := hg.mp h
    obtain ⟨c, d⟩ := hc a
    have e : za_tr Tg Co (za_clp w) (za_clp v) (j + 1) = (za_pl Tg Co (za_x1 Tg Co (za_tr Tg Co (za_clp w) (za_clp v) j).2.1 (za_tr Tg Co (za_clp w) (za_clp v) j).2.2) (za_y1 Tg Co (za_tr Tg Co (za_clp w) (za_clp v) j).2.1 (za_tr Tg Co (za_clp w) (za_clp v) j).2.2), za_x1 Tg Co (za_tr Tg Co (za_clp w) (za_clp v) j).2.1 (za_tr Tg Co (za_clp w) (za_clp v) j).2.2, za_y1 Tg Co (za_tr Tg Co (za_clp w) (za_clp v) j).2.1 (za_tr Tg Co (za_clp w) (za_clp v) j).2.2) := by
      rw [za_tr, if_pos ⟨ht, a⟩]
    rw [e]
    dsimp only
    exact ⟨hss, c, d, b⟩
  · unfold za_pnv
    rw [if_pos hss]
    refine za_play8 hs1 ht1 (fun q hq => ?_) ?_
    · by_cases e : q = j
      · rw [e]; exact ht
      · exact (hr q (by omega)).2.1
    · rw [za_tr]
      split
      · rename_i z
        dsimp only
        cases e : za_pl Tg Co (za_x1 Tg Co (za_tr Tg Co (za_clp w) (za_clp v) j).2.1 (za_tr Tg Co (za_clp w) (za_clp v) j).2.2) (za_y1 Tg Co (za_tr Tg Co (za_clp w) (za_clp v) j).2.1 (za_tr Tg Co (za_clp w) (za_clp v) j).2.2) with
        | false => rfl
        | true => rw [hg.mpr ⟨z.2, e⟩] at h; cases h
      · rfl
theorem za_isp_nn {Tg Co : Nat → Int32} {x y : Nat} (hx : x < 24) (hy : y < 24) : za_isp Tg Co (nI x) (nI y) = za_pl Tg Co x y := by
  have hi : ∀ z, z < 24 → za_isS (nI z) = true := fun z hz => za_isS1 (nI_pos (by omega)) (nI_ge hz (by omega))
  unfold za_isp
  rw [hi x hx, hi y hy, za_clS hx, za_clS hy, Bool.true_and, Bool.true_and]
theorem za_ai_nn {j : Nat} (h : ¬ j = 24) : za_ai j = nI j := by
  unfold za_ai
  rw [if_neg h]
/-- the reference goes on, or not, behind an attack of its own -/
theorem za_on1 {Tg Co : Nat → Int32} {x y : Nat} (hp : za_pl Tg Co x y = true) (h : za_mi Tg Co x y = true) (hn : ¬ za_ai (za_an Tg Co x y) < 0) : (za_isp Tg Co (nI (za_to Tg Co x y)) (za_ai (za_an Tg Co x y)) = true ↔ ¬ za_an Tg Co x y = 24 ∧ za_pl Tg Co (za_x1 Tg Co x y) (za_y1 Tg Co x y) = true) := by
  have h24 : ¬ za_an Tg Co x y = 24 := fun z => hn ((za_ai_neg (za_an_le x y)).mpr z)
  have g := za_next_bn hp h24
  have hx : za_x1 Tg Co x y = za_to Tg Co x y := by unfold za_x1; rw [if_pos h]
  have hy : za_y1 Tg Co x y = za_an Tg Co x y := by unfold za_y1; rw [if_pos h]
  rw [za_ai_nn h24, za_isp_nn (za_to_lt x y) g.2.2.2, hx, hy]
  exact ⟨fun z => ⟨h24, z⟩, fun z => z.2⟩
theorem za_on2 {Tg Co : Nat → Int32} {x y : Nat} (hp : za_pl Tg Co x y = true) (h : za_mi Tg Co x y = false) (hn : ¬ za_ai (za_an Tg Co x y) < 0) : (za_isp Tg Co (za_ai (za_an Tg Co x y)) (nI (za_to Tg Co x y)) = true ↔ ¬ za_an Tg Co x y = 24 ∧ za_pl Tg Co (za_x1 Tg Co x y) (za_y1 Tg Co x y) = true) := by
  have h24 : ¬ za_an Tg Co x y = 24 := fun z => hn ((za_ai_neg (za_an_le x y)).mpr z)
  have g := za_next_bn hp h24
  have hx : za_x1 Tg Co x y = za_an Tg Co x y := by unfold za_x1; rw [if_neg (by rw [h]; decide)]
  have hy : za_y1 Tg Co x y = za_to Tg Co x y := by unfold za_y1; rw [if_neg (by rw [h]; decide)]
  rw [za_ai_nn h24, za_isp_nn g.2.2.2 (za_to_lt x y), hx, hy]
  exact ⟨fun z => ⟨h24, z⟩, fun z => z.2⟩
theorem za_on0 {Tg Co : Nat → Int32} {x y : Nat} {a : Bool} (hn : za_ai (za_an Tg Co x y) < 0) (ha : a = false) : (a = true ↔ ¬ za_an Tg Co x y = 24 ∧ za_pl Tg Co (za_x1 Tg Co x y) (za_y1 Tg Co x y) = true) := by
  have h24 := (za_ai_neg (za_an_le x y)).mp hn
  rw [ha]
  exact ⟨fun z => absurd z (by decide), fun z => absurd h24 z.1⟩
theorem za_c1 {Tg Co : Nat → Int32} {x y : Nat} (h : za_mi Tg Co x y = true) (h24 : ¬ za_an Tg Co x y = 24) : nI (za_to Tg Co x y) = nI (za_x1 Tg Co x y) ∧ za_ai (za_an Tg Co x y) = nI (za_y1 Tg Co x y) := by
  have hx : za_x1 Tg Co x y = za_to Tg Co x y := by unfold za_x1; rw [if_pos h]
  have hy : za_y1 Tg Co x y = za_an Tg Co x y := by unfold za_y1; rw [if_pos h]
  rw [hx, hy, za_ai_nn h24]
  exact ⟨rfl, rfl⟩
theorem za_c2 {Tg Co : Nat → Int32} {x y : Nat} (h : za_mi Tg Co x y = false) (h24 : ¬ za_an Tg Co x y = 24) : za_ai (za_an Tg Co x y) = nI (za_x1 Tg Co x y) ∧ nI (za_to Tg Co x y) = nI (za_y1 Tg Co x y) := by
  have hx : za_x1 Tg Co x y = za_an Tg Co x y := by unfold za_x1; rw [if_neg (by rw [h]; decide)]
  have hy : za_y1 Tg Co x y = za_to Tg Co x y := by unfold za_y1; rw [if_neg (by rw [h]; decide)]
  rw [hx, hy, za_ai_nn h24]
  exact ⟨rfl, rfl⟩
theorem za_prow_at {Tg Co Aq Sq : Nat → Int32} {w v x0 : Int32} (hr : za_prow Tg Co w v (za_pnv Tg Co w v) Aq Sq) {y9 : Nat} (hss : (za_isS w && za_isS v) = true) (hy : y9 < za_pn Tg Co (za_clp w) (za_clp v)) : Aq y9 = nI (za_cd9 Tg Co (za_tr Tg Co (za_clp w) (za_clp v) y9).2.1 (za_tr Tg Co (za_clp w) (za_clp v) y9).2.2) ∧ Sq y9 = za_ai (za_an Tg Co (za_tr Tg Co (za_clp w) (za_clp v) y9).2.1 (za_tr Tg Co (za_clp w) (za_clp v) y9).2.2) := by
  have e : za_pnv Tg Co w v = za_pn Tg Co (za_clp w) (za_clp v) := by unfold za_pnv; rw [if_pos hss]
  exact (hr y9 (by omega)).2.2
theorem za_onT {x b : Bool} {P : Prop} (e : x = b) (h : x = true ↔ P) : b = true ↔ P := by
  rw [← e]
  exact h

