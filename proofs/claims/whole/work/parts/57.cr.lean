theorem za_an_1 {Tg Co : Nat → Int32} {x y : Nat} (h : za_mi Tg Co x y = true) : za_ai (za_bs (Tg (y * 4 + za_lb Tg Co x y)) (za_bn Tg Co (za_to Tg Co x y)) 24) = za_ai (za_an Tg Co x y) := by
  have e : za_ot Tg Co x y = y := by unfold za_ot; rw [if_pos h]
  unfold za_an
  rw [e]
theorem za_an_2 {Tg Co : Nat → Int32} {x y : Nat} (h : za_mi Tg Co x y = false) : za_ai (za_bs (Tg (x * 4 + za_lb Tg Co x y)) (za_bn Tg Co (za_to Tg Co x y)) 24) = za_ai (za_an Tg Co x y) := by
  have e : za_ot Tg Co x y = x := by unfold za_ot; rw [if_neg (by rw [h]; decide)]
  unfold za_an
  rw [e]
theorem za_han1 {Tg Co : Nat → Int32} {x y : Nat} (hp : za_pl Tg Co x y = true) (h : za_mi Tg Co x y = true) : ∀ v, v < 24 → bt (Tg (y * 4 + za_lb Tg Co x y)) v = true → za_bn Tg Co (za_to Tg Co x y) v < 24 := by
  intro v hv hb
  have e : za_ot Tg Co x y = y := by unfold za_ot; rw [if_pos h]
  have g := za_ans_bn hp v hv (by rw [e]; exact hb)
  have := (za_pl_iff.mp hp).1
  omega
theorem za_han2 {Tg Co : Nat → Int32} {x y : Nat} (hp : za_pl Tg Co x y = true) (h : za_mi Tg Co x y = false) : ∀ v, v < 24 → bt (Tg (x * 4 + za_lb Tg Co x y)) v = true → za_bn Tg Co (za_to Tg Co x y) v < 24 := by
  intro v hv hb
  have e : za_ot Tg Co x y = x := by unfold za_ot; rw [if_neg (by rw [h]; decide)]
  have g := za_ans_bn hp v hv (by rw [e]; exact hb)
  have := (za_pl_iff.mp hp).1
  omega
theorem za_cd1 {Tg Co : Nat → Int32} {x y : Nat} (h : za_mi Tg Co x y = true) : nI (0 + 100 * za_lb Tg Co x y + za_to Tg Co x y) = nI (za_cd9 Tg Co x y) := by
  unfold za_cd9
  rw [if_pos h]
theorem za_cd2 {Tg Co : Nat → Int32} {x y : Nat} (h : za_mi Tg Co x y = false) : nI (1000 + 100 * za_lb Tg Co x y + za_to Tg Co x y) = nI (za_cd9 Tg Co x y) := by
  unfold za_cd9
  rw [if_neg (by rw [h]; decide)]
/-- what stands in the reference's rows when j attacks are made -/
def za_prow (Tg Co : Nat → Int32) (w v : Int32) (j : Nat) (Aq Sq : Nat → Int32) : Prop := ∀ q, q < j → (za_isS w && za_isS v) = true ∧ (za_tr Tg Co (za_clp w) (za_clp v) q).1 = true ∧ Aq q = nI (za_cd9 Tg Co (za_tr Tg Co (za_clp w) (za_clp v) q).2.1 (za_tr Tg Co (za_clp w) (za_clp v) q).2.2) ∧ Sq q = za_ai (za_an Tg Co (za_tr Tg Co (za_clp w) (za_clp v) q).2.1 (za_tr Tg Co (za_clp w) (za_clp v) q).2.2)
def za_pst (Tg Co : Nat → Int32) (w v : Int32) (j : Nat) (g : Bool) (c3 c4 : Int32) : Prop := (g = true → (za_isS w && za_isS v) = true ∧ c3 = nI (za_tr Tg Co (za_clp w) (za_clp v) j).2.1 ∧ c4 = nI (za_tr Tg Co (za_clp w) (za_clp v) j).2.2 ∧ (za_tr Tg Co (za_clp w) (za_clp v) j).1 = true) ∧ (g = false → j = za_pnv Tg Co w v)
theorem za_pst0 (Tg Co : Nat → Int32) (w v : Int32) : za_pst Tg Co w v 0 (za_isp Tg Co w v) w v := by
  refine ⟨fun h => ?_, fun h => ?_⟩
  · obtain ⟨⟨s, hs, hw⟩, ⟨t, ht, hv⟩, hp⟩ := za_isp_of h
    have h2 := h
    unfold za_isp at h2
    rw [Bool.and_eq_true] at h2
    rw [za_tr0]
    dsimp only
    refine ⟨h2.1, ?_, ?_, hp⟩
    · rw [hw, za_clS hs]
    · rw [hv, za_clS ht]
  · unfold za_pnv
    by_cases g : (za_isS w && za_isS v) = true
    · rw [if_pos g]
      unfold za_isp at h
      rw [g, Bool.true_and] at h
      obtain ⟨⟨s, hs, hw⟩, t, ht, hv⟩ := za_isSS_of g
      refine za_play8 (by rw [hw, za_clS hs]; exact hs) (by rw [hv, za_clS ht]; exact ht) (fun q hq => absurd hq (Nat.not_lt_zero _)) ?_
      rw [za_tr0]
      exact h
    · rw [if_neg g]
theorem za_prow_s {Tg Co Aq Sq : Nat → Int32} {w v : Int32} {j : Nat} (h : za_prow Tg Co w v j Aq Sq) (hss : (za_isS w && za_isS v) = true) (ht : (za_tr Tg Co (za_clp w) (za_clp v) j).1 = true) : za_prow Tg Co w v (j + 1) (upd Aq j (nI (za_cd9 Tg Co (za_tr Tg Co (za_clp w) (za_clp v) j).2.1 (za_tr Tg Co (za_clp w) (za_clp v) j).2.2))) (upd Sq j (za_ai (za_an Tg Co (za_tr Tg Co (za_clp w) (za_clp v) j).2.1 (za_tr Tg Co (za_clp w) (za_clp v) j).2.2))) := by
  intro q hq
  unfold upd
  by_cases e : q = j
  · subst e
    rw [if_pos rfl, if_pos rfl]
    exact ⟨hss, ht, rfl, rfl⟩
  · rw [if_neg e, if_neg e]
    exact h q (by omega)
theorem za_pst_s {Tg Co : Nat → Int32} {w v : Int32} {j : Nat} {g : Bool} {c3 c4 : Int32} {Aq Sq : Nat → Int32} (hr : za_prow Tg Co w v j Aq Sq) (hss : (za_isS w && za_isS v) = true) (ht : (za_tr Tg Co (za_clp w) (za_clp v) j).1 = true)
    (hc : ¬ za_an Tg Co (za_tr Tg Co (za_clp w) (za_clp v) j).2.1 (za_tr Tg Co (za_clp w) (za_clp v) j).2.2 = 24 → c3 = nI (za_x1 Tg Co (za_tr Tg Co (za_clp w) (za_clp v) j).2.1 (za_tr Tg Co (za_clp w) (za_clp v) j).2.2) ∧ c4 = nI (za_y1 Tg Co (za_tr Tg Co (za_clp w) (za_clp v) j).2.1 (za_tr Tg Co (za_clp w) (za_clp v) j).2.2))
    (hg : g = true ↔ ¬ za_an Tg Co (za_tr Tg Co (za_clp w) (za_clp v) j).2.1 (za_tr Tg Co (za_clp w) (za_clp v) j).2.2 = 24 ∧ za_pl Tg Co (za_x1 Tg Co (za_tr Tg Co (za_clp w) (za_clp v) j).2.1 (za_tr Tg Co (za_clp w) (za_clp v) j).2.2) (za_y1 Tg Co (za_tr Tg Co (za_clp w) (za_clp v) j).2.1 (za_tr Tg Co (za_clp w) (za_clp v) j).2.2) = true) : za_pst Tg Co w v (j + 1) g c3 c4 := by
  obtain ⟨⟨s, hs, hw⟩, t, h24, hv⟩ := za_isSS_of hss
  have hs1 : za_clp w < 24 := by rw [hw, za_clS hs]; exact hs
  have ht1 : za_clp v < 24 := by rw [hv, za_clS h24]; exact h24
  refine ⟨fun h => ?_, fun h => ?_⟩
  · obtain ⟨a, b⟩ := hg.mp h
    obtain ⟨c, d⟩ := hc a
    have e : za_tr Tg Co (za_clp w) (za_clp v) (j + 1) = (za_pl Tg Co (za_x1 Tg Co (za_tr Tg Co (za_clp w) (za_clp v) j).2.1 (za_tr Tg Co (za_clp w) (za_clp v) j).2.2) (za_y1 Tg Co (za_tr Tg Co (za_clp w) (za_clp v) j).2.1 (za_tr Tg Co (za_clp w) (za_clp v) j).2.2), za_x1 Tg Co (za_tr Tg Co (za_clp w) (za_clp v) j).2.1 (za_tr Tg Co (za_clp w) (za_clp v) j).2.2, za_y1 Tg Co (za_tr Tg Co (za_clp w) (za_clp v) j).2.1 (za_tr Tg Co (za_clp w) (za_clp v) j).2.2) := by
      rw [za_tr, if_pos ⟨ht, a⟩]
    rw [e]
    dsimp only
    exact ⟨hss, c, d, b⟩
  · unfold za_pnv
    rw [if_pos hss]
    refine za_play8 hs1 ht1 (fun q hq => ?_) ?_
    · by_cases e : q = j
      · rw [e]; exact ht
      · exact (hr q (by omega)).2.1
    · rw [za_tr]
      split
      · rename_i z
        dsimp only
        cases e : za_pl Tg Co (za_x1 Tg Co (za_tr Tg Co (za_clp w) (za_clp v) j).2.1 (za_tr Tg Co (za_clp w) (za_clp v) j).2.2) (za_y1 Tg Co (za_tr Tg Co (za_clp w) (za_clp v) j).2.1 (za_tr Tg Co (za_clp w) (za_clp v) j).2.2) with
        | false => rfl
        | true => rw [hg.mpr ⟨z.2, e⟩] at h; cases h
      · rfl
theorem za_isp_nn {Tg Co : Nat → Int32} {x y : Nat} (hx : x < 24) (hy : y < 24) : za_isp Tg Co (nI x) (nI y) = za_pl Tg Co x y := by
  have hi : ∀ z, z < 24 → za_isS (nI z) = true := fun z hz => za_isS1 (nI_pos (by omega)) (nI_ge hz (by omega))
  unfold za_isp
  rw [hi x hx, hi y hy, za_clS hx, za_clS hy]
  rfl
theorem za_ai_nn {j : Nat} (h : ¬ j = 24) : za_ai j = nI j := by
  unfold za_ai
  rw [if_neg h]
/-- the reference goes on, or not, behind an attack of its own -/
theorem za_on1 {Tg Co : Nat → Int32} {x y : Nat} (hp : za_pl Tg Co x y = true) (h : za_mi Tg Co x y = true) (hn : ¬ za_ai (za_an Tg Co x y) < 0) : (za_isp Tg Co (nI (za_to Tg Co x y)) (za_ai (za_an Tg Co x y)) = true ↔ ¬ za_an Tg Co x y = 24 ∧ za_pl Tg Co (za_x1 Tg Co x y) (za_y1 Tg Co x y) = true) := by
  have h24 : ¬ za_an Tg Co x y = 24 := fun z => hn ((za_ai_neg (za_an_le x y)).mpr z)
  have g := za_next_bn hp h24
  have hx : za_x1 Tg Co x y = za_to Tg Co x y := by unfold za_x1; rw [if_pos h]
  have hy : za_y1 Tg Co x y = za_an Tg Co x y := by unfold za_y1; rw [if_pos h]
  rw [za_ai_nn h24, za_isp_nn (za_to_lt x y) g.2.2.2, hx, hy]
  exact ⟨fun z => ⟨h24, z⟩, fun z => z.2⟩
theorem za_on2 {Tg Co : Nat → Int32} {x y : Nat} (hp : za_pl Tg Co x y = true) (h : za_mi Tg Co x y = false) (hn : ¬ za_ai (za_an Tg Co x y) < 0) : (za_isp Tg Co (za_ai (za_an Tg Co x y)) (nI (za_to Tg Co x y)) = true ↔ ¬ za_an Tg Co x y = 24 ∧ za_pl Tg Co (za_x1 Tg Co x y) (za_y1 Tg Co x y) = true) := by
  have h24 : ¬ za_an Tg Co x y = 24 := fun z => hn ((za_ai_neg (za_an_le x y)).mpr z)
  have g := za_next_bn hp h24
  have hx : za_x1 Tg Co x y = za_an Tg Co x y := by unfold za_x1; rw [if_neg (by rw [h]; decide)]
  have hy : za_y1 Tg Co x y = za_to Tg Co x y := by unfold za_y1; rw [if_neg (by rw [h]; decide)]
  rw [za_ai_nn h24, za_isp_nn g.2.2.2 (za_to_lt x y), hx, hy]
  exact ⟨fun z => ⟨h24, z⟩, fun z => z.2⟩
theorem za_on0 {Tg Co : Nat → Int32} {x y : Nat} {a : Bool} (hn : za_ai (za_an Tg Co x y) < 0) (ha : a = false) : (a = true ↔ ¬ za_an Tg Co x y = 24 ∧ za_pl Tg Co (za_x1 Tg Co x y) (za_y1 Tg Co x y) = true) := by
  have h24 := (za_ai_neg (za_an_le x y)).mp hn
  rw [ha]
  exact ⟨fun z => by cases z, fun z => absurd h24 z.1⟩
theorem za_c1 {Tg Co : Nat → Int32} {x y : Nat} (h : za_mi Tg Co x y = true) (h24 : ¬ za_an Tg Co x y = 24) : nI (za_to Tg Co x y) = nI (za_x1 Tg Co x y) ∧ za_ai (za_an Tg Co x y) = nI (za_y1 Tg Co x y) := by
  have hx : za_x1 Tg Co x y = za_to Tg Co x y := by unfold za_x1; rw [if_pos h]
  have hy : za_y1 Tg Co x y = za_an Tg Co x y := by unfold za_y1; rw [if_pos h]
  rw [hx, hy, za_ai_nn h24]
  exact ⟨rfl, rfl⟩
theorem za_c2 {Tg Co : Nat → Int32} {x y : Nat} (h : za_mi Tg Co x y = false) (h24 : ¬ za_an Tg Co x y = 24) : za_ai (za_an Tg Co x y) = nI (za_x1 Tg Co x y) ∧ nI (za_to Tg Co x y) = nI (za_y1 Tg Co x y) := by
  have hx : za_x1 Tg Co x y = za_an Tg Co x y := by unfold za_x1; rw [if_neg (by rw [h]; decide)]
  have hy : za_y1 Tg Co x y = za_to Tg Co x y := by unfold za_y1; rw [if_neg (by rw [h]; decide)]
  rw [hx, hy, za_ai_nn h24]
  exact ⟨rfl, rfl⟩
theorem za_prow_at {Tg Co Aq Sq : Nat → Int32} {w v x0 : Int32} (hr : za_prow Tg Co w v (za_pnv Tg Co w v) Aq Sq) {y9 : Nat} (hss : (za_isS w && za_isS v) = true) (hy : y9 < za_pn Tg Co (za_clp w) (za_clp v)) : Aq y9 = nI (za_cd9 Tg Co (za_tr Tg Co (za_clp w) (za_clp v) y9).2.1 (za_tr Tg Co (za_clp w) (za_clp v) y9).2.2) ∧ Sq y9 = za_ai (za_an Tg Co (za_tr Tg Co (za_clp w) (za_clp v) y9).2.1 (za_tr Tg Co (za_clp w) (za_clp v) y9).2.2) := by
  have e : za_pnv Tg Co w v = za_pn Tg Co (za_clp w) (za_clp v) := by unfold za_pnv; rw [if_pos hss]
  exact (hr y9 (by omega)).2.2
def zr_M_playOn : Room := { frames := 5, cells := 0, slots := 0, locals := 118 }
set_option maxHeartbeats 2000000 in
set_option maxRecDepth 100000 in
theorem zc_M_playOn (ln : Launch) (D : va_G) (cI cZ : ClassId) (sz : Nat) (aO : Nat) (aMv : Nat) (aMc : Nat) (aBr : Nat) (aCd : Nat) (aNx : Nat) (aMk : Nat) (aAt : Nat) (aAs : Nat) (mkc : Nat) (mpl : Nat) (mn : Int32) (kn : Bool) (Mv : Nat → Bool) (Mc : Nat → Int32) (Br : Nat → Int32) (Cd : Nat → Bool) (Nx : Nat → Bool) (Mk : Nat → Int32) (Tg : Nat → Int32) (Co : Nat → Int32) (At : Nat → Int32) (As : Nat → Int32) (w : Int32) (v : Int32) (hMv : za_rel Tg Mv) (hMc : (∀ s, s < 24 → Mc s = Co s)) (hkn : kn = true → (za_brs Tg Co Br ∧ za_cds Tg Co Cd ∧ (∀ x, x < 24 → Mk x = za_kd Tg Co x) ∧ mkc = za_kc Tg Co)) : Met ln zm_M_playOn (Cond.code zm_M_playOn zo_M_playOn 11 none :: zb_big) zr_M_playOn (za_Pw D vwCl [(cI, .int), (cZ, .boolean)] [.ref aO, .int w, .int v] [(aO, .inr (5, [.ref aMv, .int mn, .ref aMc, .int (za_bi kn), .ref aBr, .ref aCd, .ref aNx, .int (nI mkc), .ref aMk, .int (nI mpl), .ref aAt, .ref aAs])), (aMv, .inl (cZ, 2304, .inl (fun j => za_bi (Mv j)))), (aMc, .inl (cI, 24, .inl Mc)), (aBr, .inl (cI, 576, .inl Br)), (aCd, .inl (cZ, 576, .inl (fun j => za_bi (Cd j)))), (aNx, .inl (cZ, 576, .inl (fun j => za_bi (Nx j)))), (aMk, .inl (cI, 24, .inl Mk)), (aAt, .inl (cI, 600, .inl At)), (aAs, .inl (cI, 600, .inl As))] sz) (va_Qv (fun (u : (Nat → Int32) × (Nat → Bool) × (Nat → Bool) × (Nat → Int32) × (Nat → Int32) × (Nat → Int32) × Nat) => za_brs Tg Co u.1 ∧ za_cds Tg Co u.2.1 ∧ (∀ x, x < 24 → u.2.2.2.1 x = za_kd Tg Co x) ∧ u.2.2.2.2.2.2 = za_pnv Tg Co w v ∧ za_prow Tg Co w v u.2.2.2.2.2.2 u.2.2.2.2.1 u.2.2.2.2.2.1) (za_B D vwCl [(aO, .inr (5, [.ref aMv, .int mn, .ref aMc, .int (za_bi kn), .ref aBr, .ref aCd, .ref aNx, .int (nI mkc), .ref aMk, .int (nI mpl), .ref aAt, .ref aAs])), (aMv, .inl (cZ, 2304, .inl (fun j => za_bi (Mv j)))), (aMc, .inl (cI, 24, .inl Mc)), (aBr, .inl (cI, 576, .inl Br)), (aCd, .inl (cZ, 576, .inl (fun j => za_bi (Cd j)))), (aNx, .inl (cZ, 576, .inl (fun j => za_bi (Nx j)))), (aMk, .inl (cI, 24, .inl Mk)), (aAt, .inl (cI, 600, .inl At)), (aAs, .inl (cI, 600, .inl As))] sz (fun (u : (Nat → Int32) × (Nat → Bool) × (Nat → Bool) × (Nat → Int32) × (Nat → Int32) × (Nat → Int32) × Nat) => [(aO, .inr (5, [.ref aMv, .int mn, .ref aMc, .int (za_bi true), .ref aBr, .ref aCd, .ref aNx, .int (nI (za_kc Tg Co)), .ref aMk, .int (nI u.2.2.2.2.2.2), .ref aAt, .ref aAs])), (aMv, .inl (cZ, 2304, .inl (fun j => za_bi (Mv j)))), (aMc, .inl (cI, 24, .inl Mc)), (aBr, .inl (cI, 576, .inl u.1)), (aCd, .inl (cZ, 576, .inl (fun j => za_bi (u.2.1 j)))), (aNx, .inl (cZ, 576, .inl (fun j => za_bi (u.2.2.1 j)))), (aMk, .inl (cI, 24, .inl u.2.2.2.1)), (aAt, .inl (cI, 600, .inl u.2.2.2.2.1)), (aAs, .inl (cI, 600, .inl u.2.2.2.2.2.1))])) (va_A [(aO, .inr (5, [.ref aMv, .int mn, .ref aMc, .int (za_bi kn), .ref aBr, .ref aCd, .ref aNx, .int (nI mkc), .ref aMk, .int (nI mpl), .ref aAt, .ref aAs])), (aMv, .inl (cZ, 2304, .inl (fun j => za_bi (Mv j)))), (aMc, .inl (cI, 24, .inl Mc)), (aBr, .inl (cI, 576, .inl Br)), (aCd, .inl (cZ, 576, .inl (fun j => za_bi (Cd j)))), (aNx, .inl (cZ, 576, .inl (fun j => za_bi (Nx j)))), (aMk, .inl (cI, 24, .inl Mk)), (aAt, .inl (cI, 600, .inl At)), (aAs, .inl (cI, 600, .inl As))] sz)) 0 0 (va_A [(aO, .inr (5, [.ref aMv, .int mn, .ref aMc, .int (za_bi kn), .ref aBr, .ref aCd, .ref aNx, .int (nI mkc), .ref aMk, .int (nI mpl), .ref aAt, .ref aAs])), (aMv, .inl (cZ, 2304, .inl (fun j => za_bi (Mv j)))), (aMc, .inl (cI, 24, .inl Mc)), (aBr, .inl (cI, 576, .inl Br)), (aCd, .inl (cZ, 576, .inl (fun j => za_bi (Cd j)))), (aNx, .inl (cZ, 576, .inl (fun j => za_bi (Nx j)))), (aMk, .inl (cI, 24, .inl Mk)), (aAt, .inl (cI, 600, .inl At)), (aAs, .inl (cI, 600, .inl As))] sz) := by
  refine za_wv (cc := zo_M_playOn) (maxL := 11) (by decide) (Nat.le_of_ble_eq_true rfl) ?_
  intro p e sg m args below meth c H0 A Q hx hb hml hts hown hmn hP hK hN hD hA hS hret ls hl
  have hP : va_P D vwCl [(aO, .inr (5, [.ref aMv, .int mn, .ref aMc, .int (za_bi kn), .ref aBr, .ref aCd, .ref aNx, .int (nI mkc), .ref aMk, .int (nI mpl), .ref aAt, .ref aAs])), (aMv, .inl (cZ, 2304, .inl (fun j => za_bi (Mv j)))), (aMc, .inl (cI, 24, .inl Mc)), (aBr, .inl (cI, 576, .inl Br)), (aCd, .inl (cZ, 576, .inl (fun j => za_bi (Cd j)))), (aNx, .inl (cZ, 576, .inl (fun j => za_bi (Nx j)))), (aMk, .inl (cI, 24, .inl Mk)), (aAt, .inl (cI, 600, .inl At)), (aAs, .inl (cI, 600, .inl As))] H0 := hP
  have hD : va_D A [(aO, .inr (5, [.ref aMv, .int mn, .ref aMc, .int (za_bi kn), .ref aBr, .ref aCd, .ref aNx, .int (nI mkc), .ref aMk, .int (nI mpl), .ref aAt, .ref aAs])), (aMv, .inl (cZ, 2304, .inl (fun j => za_bi (Mv j)))), (aMc, .inl (cI, 24, .inl Mc)), (aBr, .inl (cI, 576, .inl Br)), (aCd, .inl (cZ, 576, .inl (fun j => za_bi (Cd j)))), (aNx, .inl (cZ, 576, .inl (fun j => za_bi (Nx j)))), (aMk, .inl (cI, 24, .inl Mk)), (aAt, .inl (cI, 600, .inl At)), (aAs, .inl (cI, 600, .inl As))] := hD
  have hl : lv_has ls 11 [(0, .ref aO), (1, .int w), (2, .int v)] := hl
  have hf92 := hts _ zw_452
  have hf29 := hts _ zw_453
  have hf32 := hts _ zw_454
  refine lv_aload_n hx hb zd_M_playOn_0 rfl (lv_at hl 0 rfl) ?_
  refine za_wVv (As := []) (rest := []) (wr := [(aAt, .inl (cI, 600, .inl At)), (aAs, .inl (cI, 600, .inl As))]) (wz := (fun u => [(aO, .inr (5, [.ref aMv, .int mn, .ref aMc, .int (za_bi true), .ref aBr, .ref aCd, .ref aNx, .int (nI (za_kc Tg Co)), .ref aMk, .int (nI mpl), .ref aAt, .ref aAs])), (aMv, .inl (cZ, 2304, .inl (fun j => za_bi (Mv j)))), (aMc, .inl (cI, 24, .inl Mc)), (aBr, .inl (cI, 576, .inl u.1)), (aCd, .inl (cZ, 576, .inl (fun j => za_bi (u.2.1 j)))), (aNx, .inl (cZ, 576, .inl (fun j => za_bi (u.2.2.1 j)))), (aMk, .inl (cI, 24, .inl u.2.2.2)), (aAt, .inl (cI, 600, .inl At)), (aAs, .inl (cI, 600, .inl As))])) ⟨hx, hb, hml, hown, hts⟩ (zc_M_look ln D cI cZ _ aO aMv aMc aBr aCd aNx aMk aAt aAs mkc mpl mn kn Mv Mc Br Cd Nx Mk Tg Co (by exact hMv) (by exact hMc) (by exact hkn)) (za_gV 0 hts zw_515 zw_517 zw_20 zw_40 zw_518 (by decide +kernel) ⟨Nat.le_of_ble_eq_true rfl, Nat.le_of_ble_eq_true rfl⟩) hK hN hP hD hS hA [0, 1, 2, 3, 4, 5, 6] [7, 8] [2, 3, 4, 5, 6, 7, 8, 0, 1] rfl rfl (by decide) (by decide) (by decide) (by decide) (fun _ => rfl) (q0 := 0) rfl rfl hl rfl rfl (Nat.le_of_ble_eq_true rfl) zd_M_playOn_1 ⟨Nat.le_of_ble_eq_true rfl, Nat.le_of_ble_eq_true rfl⟩ (fun u1 H locs hq1 hP hD hS => ?_)
  obtain ⟨Br1_1, Cd1_1, Nx1_1, Mk1_1⟩ := u1
  have hP : va_P D vwCl [(aO, .inr (5, [.ref aMv, .int mn, .ref aMc, .int (za_bi true), .ref aBr, .ref aCd, .ref aNx, .int (nI (za_kc Tg Co)), .ref aMk, .int (nI mpl), .ref aAt, .ref aAs])), (aMv, .inl (cZ, 2304, .inl (fun j => za_bi (Mv j)))), (aMc, .inl (cI, 24, .inl Mc)), (aBr, .inl (cI, 576, .inl Br1_1)), (aCd, .inl (cZ, 576, .inl (fun j => za_bi (Cd1_1 j)))), (aNx, .inl (cZ, 576, .inl (fun j => za_bi (Nx1_1 j)))), (aMk, .inl (cI, 24, .inl Mk1_1)), (aAt, .inl (cI, 600, .inl At)), (aAs, .inl (cI, 600, .inl As))] H := hP
  have hD : va_D A [(aO, .inr (5, [.ref aMv, .int mn, .ref aMc, .int (za_bi true), .ref aBr, .ref aCd, .ref aNx, .int (nI (za_kc Tg Co)), .ref aMk, .int (nI mpl), .ref aAt, .ref aAs])), (aMv, .inl (cZ, 2304, .inl (fun j => za_bi (Mv j)))), (aMc, .inl (cI, 24, .inl Mc)), (aBr, .inl (cI, 576, .inl Br1_1)), (aCd, .inl (cZ, 576, .inl (fun j => za_bi (Cd1_1 j)))), (aNx, .inl (cZ, 576, .inl (fun j => za_bi (Nx1_1 j)))), (aMk, .inl (cI, 24, .inl Mk1_1)), (aAt, .inl (cI, 600, .inl At)), (aAs, .inl (cI, 600, .inl As))] := hD
  have hq1 : za_brs Tg Co Br1_1 ∧ za_cds Tg Co Cd1_1 ∧ (∀ x, x < 24 → Mk1_1 x = za_kd Tg Co x) := hq1
  refine lv_aload_n hx hb zd_M_playOn_4 rfl (lv_at hl 0 rfl) ?_
  refine lv_iconst (v := nI 0) hx hb zd_M_playOn_5 (by decide) ?_
  refine va_put (D := D) (ci := 5) (v := .int (nI 0)) (ty := .int) (C := zs_M) (T := zt_M) (N := 12) hx hb hts zi_M zy_M zk_M zn_M hown hK hP hD hS 0 rfl rfl 9 (by decide) hf92 (fun _ h9 => h9) rfl (by decide +kernel) rfl rfl (Nat.le_of_ble_eq_true rfl) zd_M_playOn_6 (fun H locs hP hD hS => ?_)
  have hP : va_P D vwCl [(aO, .inr (5, [.ref aMv, .int mn, .ref aMc, .int (za_bi true), .ref aBr, .ref aCd, .ref aNx, .int (nI (za_kc Tg Co)), .ref aMk, .int (nI 0), .ref aAt, .ref aAs])), (aMv, .inl (cZ, 2304, .inl (fun j => za_bi (Mv j)))), (aMc, .inl (cI, 24, .inl Mc)), (aBr, .inl (cI, 576, .inl Br1_1)), (aCd, .inl (cZ, 576, .inl (fun j => za_bi (Cd1_1 j)))), (aNx, .inl (cZ, 576, .inl (fun j => za_bi (Nx1_1 j)))), (aMk, .inl (cI, 24, .inl Mk1_1)), (aAt, .inl (cI, 600, .inl At)), (aAs, .inl (cI, 600, .inl As))] H := hP
  have hD : va_D A [(aO, .inr (5, [.ref aMv, .int mn, .ref aMc, .int (za_bi true), .ref aBr, .ref aCd, .ref aNx, .int (nI (za_kc Tg Co)), .ref aMk, .int (nI 0), .ref aAt, .ref aAs])), (aMv, .inl (cZ, 2304, .inl (fun j => za_bi (Mv j)))), (aMc, .inl (cI, 24, .inl Mc)), (aBr, .inl (cI, 576, .inl Br1_1)), (aCd, .inl (cZ, 576, .inl (fun j => za_bi (Cd1_1 j)))), (aNx, .inl (cZ, 576, .inl (fun j => za_bi (Nx1_1 j)))), (aMk, .inl (cI, 24, .inl Mk1_1)), (aAt, .inl (cI, 600, .inl At)), (aAs, .inl (cI, 600, .inl As))] := hD
  refine lv_iload_n hx hb zd_M_playOn_9 rfl (lv_at hl 1 rfl) ?_
  refine lv_istore_n (lv' := [(3, .int w), (0, .ref aO), (1, .int w), (2, .int v)]) hx hb zd_M_playOn_10 rfl hl (by decide) rfl (fun ls hl => ?_)
  refine lv_iload_n hx hb zd_M_playOn_11 rfl (lv_at hl 3 rfl) ?_
  refine lv_istore (lv' := [(4, .int v), (3, .int w), (0, .ref aO), (1, .int w), (2, .int v)]) hx hb zd_M_playOn_12 hl (by decide) rfl (fun ls hl => ?_)
  refine lv_aload_n hx hb zd_M_playOn_14 rfl (lv_at hl 2 rfl) ?_
  refine lv_iload_n hx hb zd_M_playOn_15 rfl (lv_at hl 1 rfl) ?_
  refine lv_iload hx hb zd_M_playOn_16 (lv_at hl 0 rfl) ?_
  refine za_cV (As := [.int w, .int v]) (rest := []) ⟨hx, hb, hml, hown, hts⟩ (zc_M_isPlayed ln D cI cZ aO aMv aMc aBr aCd aNx aMk aAt aAs (za_kc Tg Co) 0 mn true Br1_1 Tg Co w v (by exact hq1.1)) (za_gV 2 hts zw_587 zw_589 zw_29 zw_40 zw_590 (by decide +kernel) ⟨Nat.le_of_ble_eq_true rfl, Nat.le_of_ble_eq_true rfl⟩) hK hN hP [0, 3] rfl (q0 := 0) rfl rfl hl rfl rfl (Nat.le_of_ble_eq_true rfl) zd_M_playOn_18 ⟨Nat.le_of_ble_eq_true rfl, Nat.le_of_ble_eq_true rfl⟩ ?_
  refine lv_istore (lv' := [(5, .int (za_bi (za_isp Tg Co w v))), (4, .int v), (3, .int w), (0, .ref aO), (1, .int w), (2, .int v)]) hx hb zd_M_playOn_21 hl (by decide) rfl (fun ls hl => ?_)
  have hC23 : ∀ (n23 : Nat) (j : Nat) (g : Bool) (c3 : Int32) (c4 : Int32) (Aq : Nat → Int32) (Sq : Nat → Int32) (ls : Array Slot) (H : Heap) (locs : List Loc), 25 - j < n23 → j ≤ 24 → za_pst Tg Co w v j g c3 c4 → za_prow Tg Co w v j Aq Sq → lv_has ls 11 [(0, .ref aO), (1, .int w), (2, .int v), (3, .int c3), (4, .int c4), (5, .int (za_bi g))] → va_P D vwCl [(aO, .inr (5, [.ref aMv, .int mn, .ref aMc, .int (za_bi true), .ref aBr, .ref aCd, .ref aNx, .int (nI (za_kc Tg Co)), .ref aMk, .int (nI j), .ref aAt, .ref aAs])), (aMv, .inl (cZ, 2304, .inl (fun j => za_bi (Mv j)))), (aMc, .inl (cI, 24, .inl Mc)), (aBr, .inl (cI, 576, .inl Br1_1)), (aCd, .inl (cZ, 576, .inl (fun j => za_bi (Cd1_1 j)))), (aNx, .inl (cZ, 576, .inl (fun j => za_bi (Nx1_1 j)))), (aMk, .inl (cI, 24, .inl Mk1_1)), (aAt, .inl (cI, 600, .inl Aq)), (aAs, .inl (cI, 600, .inl Sq))] H → va_D A [(aO, .inr (5, [.ref aMv, .int mn, .ref aMc, .int (za_bi true), .ref aBr, .ref aCd, .ref aNx, .int (nI (za_kc Tg Co)), .ref aMk, .int (nI j), .ref aAt, .ref aAs])), (aMv, .inl (cZ, 2304, .inl (fun j => za_bi (Mv j)))), (aMc, .inl (cI, 24, .inl Mc)), (aBr, .inl (cI, 576, .inl Br1_1)), (aCd, .inl (cZ, 576, .inl (fun j => za_bi (Cd1_1 j)))), (aNx, .inl (cZ, 576, .inl (fun j => za_bi (Nx1_1 j)))), (aMk, .inl (cI, 24, .inl Mk1_1)), (aAt, .inl (cI, 600, .inl Aq)), (aAs, .inl (cI, 600, .inl Sq))] → va_S A H0 H locs → W p ln e zr_M_playOn sg m args below meth c H locs 0 0 Q (F0 m 23 ls []) := by
    intro n23
    induction n23 with
    | zero => intro j g c3 c4 Aq Sq ls H locs hn23 hj hst hrw hl hP hD hS; exact absurd hn23 (Nat.not_lt_zero _)
    | succ n23 ih23 =>
      intro j g c3 c4 Aq Sq ls H locs hn23 hj hst hrw hl hP hD hS
      refine lv_iload hx hb zd_M_playOn_23 (lv_at hl 5 rfl) ?_
      refine lv_if_eq hx hb (tgt := 192) zd_M_playOn_25 (by decide) (fun h25 => ?_) (fun h25 => ?_)
      · have h25 := za_bF h25
        have hP9 : va_P D vwCl [(aO, .inr (5, [.ref aMv, .int mn, .ref aMc, .int (za_bi true), .ref aBr, .ref aCd, .ref aNx, .int (nI (za_kc Tg Co)), .ref aMk, .int (nI j), .ref aAt, .ref aAs])), (aMv, .inl (cZ, 2304, .inl (fun j => za_bi (Mv j)))), (aMc, .inl (cI, 24, .inl Mc)), (aBr, .inl (cI, 576, .inl Br1_1)), (aCd, .inl (cZ, 576, .inl (fun j => za_bi (Cd1_1 j)))), (aNx, .inl (cZ, 576, .inl (fun j => za_bi (Nx1_1 j)))), (aMk, .inl (cI, 24, .inl Mk1_1)), (aAt, .inl (cI, 600, .inl Aq)), (aAs, .inl (cI, 600, .inl Sq))] H := hP
        have hD9 : va_D A [(aO, .inr (5, [.ref aMv, .int mn, .ref aMc, .int (za_bi true), .ref aBr, .ref aCd, .ref aNx, .int (nI (za_kc Tg Co)), .ref aMk, .int (nI j), .ref aAt, .ref aAs])), (aMv, .inl (cZ, 2304, .inl (fun j => za_bi (Mv j)))), (aMc, .inl (cI, 24, .inl Mc)), (aBr, .inl (cI, 576, .inl Br1_1)), (aCd, .inl (cZ, 576, .inl (fun j => za_bi (Cd1_1 j)))), (aNx, .inl (cZ, 576, .inl (fun j => za_bi (Nx1_1 j)))), (aMk, .inl (cI, 24, .inl Mk1_1)), (aAt, .inl (cI, 600, .inl Aq)), (aAs, .inl (cI, 600, .inl Sq))] := hD
        have hQ9 : za_brs Tg Co Br1_1 ∧ za_cds Tg Co Cd1_1 ∧ (∀ x, x < 24 → Mk1_1 x = za_kd Tg Co x) ∧ j = za_pnv Tg Co w v ∧ za_prow Tg Co w v j Aq Sq := by exact ⟨hq1.1, hq1.2.1, hq1.2.2, hst.2 h25, hrw⟩
        exact hret ⟨Br1_1, Cd1_1, Nx1_1, Mk1_1, Aq, Sq, j⟩ _ _ _ _ (hQ9) hP9 hD9 hS zd_M_playOn_192
      · have h25 := za_bT h25
        obtain ⟨hss, hc3, hc4, htr⟩ := hst.1 h25
        obtain ⟨⟨s9, hs9, hw9⟩, t9, ht9, hv9⟩ := za_isSS_of hss
        have hin := za_tr_in (Tg := Tg) (Co := Co) (show za_clp w < 24 by rw [hw9, za_clS hs9]; exact hs9) (show za_clp v < 24 by rw [hv9, za_clS ht9]; exact ht9) j
        obtain ⟨hxx, hyy, hin⟩ := hin
        obtain ⟨hpl, hj24⟩ := hin htr
        have hfa := za_fa_lt hpl
        have hlb := za_lb_lt (Tg := Tg) (Co := Co) (za_tr Tg Co (za_clp w) (za_clp v) j).2.1 (za_tr Tg Co (za_clp w) (za_clp v) j).2.2
        have hto := za_to_lt (Tg := Tg) (Co := Co) (za_tr Tg Co (za_clp w) (za_clp v) j).2.1 (za_tr Tg Co (za_clp w) (za_clp v) j).2.2
        have hl : lv_has ls 11 [(0, .ref aO), (1, .int w), (2, .int v), (3, .int (nI ((za_tr Tg Co (za_clp w) (za_clp v) j).2.1))), (4, .int c4), (5, .int (za_bi g))] := by rw [← hc3]; exact hl
        have hl : lv_has ls 11 [(0, .ref aO), (1, .int w), (2, .int v), (3, .int (nI ((za_tr Tg Co (za_clp w) (za_clp v) j).2.1))), (4, .int (nI ((za_tr Tg Co (za_clp w) (za_clp v) j).2.2))), (5, .int (za_bi g))] := by rw [← hc4]; exact hl
        refine lv_aload_n hx hb zd_M_playOn_28 rfl (lv_at hl 0 rfl) ?_
        refine lv_iload_n hx hb zd_M_playOn_29 rfl (lv_at hl 3 rfl) ?_
        refine lv_iload hx hb zd_M_playOn_30 (lv_at hl 4 rfl) ?_
        refine za_cV (As := [.int (nI ((za_tr Tg Co (za_clp w) (za_clp v) j).2.1)), .int (nI ((za_tr Tg Co (za_clp w) (za_clp v) j).2.2))]) (rest := []) ⟨hx, hb, hml, hown, hts⟩ (zc_M_firstAttack ln D cI cZ aO aMv aMc aBr aCd aNx aMk aAt aAs (za_kc Tg Co) j mn true Mv Br1_1 Tg Co ((za_tr Tg Co (za_clp w) (za_clp v) j).2.1) ((za_tr Tg Co (za_clp w) (za_clp v) j).2.2) (by exact hMv) (by exact hq1.1) (by omega) (by omega) (by exact hpl)) (za_gV 2 hts zw_603 zw_605 zw_32 zw_40 zw_606 (by decide +kernel) ⟨Nat.le_of_ble_eq_true rfl, Nat.le_of_ble_eq_true rfl⟩) hK hN hP [0, 1, 3] rfl (q0 := 0) rfl rfl hl rfl rfl (Nat.le_of_ble_eq_true rfl) zd_M_playOn_32 ⟨Nat.le_of_ble_eq_true rfl, Nat.le_of_ble_eq_true rfl⟩ ?_
        refine lv_istore (lv' := [(6, .int (nI (za_fa Tg Co ((za_tr Tg Co (za_clp w) (za_clp v) j).2.1) ((za_tr Tg Co (za_clp w) (za_clp v) j).2.2)))), (0, .ref aO), (1, .int w), (2, .int v), (3, .int (nI ((za_tr Tg Co (za_clp w) (za_clp v) j).2.1))), (4, .int (nI ((za_tr Tg Co (za_clp w) (za_clp v) j).2.2))), (5, .int (za_bi g))]) hx hb zd_M_playOn_35 hl (by decide) rfl (fun ls hl => ?_)
        refine lv_iload hx hb zd_M_playOn_37 (lv_at hl 0 rfl) ?_
        refine lv_bipush (v := nI 96) hx hb zd_M_playOn_39 (by decide) ?_
        have hJ49 : ∀ v : Int32, v = za_bi (za_mi Tg Co (za_tr Tg Co (za_clp w) (za_clp v) j).2.1 (za_tr Tg Co (za_clp w) (za_clp v) j).2.2) → W p ln e zr_M_playOn sg m args below meth c H locs 0 0 Q (F0 m 49 ls [.int v]) := by
          intro v hv
          subst hv
          refine lv_istore (lv' := [(7, .int (za_bi (za_mi Tg Co (za_tr Tg Co (za_clp w) (za_clp v) j).2.1 (za_tr Tg Co (za_clp w) (za_clp v) j).2.2))), (6, .int (nI (za_fa Tg Co ((za_tr Tg Co (za_clp w) (za_clp v) j).2.1) ((za_tr Tg Co (za_clp w) (za_clp v) j).2.2)))), (0, .ref aO), (1, .int w), (2, .int v), (3, .int (nI ((za_tr Tg Co (za_clp w) (za_clp v) j).2.1))), (4, .int (nI ((za_tr Tg Co (za_clp w) (za_clp v) j).2.2))), (5, .int (za_bi g))]) hx hb zd_M_playOn_49 hl (by decide) rfl (fun ls hl => ?_)
          refine lv_iload hx hb zd_M_playOn_51 (lv_at hl 1 rfl) ?_
          refine lv_bipush (v := nI 96) hx hb zd_M_playOn_53 (by decide) ?_
          refine za_remN hx hb (by omega) (by decide) (by decide) zd_M_playOn_55 ?_
          refine lv_bipush (v := nI 24) hx hb zd_M_playOn_56 (by decide) ?_
          refine za_divN hx hb (by omega) (by decide) (by decide) zd_M_playOn_58 ?_
          refine za_eqi (y := nI (za_lb Tg Co (za_tr Tg Co (za_clp w) (za_clp v) j).2.1 (za_tr Tg Co (za_clp w) (za_clp v) j).2.2)) (rfl) ?_
          refine lv_istore (lv' := [(8, .int (nI (za_lb Tg Co (za_tr Tg Co (za_clp w) (za_clp v) j).2.1 (za_tr Tg Co (za_clp w) (za_clp v) j).2.2))), (7, .int (za_bi (za_mi Tg Co (za_tr Tg Co (za_clp w) (za_clp v) j).2.1 (za_tr Tg Co (za_clp w) (za_clp v) j).2.2))), (6, .int (nI (za_fa Tg Co ((za_tr Tg Co (za_clp w) (za_clp v) j).2.1) ((za_tr Tg Co (za_clp w) (za_clp v) j).2.2)))), (0, .ref aO), (1, .int w), (2, .int v), (3, .int (nI ((za_tr Tg Co (za_clp w) (za_clp v) j).2.1))), (4, .int (nI ((za_tr Tg Co (za_clp w) (za_clp v) j).2.2))), (5, .int (za_bi g))]) hx hb zd_M_playOn_59 hl (by decide) rfl (fun ls hl => ?_)
          refine lv_iload hx hb zd_M_playOn_61 (lv_at hl 2 rfl) ?_
          refine lv_bipush (v := nI 24) hx hb zd_M_playOn_63 (by decide) ?_
          refine za_remN hx hb (by omega) (by decide) (by decide) zd_M_playOn_65 ?_
          refine za_eqi (y := nI (za_to Tg Co (za_tr Tg Co (za_clp w) (za_clp v) j).2.1 (za_tr Tg Co (za_clp w) (za_clp v) j).2.2)) (rfl) ?_
          refine lv_istore (lv' := [(9, .int (nI (za_to Tg Co (za_tr Tg Co (za_clp w) (za_clp v) j).2.1 (za_tr Tg Co (za_clp w) (za_clp v) j).2.2))), (8, .int (nI (za_lb Tg Co (za_tr Tg Co (za_clp w) (za_clp v) j).2.1 (za_tr Tg Co (za_clp w) (za_clp v) j).2.2))), (7, .int (za_bi (za_mi Tg Co (za_tr Tg Co (za_clp w) (za_clp v) j).2.1 (za_tr Tg Co (za_clp w) (za_clp v) j).2.2))), (6, .int (nI (za_fa Tg Co ((za_tr Tg Co (za_clp w) (za_clp v) j).2.1) ((za_tr Tg Co (za_clp w) (za_clp v) j).2.2)))), (0, .ref aO), (1, .int w), (2, .int v), (3, .int (nI ((za_tr Tg Co (za_clp w) (za_clp v) j).2.1))), (4, .int (nI ((za_tr Tg Co (za_clp w) (za_clp v) j).2.2))), (5, .int (za_bi g))]) hx hb zd_M_playOn_66 hl (by decide) rfl (fun ls hl => ?_)
          refine lv_aload_n hx hb zd_M_playOn_68 rfl (lv_at hl 4 rfl) ?_
          refine lv_iload hx hb zd_M_playOn_69 (lv_at hl 2 rfl) ?_
          refine lv_if_eq hx hb (tgt := 79) zd_M_playOn_71 (by decide) (fun h71 => ?_) (fun h71 => ?_)
          · have h71 := za_bF h71
            refine lv_iload_n hx hb zd_M_playOn_79 rfl (lv_at hl 7 rfl) ?_
            refine lv_iload hx hb zd_M_playOn_80 (lv_at hl 1 rfl) ?_
            refine lv_iload hx hb zd_M_playOn_82 (lv_at hl 0 rfl) ?_
            refine za_cV (As := [.int (nI ((za_tr Tg Co (za_clp w) (za_clp v) j).2.1)), .int (nI (za_lb Tg Co (za_tr Tg Co (za_clp w) (za_clp v) j).2.1 (za_tr Tg Co (za_clp w) (za_clp v) j).2.2)), .int (nI (za_to Tg Co (za_tr Tg Co (za_clp w) (za_clp v) j).2.1 (za_tr Tg Co (za_clp w) (za_clp v) j).2.2))]) (rest := []) ⟨hx, hb, hml, hown, hts⟩ (zc_M_answerOf ln D cI cZ aO aMv aMc aBr aCd aNx aMk aAt aAs (za_kc Tg Co) j mn true Mv Br1_1 Tg Co ((za_tr Tg Co (za_clp w) (za_clp v) j).2.1) (za_lb Tg Co (za_tr Tg Co (za_clp w) (za_clp v) j).2.1 (za_tr Tg Co (za_clp w) (za_clp v) j).2.2) (za_to Tg Co (za_tr Tg Co (za_clp w) (za_clp v) j).2.1 (za_tr Tg Co (za_clp w) (za_clp v) j).2.2) (by exact hMv) (by exact hq1.1) (by omega) (by omega) (by omega) (by first | exact za_han1 hpl h71 | exact za_han2 hpl h71)) (za_gV 3 hts zw_607 zw_609 zw_33 zw_40 zw_610 (by decide +kernel) ⟨Nat.le_of_ble_eq_true rfl, Nat.le_of_ble_eq_true rfl⟩) hK hN hP [0, 1, 3] rfl (q0 := 0) rfl rfl hl rfl rfl (Nat.le_of_ble_eq_true rfl) zd_M_playOn_84 ⟨Nat.le_of_ble_eq_true rfl, Nat.le_of_ble_eq_true rfl⟩ ?_
            refine za_eqi (y := za_ai (za_an Tg Co (za_tr Tg Co (za_clp w) (za_clp v) j).2.1 (za_tr Tg Co (za_clp w) (za_clp v) j).2.2)) (by first | exact za_an_1 h71 | exact za_an_2 h71) ?_
            refine lv_istore (lv' := [(10, .int (za_ai (za_an Tg Co (za_tr Tg Co (za_clp w) (za_clp v) j).2.1 (za_tr Tg Co (za_clp w) (za_clp v) j).2.2))), (9, .int (nI (za_to Tg Co (za_tr Tg Co (za_clp w) (za_clp v) j).2.1 (za_tr Tg Co (za_clp w) (za_clp v) j).2.2))), (8, .int (nI (za_lb Tg Co (za_tr Tg Co (za_clp w) (za_clp v) j).2.1 (za_tr Tg Co (za_clp w) (za_clp v) j).2.2))), (7, .int (za_bi (za_mi Tg Co (za_tr Tg Co (za_clp w) (za_clp v) j).2.1 (za_tr Tg Co (za_clp w) (za_clp v) j).2.2))), (6, .int (nI (za_fa Tg Co ((za_tr Tg Co (za_clp w) (za_clp v) j).2.1) ((za_tr Tg Co (za_clp w) (za_clp v) j).2.2)))), (0, .ref aO), (1, .int w), (2, .int v), (3, .int (nI ((za_tr Tg Co (za_clp w) (za_clp v) j).2.1))), (4, .int (nI ((za_tr Tg Co (za_clp w) (za_clp v) j).2.2))), (5, .int (za_bi g))]) hx hb zd_M_playOn_87 hl (by decide) rfl (fun ls hl => ?_)
            refine lv_aload_n hx hb zd_M_playOn_89 rfl (lv_at hl 5 rfl) ?_
            refine va_get (D := D) (ci := 5) (v := .ref aAt) (C := zs_M) (T := zt_M) (N := 12) hx hb hts zi_M hown hK hP 0 rfl rfl 10 (by decide) hf29 (fun _ h9 => h9) rfl zd_M_playOn_90 ?_
            refine lv_aload_n hx hb zd_M_playOn_93 rfl (lv_at hl 5 rfl) ?_
            refine va_get (D := D) (ci := 5) (v := .int (nI j)) (C := zs_M) (T := zt_M) (N := 12) hx hb hts zi_M hown hK hP 0 rfl rfl 9 (by decide) hf92 (fun _ h9 => h9) rfl zd_M_playOn_94 ?_
            refine lv_iload hx hb zd_M_playOn_97 (lv_at hl 3 rfl) ?_
            refine lv_if_eq hx hb (tgt := 106) zd_M_playOn_99 (by decide) (fun _ => ?_) (fun h => absurd (za_bT h) (by rw [h71]; decide))
            refine lv_sipush (v := nI 1000) hx hb zd_M_playOn_106 (by decide) ?_
            refine lv_bipush (v := nI 100) hx hb zd_M_playOn_109 (by decide) ?_
            refine lv_iload hx hb zd_M_playOn_111 (lv_at hl 2 rfl) ?_
            refine za_mulN hx hb zd_M_playOn_113 ?_
            refine za_addN hx hb zd_M_playOn_114 ?_
            refine lv_iload hx hb zd_M_playOn_115 (lv_at hl 1 rfl) ?_
            refine za_addN hx hb zd_M_playOn_117 ?_
            refine za_eqi (y := nI (za_cd9 Tg Co (za_tr Tg Co (za_clp w) (za_clp v) j).2.1 (za_tr Tg Co (za_clp w) (za_clp v) j).2.2)) (by first | exact za_cd1 h71 | exact za_cd2 h71) ?_
            refine za_ist hx hb hK hP hD hS 7 0 rfl rfl (k := j) (by omega) (by decide) zd_M_playOn_118 (fun H locs hP hD hS => ?_)
            have hP : va_P D vwCl [(aO, .inr (5, [.ref aMv, .int mn, .ref aMc, .int (za_bi true), .ref aBr, .ref aCd, .ref aNx, .int (nI (za_kc Tg Co)), .ref aMk, .int (nI j), .ref aAt, .ref aAs])), (aMv, .inl (cZ, 2304, .inl (fun j => za_bi (Mv j)))), (aMc, .inl (cI, 24, .inl Mc)), (aBr, .inl (cI, 576, .inl Br1_1)), (aCd, .inl (cZ, 576, .inl (fun j => za_bi (Cd1_1 j)))), (aNx, .inl (cZ, 576, .inl (fun j => za_bi (Nx1_1 j)))), (aMk, .inl (cI, 24, .inl Mk1_1)), (aAt, .inl (cI, 600, .inl (upd Aq j (nI (za_cd9 Tg Co (za_tr Tg Co (za_clp w) (za_clp v) j).2.1 (za_tr Tg Co (za_clp w) (za_clp v) j).2.2))))), (aAs, .inl (cI, 600, .inl Sq))] H := hP
            have hD : va_D A [(aO, .inr (5, [.ref aMv, .int mn, .ref aMc, .int (za_bi true), .ref aBr, .ref aCd, .ref aNx, .int (nI (za_kc Tg Co)), .ref aMk, .int (nI j), .ref aAt, .ref aAs])), (aMv, .inl (cZ, 2304, .inl (fun j => za_bi (Mv j)))), (aMc, .inl (cI, 24, .inl Mc)), (aBr, .inl (cI, 576, .inl Br1_1)), (aCd, .inl (cZ, 576, .inl (fun j => za_bi (Cd1_1 j)))), (aNx, .inl (cZ, 576, .inl (fun j => za_bi (Nx1_1 j)))), (aMk, .inl (cI, 24, .inl Mk1_1)), (aAt, .inl (cI, 600, .inl (upd Aq j (nI (za_cd9 Tg Co (za_tr Tg Co (za_clp w) (za_clp v) j).2.1 (za_tr Tg Co (za_clp w) (za_clp v) j).2.2))))), (aAs, .inl (cI, 600, .inl Sq))] := hD
            refine lv_aload_n hx hb zd_M_playOn_119 rfl (lv_at hl 5 rfl) ?_
            refine va_get (D := D) (ci := 5) (v := .ref aAs) (C := zs_M) (T := zt_M) (N := 12) hx hb hts zi_M hown hK hP 0 rfl rfl 11 (by decide) hf32 (fun _ h9 => h9) rfl zd_M_playOn_120 ?_
            refine lv_aload_n hx hb zd_M_playOn_123 rfl (lv_at hl 5 rfl) ?_
            refine va_get (D := D) (ci := 5) (v := .int (nI j)) (C := zs_M) (T := zt_M) (N := 12) hx hb hts zi_M hown hK hP 0 rfl rfl 9 (by decide) hf92 (fun _ h9 => h9) rfl zd_M_playOn_124 ?_
            refine lv_iload hx hb zd_M_playOn_127 (lv_at hl 0 rfl) ?_
            refine za_ist hx hb hK hP hD hS 8 0 rfl rfl (k := j) (by omega) (by decide) zd_M_playOn_129 (fun H locs hP hD hS => ?_)
            have hP : va_P D vwCl [(aO, .inr (5, [.ref aMv, .int mn, .ref aMc, .int (za_bi true), .ref aBr, .ref aCd, .ref aNx, .int (nI (za_kc Tg Co)), .ref aMk, .int (nI j), .ref aAt, .ref aAs])), (aMv, .inl (cZ, 2304, .inl (fun j => za_bi (Mv j)))), (aMc, .inl (cI, 24, .inl Mc)), (aBr, .inl (cI, 576, .inl Br1_1)), (aCd, .inl (cZ, 576, .inl (fun j => za_bi (Cd1_1 j)))), (aNx, .inl (cZ, 576, .inl (fun j => za_bi (Nx1_1 j)))), (aMk, .inl (cI, 24, .inl Mk1_1)), (aAt, .inl (cI, 600, .inl (upd Aq j (nI (za_cd9 Tg Co (za_tr Tg Co (za_clp w) (za_clp v) j).2.1 (za_tr Tg Co (za_clp w) (za_clp v) j).2.2))))), (aAs, .inl (cI, 600, .inl (upd Sq j (za_ai (za_an Tg Co (za_tr Tg Co (za_clp w) (za_clp v) j).2.1 (za_tr Tg Co (za_clp w) (za_clp v) j).2.2)))))] H := hP
            have hD : va_D A [(aO, .inr (5, [.ref aMv, .int mn, .ref aMc, .int (za_bi true), .ref aBr, .ref aCd, .ref aNx, .int (nI (za_kc Tg Co)), .ref aMk, .int (nI j), .ref aAt, .ref aAs])), (aMv, .inl (cZ, 2304, .inl (fun j => za_bi (Mv j)))), (aMc, .inl (cI, 24, .inl Mc)), (aBr, .inl (cI, 576, .inl Br1_1)), (aCd, .inl (cZ, 576, .inl (fun j => za_bi (Cd1_1 j)))), (aNx, .inl (cZ, 576, .inl (fun j => za_bi (Nx1_1 j)))), (aMk, .inl (cI, 24, .inl Mk1_1)), (aAt, .inl (cI, 600, .inl (upd Aq j (nI (za_cd9 Tg Co (za_tr Tg Co (za_clp w) (za_clp v) j).2.1 (za_tr Tg Co (za_clp w) (za_clp v) j).2.2))))), (aAs, .inl (cI, 600, .inl (upd Sq j (za_ai (za_an Tg Co (za_tr Tg Co (za_clp w) (za_clp v) j).2.1 (za_tr Tg Co (za_clp w) (za_clp v) j).2.2)))))] := hD
            refine lv_aload_n hx hb zd_M_playOn_130 rfl (lv_at hl 5 rfl) ?_
            refine lv_aload_n hx hb zd_M_playOn_131 rfl (lv_at hl 5 rfl) ?_
            refine va_get (D := D) (ci := 5) (v := .int (nI j)) (C := zs_M) (T := zt_M) (N := 12) hx hb hts zi_M hown hK hP 0 rfl rfl 9 (by decide) hf92 (fun _ h9 => h9) rfl zd_M_playOn_132 ?_
            refine lv_iconst (v := nI 1) hx hb zd_M_playOn_135 (by decide) ?_
            refine za_addN hx hb zd_M_playOn_136 ?_
            refine va_put (D := D) (ci := 5) (v := .int (nI (j + 1))) (ty := .int) (C := zs_M) (T := zt_M) (N := 12) hx hb hts zi_M zy_M zk_M zn_M hown hK hP hD hS 0 rfl rfl 9 (by decide) hf92 (fun _ h9 => h9) rfl (by decide +kernel) rfl rfl (Nat.le_of_ble_eq_true rfl) zd_M_playOn_137 (fun H locs hP hD hS => ?_)
            have hP : va_P D vwCl [(aO, .inr (5, [.ref aMv, .int mn, .ref aMc, .int (za_bi true), .ref aBr, .ref aCd, .ref aNx, .int (nI (za_kc Tg Co)), .ref aMk, .int (nI (j + 1)), .ref aAt, .ref aAs])), (aMv, .inl (cZ, 2304, .inl (fun j => za_bi (Mv j)))), (aMc, .inl (cI, 24, .inl Mc)), (aBr, .inl (cI, 576, .inl Br1_1)), (aCd, .inl (cZ, 576, .inl (fun j => za_bi (Cd1_1 j)))), (aNx, .inl (cZ, 576, .inl (fun j => za_bi (Nx1_1 j)))), (aMk, .inl (cI, 24, .inl Mk1_1)), (aAt, .inl (cI, 600, .inl (upd Aq j (nI (za_cd9 Tg Co (za_tr Tg Co (za_clp w) (za_clp v) j).2.1 (za_tr Tg Co (za_clp w) (za_clp v) j).2.2))))), (aAs, .inl (cI, 600, .inl (upd Sq j (za_ai (za_an Tg Co (za_tr Tg Co (za_clp w) (za_clp v) j).2.1 (za_tr Tg Co (za_clp w) (za_clp v) j).2.2)))))] H := hP
            have hD : va_D A [(aO, .inr (5, [.ref aMv, .int mn, .ref aMc, .int (za_bi true), .ref aBr, .ref aCd, .ref aNx, .int (nI (za_kc Tg Co)), .ref aMk, .int (nI (j + 1)), .ref aAt, .ref aAs])), (aMv, .inl (cZ, 2304, .inl (fun j => za_bi (Mv j)))), (aMc, .inl (cI, 24, .inl Mc)), (aBr, .inl (cI, 576, .inl Br1_1)), (aCd, .inl (cZ, 576, .inl (fun j => za_bi (Cd1_1 j)))), (aNx, .inl (cZ, 576, .inl (fun j => za_bi (Nx1_1 j)))), (aMk, .inl (cI, 24, .inl Mk1_1)), (aAt, .inl (cI, 600, .inl (upd Aq j (nI (za_cd9 Tg Co (za_tr Tg Co (za_clp w) (za_clp v) j).2.1 (za_tr Tg Co (za_clp w) (za_clp v) j).2.2))))), (aAs, .inl (cI, 600, .inl (upd Sq j (za_ai (za_an Tg Co (za_tr Tg Co (za_clp w) (za_clp v) j).2.1 (za_tr Tg Co (za_clp w) (za_clp v) j).2.2)))))] := hD
            refine lv_iload hx hb zd_M_playOn_140 (lv_at hl 3 rfl) ?_
            refine lv_if_eq hx hb (tgt := 150) zd_M_playOn_142 (by decide) (fun _ => ?_) (fun h => absurd (za_bT h) (by rw [h71]; decide))
            refine lv_iload hx hb zd_M_playOn_150 (lv_at hl 0 rfl) ?_
            refine lv_istore_n (lv' := [(3, .int (za_ai (za_an Tg Co (za_tr Tg Co (za_clp w) (za_clp v) j).2.1 (za_tr Tg Co (za_clp w) (za_clp v) j).2.2))), (10, .int (za_ai (za_an Tg Co (za_tr Tg Co (za_clp w) (za_clp v) j).2.1 (za_tr Tg Co (za_clp w) (za_clp v) j).2.2))), (9, .int (nI (za_to Tg Co (za_tr Tg Co (za_clp w) (za_clp v) j).2.1 (za_tr Tg Co (za_clp w) (za_clp v) j).2.2))), (8, .int (nI (za_lb Tg Co (za_tr Tg Co (za_clp w) (za_clp v) j).2.1 (za_tr Tg Co (za_clp w) (za_clp v) j).2.2))), (7, .int (za_bi (za_mi Tg Co (za_tr Tg Co (za_clp w) (za_clp v) j).2.1 (za_tr Tg Co (za_clp w) (za_clp v) j).2.2))), (6, .int (nI (za_fa Tg Co ((za_tr Tg Co (za_clp w) (za_clp v) j).2.1) ((za_tr Tg Co (za_clp w) (za_clp v) j).2.2)))), (0, .ref aO), (1, .int w), (2, .int v), (4, .int (nI ((za_tr Tg Co (za_clp w) (za_clp v) j).2.2))), (5, .int (za_bi g))]) hx hb zd_M_playOn_152 rfl hl (by decide) rfl (fun ls hl => ?_)
            refine lv_iload hx hb zd_M_playOn_153 (lv_at hl 4 rfl) ?_
            refine lv_if_eq hx hb (tgt := 163) zd_M_playOn_155 (by decide) (fun _ => ?_) (fun h => absurd (za_bT h) (by rw [h71]; decide))
            refine lv_iload hx hb zd_M_playOn_163 (lv_at hl 2 rfl) ?_
            refine lv_istore (lv' := [(4, .int (nI (za_to Tg Co (za_tr Tg Co (za_clp w) (za_clp v) j).2.1 (za_tr Tg Co (za_clp w) (za_clp v) j).2.2))), (3, .int (za_ai (za_an Tg Co (za_tr Tg Co (za_clp w) (za_clp v) j).2.1 (za_tr Tg Co (za_clp w) (za_clp v) j).2.2))), (10, .int (za_ai (za_an Tg Co (za_tr Tg Co (za_clp w) (za_clp v) j).2.1 (za_tr Tg Co (za_clp w) (za_clp v) j).2.2))), (9, .int (nI (za_to Tg Co (za_tr Tg Co (za_clp w) (za_clp v) j).2.1 (za_tr Tg Co (za_clp w) (za_clp v) j).2.2))), (8, .int (nI (za_lb Tg Co (za_tr Tg Co (za_clp w) (za_clp v) j).2.1 (za_tr Tg Co (za_clp w) (za_clp v) j).2.2))), (7, .int (za_bi (za_mi Tg Co (za_tr Tg Co (za_clp w) (za_clp v) j).2.1 (za_tr Tg Co (za_clp w) (za_clp v) j).2.2))), (6, .int (nI (za_fa Tg Co ((za_tr Tg Co (za_clp w) (za_clp v) j).2.1) ((za_tr Tg Co (za_clp w) (za_clp v) j).2.2)))), (0, .ref aO), (1, .int w), (2, .int v), (5, .int (za_bi g))]) hx hb zd_M_playOn_165 hl (by decide) rfl (fun ls hl => ?_)
            refine lv_iload hx hb zd_M_playOn_167 (lv_at hl 2 rfl) ?_
            refine lv_if_lt hx hb (tgt := 186) zd_M_playOn_169 (by decide) (fun h169 => ?_) (fun h169 => ?_)
            · skip
              refine lv_iconst (v := nI 0) hx hb zd_M_playOn_186 (by decide) ?_
              refine lv_istore (lv' := [(5, .int (nI 0)), (4, .int (nI (za_to Tg Co (za_tr Tg Co (za_clp w) (za_clp v) j).2.1 (za_tr Tg Co (za_clp w) (za_clp v) j).2.2))), (3, .int (za_ai (za_an Tg Co (za_tr Tg Co (za_clp w) (za_clp v) j).2.1 (za_tr Tg Co (za_clp w) (za_clp v) j).2.2))), (10, .int (za_ai (za_an Tg Co (za_tr Tg Co (za_clp w) (za_clp v) j).2.1 (za_tr Tg Co (za_clp w) (za_clp v) j).2.2))), (9, .int (nI (za_to Tg Co (za_tr Tg Co (za_clp w) (za_clp v) j).2.1 (za_tr Tg Co (za_clp w) (za_clp v) j).2.2))), (8, .int (nI (za_lb Tg Co (za_tr Tg Co (za_clp w) (za_clp v) j).2.1 (za_tr Tg Co (za_clp w) (za_clp v) j).2.2))), (7, .int (za_bi (za_mi Tg Co (za_tr Tg Co (za_clp w) (za_clp v) j).2.1 (za_tr Tg Co (za_clp w) (za_clp v) j).2.2))), (6, .int (nI (za_fa Tg Co ((za_tr Tg Co (za_clp w) (za_clp v) j).2.1) ((za_tr Tg Co (za_clp w) (za_clp v) j).2.2)))), (0, .ref aO), (1, .int w), (2, .int v)]) hx hb zd_M_playOn_187 hl (by decide) rfl (fun ls hl => ?_)
              refine lv_goto hx hb (tgt := 23) zd_M_playOn_189 (by decide) ?_
              have e1 : za_bi false = nI 0 := by first | with_reducible rfl | (rfl)
              exact ih23 (j + 1) false (za_ai (za_an Tg Co (za_tr Tg Co (za_clp w) (za_clp v) j).2.1 (za_tr Tg Co (za_clp w) (za_clp v) j).2.2)) (nI (za_to Tg Co (za_tr Tg Co (za_clp w) (za_clp v) j).2.1 (za_tr Tg Co (za_clp w) (za_clp v) j).2.2)) (upd Aq j (nI (za_cd9 Tg Co (za_tr Tg Co (za_clp w) (za_clp v) j).2.1 (za_tr Tg Co (za_clp w) (za_clp v) j).2.2))) (upd Sq j (za_ai (za_an Tg Co (za_tr Tg Co (za_clp w) (za_clp v) j).2.1 (za_tr Tg Co (za_clp w) (za_clp v) j).2.2))) ls H locs (by omega) (by omega) (by first | exact za_pst_s hrw hss htr (fun h9 => za_c1 h71 h9) (za_on0 h169 rfl) | exact za_pst_s hrw hss htr (fun h9 => za_c2 h71 h9) (za_on0 h169 rfl) | exact za_pst_s hrw hss htr (fun h9 => za_c1 h71 h9) (h179 ▸ za_on1 hpl h71 h169) | exact za_pst_s hrw hss htr (fun h9 => za_c2 h71 h9) (h179 ▸ za_on2 hpl h71 h169)) (by exact za_prow_s hrw hss htr) (by rw [e1]; exact lv_sub hl [8, 9, 10, 2, 1, 0] rfl) hP hD hS
            · skip
              refine lv_aload_n hx hb zd_M_playOn_172 rfl (lv_at hl 7 rfl) ?_
              refine lv_iload_n hx hb zd_M_playOn_173 rfl (lv_at hl 1 rfl) ?_
              refine lv_iload hx hb zd_M_playOn_174 (lv_at hl 0 rfl) ?_
              refine za_cV (As := [.int (za_ai (za_an Tg Co (za_tr Tg Co (za_clp w) (za_clp v) j).2.1 (za_tr Tg Co (za_clp w) (za_clp v) j).2.2)), .int (nI (za_to Tg Co (za_tr Tg Co (za_clp w) (za_clp v) j).2.1 (za_tr Tg Co (za_clp w) (za_clp v) j).2.2))]) (rest := []) ⟨hx, hb, hml, hown, hts⟩ (zc_M_isPlayed ln D cI cZ aO aMv aMc aBr aCd aNx aMk aAt aAs (za_kc Tg Co) (j + 1) mn true Br1_1 Tg Co (za_ai (za_an Tg Co (za_tr Tg Co (za_clp w) (za_clp v) j).2.1 (za_tr Tg Co (za_clp w) (za_clp v) j).2.2)) (nI (za_to Tg Co (za_tr Tg Co (za_clp w) (za_clp v) j).2.1 (za_tr Tg Co (za_clp w) (za_clp v) j).2.2)) (by exact hq1.1)) (za_gV 2 hts zw_587 zw_589 zw_29 zw_40 zw_590 (by decide +kernel) ⟨Nat.le_of_ble_eq_true rfl, Nat.le_of_ble_eq_true rfl⟩) hK hN hP [0, 3] rfl (q0 := 0) rfl rfl hl rfl rfl (Nat.le_of_ble_eq_true rfl) zd_M_playOn_176 ⟨Nat.le_of_ble_eq_true rfl, Nat.le_of_ble_eq_true rfl⟩ ?_
              refine lv_if_eq hx hb (tgt := 186) zd_M_playOn_179 (by decide) (fun h179 => ?_) (fun h179 => ?_)
              · have h179 := za_bF h179
                refine lv_iconst (v := nI 0) hx hb zd_M_playOn_186 (by decide) ?_
                refine lv_istore (lv' := [(5, .int (nI 0)), (4, .int (nI (za_to Tg Co (za_tr Tg Co (za_clp w) (za_clp v) j).2.1 (za_tr Tg Co (za_clp w) (za_clp v) j).2.2))), (3, .int (za_ai (za_an Tg Co (za_tr Tg Co (za_clp w) (za_clp v) j).2.1 (za_tr Tg Co (za_clp w) (za_clp v) j).2.2))), (10, .int (za_ai (za_an Tg Co (za_tr Tg Co (za_clp w) (za_clp v) j).2.1 (za_tr Tg Co (za_clp w) (za_clp v) j).2.2))), (9, .int (nI (za_to Tg Co (za_tr Tg Co (za_clp w) (za_clp v) j).2.1 (za_tr Tg Co (za_clp w) (za_clp v) j).2.2))), (8, .int (nI (za_lb Tg Co (za_tr Tg Co (za_clp w) (za_clp v) j).2.1 (za_tr Tg Co (za_clp w) (za_clp v) j).2.2))), (7, .int (za_bi (za_mi Tg Co (za_tr Tg Co (za_clp w) (za_clp v) j).2.1 (za_tr Tg Co (za_clp w) (za_clp v) j).2.2))), (6, .int (nI (za_fa Tg Co ((za_tr Tg Co (za_clp w) (za_clp v) j).2.1) ((za_tr Tg Co (za_clp w) (za_clp v) j).2.2)))), (0, .ref aO), (1, .int w), (2, .int v)]) hx hb zd_M_playOn_187 hl (by decide) rfl (fun ls hl => ?_)
                refine lv_goto hx hb (tgt := 23) zd_M_playOn_189 (by decide) ?_
                have e1 : za_bi false = nI 0 := by first | with_reducible rfl | (rfl)
                exact ih23 (j + 1) false (za_ai (za_an Tg Co (za_tr Tg Co (za_clp w) (za_clp v) j).2.1 (za_tr Tg Co (za_clp w) (za_clp v) j).2.2)) (nI (za_to Tg Co (za_tr Tg Co (za_clp w) (za_clp v) j).2.1 (za_tr Tg Co (za_clp w) (za_clp v) j).2.2)) (upd Aq j (nI (za_cd9 Tg Co (za_tr Tg Co (za_clp w) (za_clp v) j).2.1 (za_tr Tg Co (za_clp w) (za_clp v) j).2.2))) (upd Sq j (za_ai (za_an Tg Co (za_tr Tg Co (za_clp w) (za_clp v) j).2.1 (za_tr Tg Co (za_clp w) (za_clp v) j).2.2))) ls H locs (by omega) (by omega) (by first | exact za_pst_s hrw hss htr (fun h9 => za_c1 h71 h9) (za_on0 h169 rfl) | exact za_pst_s hrw hss htr (fun h9 => za_c2 h71 h9) (za_on0 h169 rfl) | exact za_pst_s hrw hss htr (fun h9 => za_c1 h71 h9) (h179 ▸ za_on1 hpl h71 h169) | exact za_pst_s hrw hss htr (fun h9 => za_c2 h71 h9) (h179 ▸ za_on2 hpl h71 h169)) (by exact za_prow_s hrw hss htr) (by rw [e1]; exact lv_sub hl [8, 9, 10, 2, 1, 0] rfl) hP hD hS
              · have h179 := za_bT h179
                refine lv_iconst (v := nI 1) hx hb zd_M_playOn_182 (by decide) ?_
                refine lv_goto hx hb (tgt := 187) zd_M_playOn_183 (by decide) ?_
                refine lv_istore (lv' := [(5, .int (nI 1)), (4, .int (nI (za_to Tg Co (za_tr Tg Co (za_clp w) (za_clp v) j).2.1 (za_tr Tg Co (za_clp w) (za_clp v) j).2.2))), (3, .int (za_ai (za_an Tg Co (za_tr Tg Co (za_clp w) (za_clp v) j).2.1 (za_tr Tg Co (za_clp w) (za_clp v) j).2.2))), (10, .int (za_ai (za_an Tg Co (za_tr Tg Co (za_clp w) (za_clp v) j).2.1 (za_tr Tg Co (za_clp w) (za_clp v) j).2.2))), (9, .int (nI (za_to Tg Co (za_tr Tg Co (za_clp w) (za_clp v) j).2.1 (za_tr Tg Co (za_clp w) (za_clp v) j).2.2))), (8, .int (nI (za_lb Tg Co (za_tr Tg Co (za_clp w) (za_clp v) j).2.1 (za_tr Tg Co (za_clp w) (za_clp v) j).2.2))), (7, .int (za_bi (za_mi Tg Co (za_tr Tg Co (za_clp w) (za_clp v) j).2.1 (za_tr Tg Co (za_clp w) (za_clp v) j).2.2))), (6, .int (nI (za_fa Tg Co ((za_tr Tg Co (za_clp w) (za_clp v) j).2.1) ((za_tr Tg Co (za_clp w) (za_clp v) j).2.2)))), (0, .ref aO), (1, .int w), (2, .int v)]) hx hb zd_M_playOn_187 hl (by decide) rfl (fun ls hl => ?_)
                refine lv_goto hx hb (tgt := 23) zd_M_playOn_189 (by decide) ?_
                have e1 : za_bi true = nI 1 := by first | with_reducible rfl | (rfl)
                exact ih23 (j + 1) true (za_ai (za_an Tg Co (za_tr Tg Co (za_clp w) (za_clp v) j).2.1 (za_tr Tg Co (za_clp w) (za_clp v) j).2.2)) (nI (za_to Tg Co (za_tr Tg Co (za_clp w) (za_clp v) j).2.1 (za_tr Tg Co (za_clp w) (za_clp v) j).2.2)) (upd Aq j (nI (za_cd9 Tg Co (za_tr Tg Co (za_clp w) (za_clp v) j).2.1 (za_tr Tg Co (za_clp w) (za_clp v) j).2.2))) (upd Sq j (za_ai (za_an Tg Co (za_tr Tg Co (za_clp w) (za_clp v) j).2.1 (za_tr Tg Co (za_clp w) (za_clp v) j).2.2))) ls H locs (by omega) (by omega) (by first | exact za_pst_s hrw hss htr (fun h9 => za_c1 h71 h9) (za_on0 h169 rfl) | exact za_pst_s hrw hss htr (fun h9 => za_c2 h71 h9) (za_on0 h169 rfl) | exact za_pst_s hrw hss htr (fun h9 => za_c1 h71 h9) (h179 ▸ za_on1 hpl h71 h169) | exact za_pst_s hrw hss htr (fun h9 => za_c2 h71 h9) (h179 ▸ za_on2 hpl h71 h169)) (by exact za_prow_s hrw hss htr) (by rw [e1]; exact lv_sub hl [8, 9, 10, 2, 1, 0] rfl) hP hD hS
          · have h71 := za_bT h71
            refine lv_iload hx hb zd_M_playOn_74 (lv_at hl 8 rfl) ?_
            refine lv_goto hx hb (tgt := 80) zd_M_playOn_76 (by decide) ?_
            refine lv_iload hx hb zd_M_playOn_80 (lv_at hl 1 rfl) ?_
            refine lv_iload hx hb zd_M_playOn_82 (lv_at hl 0 rfl) ?_
            refine za_cV (As := [.int (nI ((za_tr Tg Co (za_clp w) (za_clp v) j).2.2)), .int (nI (za_lb Tg Co (za_tr Tg Co (za_clp w) (za_clp v) j).2.1 (za_tr Tg Co (za_clp w) (za_clp v) j).2.2)), .int (nI (za_to Tg Co (za_tr Tg Co (za_clp w) (za_clp v) j).2.1 (za_tr Tg Co (za_clp w) (za_clp v) j).2.2))]) (rest := []) ⟨hx, hb, hml, hown, hts⟩ (zc_M_answerOf ln D cI cZ aO aMv aMc aBr aCd aNx aMk aAt aAs (za_kc Tg Co) j mn true Mv Br1_1 Tg Co ((za_tr Tg Co (za_clp w) (za_clp v) j).2.2) (za_lb Tg Co (za_tr Tg Co (za_clp w) (za_clp v) j).2.1 (za_tr Tg Co (za_clp w) (za_clp v) j).2.2) (za_to Tg Co (za_tr Tg Co (za_clp w) (za_clp v) j).2.1 (za_tr Tg Co (za_clp w) (za_clp v) j).2.2) (by exact hMv) (by exact hq1.1) (by omega) (by omega) (by omega) (by first | exact za_han1 hpl h71 | exact za_han2 hpl h71)) (za_gV 3 hts zw_607 zw_609 zw_33 zw_40 zw_610 (by decide +kernel) ⟨Nat.le_of_ble_eq_true rfl, Nat.le_of_ble_eq_true rfl⟩) hK hN hP [0, 1, 3] rfl (q0 := 0) rfl rfl hl rfl rfl (Nat.le_of_ble_eq_true rfl) zd_M_playOn_84 ⟨Nat.le_of_ble_eq_true rfl, Nat.le_of_ble_eq_true rfl⟩ ?_
            refine za_eqi (y := za_ai (za_an Tg Co (za_tr Tg Co (za_clp w) (za_clp v) j).2.1 (za_tr Tg Co (za_clp w) (za_clp v) j).2.2)) (by first | exact za_an_1 h71 | exact za_an_2 h71) ?_
            refine lv_istore (lv' := [(10, .int (za_ai (za_an Tg Co (za_tr Tg Co (za_clp w) (za_clp v) j).2.1 (za_tr Tg Co (za_clp w) (za_clp v) j).2.2))), (9, .int (nI (za_to Tg Co (za_tr Tg Co (za_clp w) (za_clp v) j).2.1 (za_tr Tg Co (za_clp w) (za_clp v) j).2.2))), (8, .int (nI (za_lb Tg Co (za_tr Tg Co (za_clp w) (za_clp v) j).2.1 (za_tr Tg Co (za_clp w) (za_clp v) j).2.2))), (7, .int (za_bi (za_mi Tg Co (za_tr Tg Co (za_clp w) (za_clp v) j).2.1 (za_tr Tg Co (za_clp w) (za_clp v) j).2.2))), (6, .int (nI (za_fa Tg Co ((za_tr Tg Co (za_clp w) (za_clp v) j).2.1) ((za_tr Tg Co (za_clp w) (za_clp v) j).2.2)))), (0, .ref aO), (1, .int w), (2, .int v), (3, .int (nI ((za_tr Tg Co (za_clp w) (za_clp v) j).2.1))), (4, .int (nI ((za_tr Tg Co (za_clp w) (za_clp v) j).2.2))), (5, .int (za_bi g))]) hx hb zd_M_playOn_87 hl (by decide) rfl (fun ls hl => ?_)
            refine lv_aload_n hx hb zd_M_playOn_89 rfl (lv_at hl 5 rfl) ?_
            refine va_get (D := D) (ci := 5) (v := .ref aAt) (C := zs_M) (T := zt_M) (N := 12) hx hb hts zi_M hown hK hP 0 rfl rfl 10 (by decide) hf29 (fun _ h9 => h9) rfl zd_M_playOn_90 ?_
            refine lv_aload_n hx hb zd_M_playOn_93 rfl (lv_at hl 5 rfl) ?_
            refine va_get (D := D) (ci := 5) (v := .int (nI j)) (C := zs_M) (T := zt_M) (N := 12) hx hb hts zi_M hown hK hP 0 rfl rfl 9 (by decide) hf92 (fun _ h9 => h9) rfl zd_M_playOn_94 ?_
            refine lv_iload hx hb zd_M_playOn_97 (lv_at hl 3 rfl) ?_
            refine lv_if_eq hx hb (tgt := 106) zd_M_playOn_99 (by decide) (fun h => absurd (za_bF h) (by rw [h71]; decide)) (fun _ => ?_)
            refine lv_iconst (v := nI 0) hx hb zd_M_playOn_102 (by decide) ?_
            refine lv_goto hx hb (tgt := 109) zd_M_playOn_103 (by decide) ?_
            refine lv_bipush (v := nI 100) hx hb zd_M_playOn_109 (by decide) ?_
            refine lv_iload hx hb zd_M_playOn_111 (lv_at hl 2 rfl) ?_
            refine za_mulN hx hb zd_M_playOn_113 ?_
            refine za_addN hx hb zd_M_playOn_114 ?_
            refine lv_iload hx hb zd_M_playOn_115 (lv_at hl 1 rfl) ?_
            refine za_addN hx hb zd_M_playOn_117 ?_
            refine za_eqi (y := nI (za_cd9 Tg Co (za_tr Tg Co (za_clp w) (za_clp v) j).2.1 (za_tr Tg Co (za_clp w) (za_clp v) j).2.2)) (by first | exact za_cd1 h71 | exact za_cd2 h71) ?_
            refine za_ist hx hb hK hP hD hS 7 0 rfl rfl (k := j) (by omega) (by decide) zd_M_playOn_118 (fun H locs hP hD hS => ?_)
            have hP : va_P D vwCl [(aO, .inr (5, [.ref aMv, .int mn, .ref aMc, .int (za_bi true), .ref aBr, .ref aCd, .ref aNx, .int (nI (za_kc Tg Co)), .ref aMk, .int (nI j), .ref aAt, .ref aAs])), (aMv, .inl (cZ, 2304, .inl (fun j => za_bi (Mv j)))), (aMc, .inl (cI, 24, .inl Mc)), (aBr, .inl (cI, 576, .inl Br1_1)), (aCd, .inl (cZ, 576, .inl (fun j => za_bi (Cd1_1 j)))), (aNx, .inl (cZ, 576, .inl (fun j => za_bi (Nx1_1 j)))), (aMk, .inl (cI, 24, .inl Mk1_1)), (aAt, .inl (cI, 600, .inl (upd Aq j (nI (za_cd9 Tg Co (za_tr Tg Co (za_clp w) (za_clp v) j).2.1 (za_tr Tg Co (za_clp w) (za_clp v) j).2.2))))), (aAs, .inl (cI, 600, .inl Sq))] H := hP
            have hD : va_D A [(aO, .inr (5, [.ref aMv, .int mn, .ref aMc, .int (za_bi true), .ref aBr, .ref aCd, .ref aNx, .int (nI (za_kc Tg Co)), .ref aMk, .int (nI j), .ref aAt, .ref aAs])), (aMv, .inl (cZ, 2304, .inl (fun j => za_bi (Mv j)))), (aMc, .inl (cI, 24, .inl Mc)), (aBr, .inl (cI, 576, .inl Br1_1)), (aCd, .inl (cZ, 576, .inl (fun j => za_bi (Cd1_1 j)))), (aNx, .inl (cZ, 576, .inl (fun j => za_bi (Nx1_1 j)))), (aMk, .inl (cI, 24, .inl Mk1_1)), (aAt, .inl (cI, 600, .inl (upd Aq j (nI (za_cd9 Tg Co (za_tr Tg Co (za_clp w) (za_clp v) j).2.1 (za_tr Tg Co (za_clp w) (za_clp v) j).2.2))))), (aAs, .inl (cI, 600, .inl Sq))] := hD
            refine lv_aload_n hx hb zd_M_playOn_119 rfl (lv_at hl 5 rfl) ?_
            refine va_get (D := D) (ci := 5) (v := .ref aAs) (C := zs_M) (T := zt_M) (N := 12) hx hb hts zi_M hown hK hP 0 rfl rfl 11 (by decide) hf32 (fun _ h9 => h9) rfl zd_M_playOn_120 ?_
            refine lv_aload_n hx hb zd_M_playOn_123 rfl (lv_at hl 5 rfl) ?_
            refine va_get (D := D) (ci := 5) (v := .int (nI j)) (C := zs_M) (T := zt_M) (N := 12) hx hb hts zi_M hown hK hP 0 rfl rfl 9 (by decide) hf92 (fun _ h9 => h9) rfl zd_M_playOn_124 ?_
            refine lv_iload hx hb zd_M_playOn_127 (lv_at hl 0 rfl) ?_
            refine za_ist hx hb hK hP hD hS 8 0 rfl rfl (k := j) (by omega) (by decide) zd_M_playOn_129 (fun H locs hP hD hS => ?_)
            have hP : va_P D vwCl [(aO, .inr (5, [.ref aMv, .int mn, .ref aMc, .int (za_bi true), .ref aBr, .ref aCd, .ref aNx, .int (nI (za_kc Tg Co)), .ref aMk, .int (nI j), .ref aAt, .ref aAs])), (aMv, .inl (cZ, 2304, .inl (fun j => za_bi (Mv j)))), (aMc, .inl (cI, 24, .inl Mc)), (aBr, .inl (cI, 576, .inl Br1_1)), (aCd, .inl (cZ, 576, .inl (fun j => za_bi (Cd1_1 j)))), (aNx, .inl (cZ, 576, .inl (fun j => za_bi (Nx1_1 j)))), (aMk, .inl (cI, 24, .inl Mk1_1)), (aAt, .inl (cI, 600, .inl (upd Aq j (nI (za_cd9 Tg Co (za_tr Tg Co (za_clp w) (za_clp v) j).2.1 (za_tr Tg Co (za_clp w) (za_clp v) j).2.2))))), (aAs, .inl (cI, 600, .inl (upd Sq j (za_ai (za_an Tg Co (za_tr Tg Co (za_clp w) (za_clp v) j).2.1 (za_tr Tg Co (za_clp w) (za_clp v) j).2.2)))))] H := hP
            have hD : va_D A [(aO, .inr (5, [.ref aMv, .int mn, .ref aMc, .int (za_bi true), .ref aBr, .ref aCd, .ref aNx, .int (nI (za_kc Tg Co)), .ref aMk, .int (nI j), .ref aAt, .ref aAs])), (aMv, .inl (cZ, 2304, .inl (fun j => za_bi (Mv j)))), (aMc, .inl (cI, 24, .inl Mc)), (aBr, .inl (cI, 576, .inl Br1_1)), (aCd, .inl (cZ, 576, .inl (fun j => za_bi (Cd1_1 j)))), (aNx, .inl (cZ, 576, .inl (fun j => za_bi (Nx1_1 j)))), (aMk, .inl (cI, 24, .inl Mk1_1)), (aAt, .inl (cI, 600, .inl (upd Aq j (nI (za_cd9 Tg Co (za_tr Tg Co (za_clp w) (za_clp v) j).2.1 (za_tr Tg Co (za_clp w) (za_clp v) j).2.2))))), (aAs, .inl (cI, 600, .inl (upd Sq j (za_ai (za_an Tg Co (za_tr Tg Co (za_clp w) (za_clp v) j).2.1 (za_tr Tg Co (za_clp w) (za_clp v) j).2.2)))))] := hD
            refine lv_aload_n hx hb zd_M_playOn_130 rfl (lv_at hl 5 rfl) ?_
            refine lv_aload_n hx hb zd_M_playOn_131 rfl (lv_at hl 5 rfl) ?_
            refine va_get (D := D) (ci := 5) (v := .int (nI j)) (C := zs_M) (T := zt_M) (N := 12) hx hb hts zi_M hown hK hP 0 rfl rfl 9 (by decide) hf92 (fun _ h9 => h9) rfl zd_M_playOn_132 ?_
            refine lv_iconst (v := nI 1) hx hb zd_M_playOn_135 (by decide) ?_
            refine za_addN hx hb zd_M_playOn_136 ?_
            refine va_put (D := D) (ci := 5) (v := .int (nI (j + 1))) (ty := .int) (C := zs_M) (T := zt_M) (N := 12) hx hb hts zi_M zy_M zk_M zn_M hown hK hP hD hS 0 rfl rfl 9 (by decide) hf92 (fun _ h9 => h9) rfl (by decide +kernel) rfl rfl (Nat.le_of_ble_eq_true rfl) zd_M_playOn_137 (fun H locs hP hD hS => ?_)
            have hP : va_P D vwCl [(aO, .inr (5, [.ref aMv, .int mn, .ref aMc, .int (za_bi true), .ref aBr, .ref aCd, .ref aNx, .int (nI (za_kc Tg Co)), .ref aMk, .int (nI (j + 1)), .ref aAt, .ref aAs])), (aMv, .inl (cZ, 2304, .inl (fun j => za_bi (Mv j)))), (aMc, .inl (cI, 24, .inl Mc)), (aBr, .inl (cI, 576, .inl Br1_1)), (aCd, .inl (cZ, 576, .inl (fun j => za_bi (Cd1_1 j)))), (aNx, .inl (cZ, 576, .inl (fun j => za_bi (Nx1_1 j)))), (aMk, .inl (cI, 24, .inl Mk1_1)), (aAt, .inl (cI, 600, .inl (upd Aq j (nI (za_cd9 Tg Co (za_tr Tg Co (za_clp w) (za_clp v) j).2.1 (za_tr Tg Co (za_clp w) (za_clp v) j).2.2))))), (aAs, .inl (cI, 600, .inl (upd Sq j (za_ai (za_an Tg Co (za_tr Tg Co (za_clp w) (za_clp v) j).2.1 (za_tr Tg Co (za_clp w) (za_clp v) j).2.2)))))] H := hP
            have hD : va_D A [(aO, .inr (5, [.ref aMv, .int mn, .ref aMc, .int (za_bi true), .ref aBr, .ref aCd, .ref aNx, .int (nI (za_kc Tg Co)), .ref aMk, .int (nI (j + 1)), .ref aAt, .ref aAs])), (aMv, .inl (cZ, 2304, .inl (fun j => za_bi (Mv j)))), (aMc, .inl (cI, 24, .inl Mc)), (aBr, .inl (cI, 576, .inl Br1_1)), (aCd, .inl (cZ, 576, .inl (fun j => za_bi (Cd1_1 j)))), (aNx, .inl (cZ, 576, .inl (fun j => za_bi (Nx1_1 j)))), (aMk, .inl (cI, 24, .inl Mk1_1)), (aAt, .inl (cI, 600, .inl (upd Aq j (nI (za_cd9 Tg Co (za_tr Tg Co (za_clp w) (za_clp v) j).2.1 (za_tr Tg Co (za_clp w) (za_clp v) j).2.2))))), (aAs, .inl (cI, 600, .inl (upd Sq j (za_ai (za_an Tg Co (za_tr Tg Co (za_clp w) (za_clp v) j).2.1 (za_tr Tg Co (za_clp w) (za_clp v) j).2.2)))))] := hD
            refine lv_iload hx hb zd_M_playOn_140 (lv_at hl 3 rfl) ?_
            refine lv_if_eq hx hb (tgt := 150) zd_M_playOn_142 (by decide) (fun h => absurd (za_bF h) (by rw [h71]; decide)) (fun _ => ?_)
            refine lv_iload hx hb zd_M_playOn_145 (lv_at hl 1 rfl) ?_
            refine lv_goto hx hb (tgt := 152) zd_M_playOn_147 (by decide) ?_
            refine lv_istore_n (lv' := [(3, .int (nI (za_to Tg Co (za_tr Tg Co (za_clp w) (za_clp v) j).2.1 (za_tr Tg Co (za_clp w) (za_clp v) j).2.2))), (10, .int (za_ai (za_an Tg Co (za_tr Tg Co (za_clp w) (za_clp v) j).2.1 (za_tr Tg Co (za_clp w) (za_clp v) j).2.2))), (9, .int (nI (za_to Tg Co (za_tr Tg Co (za_clp w) (za_clp v) j).2.1 (za_tr Tg Co (za_clp w) (za_clp v) j).2.2))), (8, .int (nI (za_lb Tg Co (za_tr Tg Co (za_clp w) (za_clp v) j).2.1 (za_tr Tg Co (za_clp w) (za_clp v) j).2.2))), (7, .int (za_bi (za_mi Tg Co (za_tr Tg Co (za_clp w) (za_clp v) j).2.1 (za_tr Tg Co (za_clp w) (za_clp v) j).2.2))), (6, .int (nI (za_fa Tg Co ((za_tr Tg Co (za_clp w) (za_clp v) j).2.1) ((za_tr Tg Co (za_clp w) (za_clp v) j).2.2)))), (0, .ref aO), (1, .int w), (2, .int v), (4, .int (nI ((za_tr Tg Co (za_clp w) (za_clp v) j).2.2))), (5, .int (za_bi g))]) hx hb zd_M_playOn_152 rfl hl (by decide) rfl (fun ls hl => ?_)
            refine lv_iload hx hb zd_M_playOn_153 (lv_at hl 4 rfl) ?_
            refine lv_if_eq hx hb (tgt := 163) zd_M_playOn_155 (by decide) (fun h => absurd (za_bF h) (by rw [h71]; decide)) (fun _ => ?_)
            refine lv_iload hx hb zd_M_playOn_158 (lv_at hl 1 rfl) ?_
            refine lv_goto hx hb (tgt := 165) zd_M_playOn_160 (by decide) ?_
            refine lv_istore (lv' := [(4, .int (za_ai (za_an Tg Co (za_tr Tg Co (za_clp w) (za_clp v) j).2.1 (za_tr Tg Co (za_clp w) (za_clp v) j).2.2))), (3, .int (nI (za_to Tg Co (za_tr Tg Co (za_clp w) (za_clp v) j).2.1 (za_tr Tg Co (za_clp w) (za_clp v) j).2.2))), (10, .int (za_ai (za_an Tg Co (za_tr Tg Co (za_clp w) (za_clp v) j).2.1 (za_tr Tg Co (za_clp w) (za_clp v) j).2.2))), (9, .int (nI (za_to Tg Co (za_tr Tg Co (za_clp w) (za_clp v) j).2.1 (za_tr Tg Co (za_clp w) (za_clp v) j).2.2))), (8, .int (nI (za_lb Tg Co (za_tr Tg Co (za_clp w) (za_clp v) j).2.1 (za_tr Tg Co (za_clp w) (za_clp v) j).2.2))), (7, .int (za_bi (za_mi Tg Co (za_tr Tg Co (za_clp w) (za_clp v) j).2.1 (za_tr Tg Co (za_clp w) (za_clp v) j).2.2))), (6, .int (nI (za_fa Tg Co ((za_tr Tg Co (za_clp w) (za_clp v) j).2.1) ((za_tr Tg Co (za_clp w) (za_clp v) j).2.2)))), (0, .ref aO), (1, .int w), (2, .int v), (5, .int (za_bi g))]) hx hb zd_M_playOn_165 hl (by decide) rfl (fun ls hl => ?_)
            refine lv_iload hx hb zd_M_playOn_167 (lv_at hl 2 rfl) ?_
            refine lv_if_lt hx hb (tgt := 186) zd_M_playOn_169 (by decide) (fun h169 => ?_) (fun h169 => ?_)
            · skip
              refine lv_iconst (v := nI 0) hx hb zd_M_playOn_186 (by decide) ?_
              refine lv_istore (lv' := [(5, .int (nI 0)), (4, .int (za_ai (za_an Tg Co (za_tr Tg Co (za_clp w) (za_clp v) j).2.1 (za_tr Tg Co (za_clp w) (za_clp v) j).2.2))), (3, .int (nI (za_to Tg Co (za_tr Tg Co (za_clp w) (za_clp v) j).2.1 (za_tr Tg Co (za_clp w) (za_clp v) j).2.2))), (10, .int (za_ai (za_an Tg Co (za_tr Tg Co (za_clp w) (za_clp v) j).2.1 (za_tr Tg Co (za_clp w) (za_clp v) j).2.2))), (9, .int (nI (za_to Tg Co (za_tr Tg Co (za_clp w) (za_clp v) j).2.1 (za_tr Tg Co (za_clp w) (za_clp v) j).2.2))), (8, .int (nI (za_lb Tg Co (za_tr Tg Co (za_clp w) (za_clp v) j).2.1 (za_tr Tg Co (za_clp w) (za_clp v) j).2.2))), (7, .int (za_bi (za_mi Tg Co (za_tr Tg Co (za_clp w) (za_clp v) j).2.1 (za_tr Tg Co (za_clp w) (za_clp v) j).2.2))), (6, .int (nI (za_fa Tg Co ((za_tr Tg Co (za_clp w) (za_clp v) j).2.1) ((za_tr Tg Co (za_clp w) (za_clp v) j).2.2)))), (0, .ref aO), (1, .int w), (2, .int v)]) hx hb zd_M_playOn_187 hl (by decide) rfl (fun ls hl => ?_)
              refine lv_goto hx hb (tgt := 23) zd_M_playOn_189 (by decide) ?_
              have e1 : za_bi false = nI 0 := by first | with_reducible rfl | (rfl)
              exact ih23 (j + 1) false (nI (za_to Tg Co (za_tr Tg Co (za_clp w) (za_clp v) j).2.1 (za_tr Tg Co (za_clp w) (za_clp v) j).2.2)) (za_ai (za_an Tg Co (za_tr Tg Co (za_clp w) (za_clp v) j).2.1 (za_tr Tg Co (za_clp w) (za_clp v) j).2.2)) (upd Aq j (nI (za_cd9 Tg Co (za_tr Tg Co (za_clp w) (za_clp v) j).2.1 (za_tr Tg Co (za_clp w) (za_clp v) j).2.2))) (upd Sq j (za_ai (za_an Tg Co (za_tr Tg Co (za_clp w) (za_clp v) j).2.1 (za_tr Tg Co (za_clp w) (za_clp v) j).2.2))) ls H locs (by omega) (by omega) (by first | exact za_pst_s hrw hss htr (fun h9 => za_c1 h71 h9) (za_on0 h169 rfl) | exact za_pst_s hrw hss htr (fun h9 => za_c2 h71 h9) (za_on0 h169 rfl) | exact za_pst_s hrw hss htr (fun h9 => za_c1 h71 h9) (h179 ▸ za_on1 hpl h71 h169) | exact za_pst_s hrw hss htr (fun h9 => za_c2 h71 h9) (h179 ▸ za_on2 hpl h71 h169)) (by exact za_prow_s hrw hss htr) (by rw [e1]; exact lv_sub hl [8, 9, 10, 2, 1, 0] rfl) hP hD hS
            · skip
              refine lv_aload_n hx hb zd_M_playOn_172 rfl (lv_at hl 7 rfl) ?_
              refine lv_iload_n hx hb zd_M_playOn_173 rfl (lv_at hl 1 rfl) ?_
              refine lv_iload hx hb zd_M_playOn_174 (lv_at hl 0 rfl) ?_
              refine za_cV (As := [.int (nI (za_to Tg Co (za_tr Tg Co (za_clp w) (za_clp v) j).2.1 (za_tr Tg Co (za_clp w) (za_clp v) j).2.2)), .int (za_ai (za_an Tg Co (za_tr Tg Co (za_clp w) (za_clp v) j).2.1 (za_tr Tg Co (za_clp w) (za_clp v) j).2.2))]) (rest := []) ⟨hx, hb, hml, hown, hts⟩ (zc_M_isPlayed ln D cI cZ aO aMv aMc aBr aCd aNx aMk aAt aAs (za_kc Tg Co) (j + 1) mn true Br1_1 Tg Co (nI (za_to Tg Co (za_tr Tg Co (za_clp w) (za_clp v) j).2.1 (za_tr Tg Co (za_clp w) (za_clp v) j).2.2)) (za_ai (za_an Tg Co (za_tr Tg Co (za_clp w) (za_clp v) j).2.1 (za_tr Tg Co (za_clp w) (za_clp v) j).2.2)) (by exact hq1.1)) (za_gV 2 hts zw_587 zw_589 zw_29 zw_40 zw_590 (by decide +kernel) ⟨Nat.le_of_ble_eq_true rfl, Nat.le_of_ble_eq_true rfl⟩) hK hN hP [0, 3] rfl (q0 := 0) rfl rfl hl rfl rfl (Nat.le_of_ble_eq_true rfl) zd_M_playOn_176 ⟨Nat.le_of_ble_eq_true rfl, Nat.le_of_ble_eq_true rfl⟩ ?_
              refine lv_if_eq hx hb (tgt := 186) zd_M_playOn_179 (by decide) (fun h179 => ?_) (fun h179 => ?_)
              · have h179 := za_bF h179
                refine lv_iconst (v := nI 0) hx hb zd_M_playOn_186 (by decide) ?_
                refine lv_istore (lv' := [(5, .int (nI 0)), (4, .int (za_ai (za_an Tg Co (za_tr Tg Co (za_clp w) (za_clp v) j).2.1 (za_tr Tg Co (za_clp w) (za_clp v) j).2.2))), (3, .int (nI (za_to Tg Co (za_tr Tg Co (za_clp w) (za_clp v) j).2.1 (za_tr Tg Co (za_clp w) (za_clp v) j).2.2))), (10, .int (za_ai (za_an Tg Co (za_tr Tg Co (za_clp w) (za_clp v) j).2.1 (za_tr Tg Co (za_clp w) (za_clp v) j).2.2))), (9, .int (nI (za_to Tg Co (za_tr Tg Co (za_clp w) (za_clp v) j).2.1 (za_tr Tg Co (za_clp w) (za_clp v) j).2.2))), (8, .int (nI (za_lb Tg Co (za_tr Tg Co (za_clp w) (za_clp v) j).2.1 (za_tr Tg Co (za_clp w) (za_clp v) j).2.2))), (7, .int (za_bi (za_mi Tg Co (za_tr Tg Co (za_clp w) (za_clp v) j).2.1 (za_tr Tg Co (za_clp w) (za_clp v) j).2.2))), (6, .int (nI (za_fa Tg Co ((za_tr Tg Co (za_clp w) (za_clp v) j).2.1) ((za_tr Tg Co (za_clp w) (za_clp v) j).2.2)))), (0, .ref aO), (1, .int w), (2, .int v)]) hx hb zd_M_playOn_187 hl (by decide) rfl (fun ls hl => ?_)
                refine lv_goto hx hb (tgt := 23) zd_M_playOn_189 (by decide) ?_
                have e1 : za_bi false = nI 0 := by first | with_reducible rfl | (rfl)
                exact ih23 (j + 1) false (nI (za_to Tg Co (za_tr Tg Co (za_clp w) (za_clp v) j).2.1 (za_tr Tg Co (za_clp w) (za_clp v) j).2.2)) (za_ai (za_an Tg Co (za_tr Tg Co (za_clp w) (za_clp v) j).2.1 (za_tr Tg Co (za_clp w) (za_clp v) j).2.2)) (upd Aq j (nI (za_cd9 Tg Co (za_tr Tg Co (za_clp w) (za_clp v) j).2.1 (za_tr Tg Co (za_clp w) (za_clp v) j).2.2))) (upd Sq j (za_ai (za_an Tg Co (za_tr Tg Co (za_clp w) (za_clp v) j).2.1 (za_tr Tg Co (za_clp w) (za_clp v) j).2.2))) ls H locs (by omega) (by omega) (by first | exact za_pst_s hrw hss htr (fun h9 => za_c1 h71 h9) (za_on0 h169 rfl) | exact za_pst_s hrw hss htr (fun h9 => za_c2 h71 h9) (za_on0 h169 rfl) | exact za_pst_s hrw hss htr (fun h9 => za_c1 h71 h9) (h179 ▸ za_on1 hpl h71 h169) | exact za_pst_s hrw hss htr (fun h9 => za_c2 h71 h9) (h179 ▸ za_on2 hpl h71 h169)) (by exact za_prow_s hrw hss htr) (by rw [e1]; exact lv_sub hl [8, 9, 10, 2, 1, 0] rfl) hP hD hS
              · have h179 := za_bT h179
                refine lv_iconst (v := nI 1) hx hb zd_M_playOn_182 (by decide) ?_
                refine lv_goto hx hb (tgt := 187) zd_M_playOn_183 (by decide) ?_
                refine lv_istore (lv' := [(5, .int (nI 1)), (4, .int (za_ai (za_an Tg Co (za_tr Tg Co (za_clp w) (za_clp v) j).2.1 (za_tr Tg Co (za_clp w) (za_clp v) j).2.2))), (3, .int (nI (za_to Tg Co (za_tr Tg Co (za_clp w) (za_clp v) j).2.1 (za_tr Tg Co (za_clp w) (za_clp v) j).2.2))), (10, .int (za_ai (za_an Tg Co (za_tr Tg Co (za_clp w) (za_clp v) j).2.1 (za_tr Tg Co (za_clp w) (za_clp v) j).2.2))), (9, .int (nI (za_to Tg Co (za_tr Tg Co (za_clp w) (za_clp v) j).2.1 (za_tr Tg Co (za_clp w) (za_clp v) j).2.2))), (8, .int (nI (za_lb Tg Co (za_tr Tg Co (za_clp w) (za_clp v) j).2.1 (za_tr Tg Co (za_clp w) (za_clp v) j).2.2))), (7, .int (za_bi (za_mi Tg Co (za_tr Tg Co (za_clp w) (za_clp v) j).2.1 (za_tr Tg Co (za_clp w) (za_clp v) j).2.2))), (6, .int (nI (za_fa Tg Co ((za_tr Tg Co (za_clp w) (za_clp v) j).2.1) ((za_tr Tg Co (za_clp w) (za_clp v) j).2.2)))), (0, .ref aO), (1, .int w), (2, .int v)]) hx hb zd_M_playOn_187 hl (by decide) rfl (fun ls hl => ?_)
                refine lv_goto hx hb (tgt := 23) zd_M_playOn_189 (by decide) ?_
                have e1 : za_bi true = nI 1 := by first | with_reducible rfl | (rfl)
                exact ih23 (j + 1) true (nI (za_to Tg Co (za_tr Tg Co (za_clp w) (za_clp v) j).2.1 (za_tr Tg Co (za_clp w) (za_clp v) j).2.2)) (za_ai (za_an Tg Co (za_tr Tg Co (za_clp w) (za_clp v) j).2.1 (za_tr Tg Co (za_clp w) (za_clp v) j).2.2)) (upd Aq j (nI (za_cd9 Tg Co (za_tr Tg Co (za_clp w) (za_clp v) j).2.1 (za_tr Tg Co (za_clp w) (za_clp v) j).2.2))) (upd Sq j (za_ai (za_an Tg Co (za_tr Tg Co (za_clp w) (za_clp v) j).2.1 (za_tr Tg Co (za_clp w) (za_clp v) j).2.2))) ls H locs (by omega) (by omega) (by first | exact za_pst_s hrw hss htr (fun h9 => za_c1 h71 h9) (za_on0 h169 rfl) | exact za_pst_s hrw hss htr (fun h9 => za_c2 h71 h9) (za_on0 h169 rfl) | exact za_pst_s hrw hss htr (fun h9 => za_c1 h71 h9) (h179 ▸ za_on1 hpl h71 h169) | exact za_pst_s hrw hss htr (fun h9 => za_c2 h71 h9) (h179 ▸ za_on2 hpl h71 h169)) (by exact za_prow_s hrw hss htr) (by rw [e1]; exact lv_sub hl [8, 9, 10, 2, 1, 0] rfl) hP hD hS
        refine lv_icmp_ge hx hb (tgt := 48) zd_M_playOn_41 (by decide) (fun h41 => ?_) (fun h41 => ?_)
        · have h41 := za_leN h41 (by omega) (by omega)
          refine lv_iconst (v := nI 0) hx hb zd_M_playOn_48 (by decide) ?_
          exact hJ49 _ (za_b0 (by first | exact decide_eq_true h41 | exact decide_eq_false (by omega)))
        · have h41 := za_nleN h41 (by omega) (by omega)
          refine lv_iconst (v := nI 1) hx hb zd_M_playOn_44 (by decide) ?_
          refine lv_goto hx hb (tgt := 49) zd_M_playOn_45 (by decide) ?_
          exact hJ49 _ (za_b1 (by first | exact decide_eq_true h41 | exact decide_eq_false (by omega)))
  exact hC23 (25 - 0 + 1) 0 (za_isp Tg Co w v) w v At As ls H locs (Nat.lt_succ_self _) (by omega) (by exact za_pst0 Tg Co w v) (by exact fun q hq => absurd hq (Nat.not_lt_zero _)) (lv_sub hl [3, 4, 5, 2, 1, 0] rfl) hP hD hS
