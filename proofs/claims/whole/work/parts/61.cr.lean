theorem za_prow_t {Tg Co Aq Sq : Nat → Int32} {w v : Int32} {j x y : Nat} (h : za_prow Tg Co w v j Aq Sq) (hss : (za_isS w && za_isS v) = true) (ht : (za_tr Tg Co (za_clp w) (za_clp v) j).1 = true) (hx : x = (za_tr Tg Co (za_clp w) (za_clp v) j).2.1) (hy : y = (za_tr Tg Co (za_clp w) (za_clp v) j).2.2) : za_prow Tg Co w v (j + 1) (upd Aq j (nI (za_cd9 Tg Co x y))) (upd Sq j (za_ai (za_an Tg Co x y))) := by
  rw [hx, hy]
  exact za_prow_s h hss ht
theorem za_pst_t {Tg Co : Nat → Int32} {w v : Int32} {j x y : Nat} {g : Bool} {c3 c4 : Int32} {Aq Sq : Nat → Int32} (hr : za_prow Tg Co w v j Aq Sq) (hss : (za_isS w && za_isS v) = true) (ht : (za_tr Tg Co (za_clp w) (za_clp v) j).1 = true) (hx : x = (za_tr Tg Co (za_clp w) (za_clp v) j).2.1) (hy : y = (za_tr Tg Co (za_clp w) (za_clp v) j).2.2)
    (hc : ¬ za_an Tg Co x y = 24 → c3 = nI (za_x1 Tg Co x y) ∧ c4 = nI (za_y1 Tg Co x y)) (hg : g = true ↔ ¬ za_an Tg Co x y = 24 ∧ za_pl Tg Co (za_x1 Tg Co x y) (za_y1 Tg Co x y) = true) : za_pst Tg Co w v (j + 1) g c3 c4 := by
  rw [hx, hy] at hc hg
  exact za_pst_s hr hss ht hc hg
def zr_M_playOn : Room := { frames := 5, cells := 0, slots := 0, locals := 118 }
set_option maxHeartbeats 2000000 in
set_option maxRecDepth 100000 in
theorem zc_M_playOn (ln : Launch) (D : va_G) (cI cZ : ClassId) (sz : Nat) (aO : Nat) (aMv : Nat) (aMc : Nat) (aBr : Nat) (aCd : Nat) (aNx : Nat) (aMk : Nat) (aAt : Nat) (aAs : Nat) (mkc : Nat) (mpl : Nat) (mn : Int32) (kn : Bool) (Mv : Nat → Bool) (Mc : Nat → Int32) (Br : Nat → Int32) (Cd : Nat → Bool) (Nx : Nat → Bool) (Mk : Nat → Int32) (Tg : Nat → Int32) (Co : Nat → Int32) (At : Nat → Int32) (As : Nat → Int32) (w : Int32) (v : Int32) (hMv : za_rel Tg Mv) (hMc : (∀ s, s < 24 → Mc s = Co s)) (hkn : kn = true → (za_brs Tg Co Br ∧ za_cds Tg Co Cd ∧ (∀ x, x < 24 → Mk x = za_kd Tg Co x) ∧ mkc = za_kc Tg Co)) : Met ln zm_M_playOn (Cond.code zm_M_playOn zo_M_playOn 11 none :: zb_big) zr_M_playOn (za_Pw D vwCl [(cI, .int), (cZ, .boolean)] [.ref aO, .int w, .int v] [(aO, .inr (5, [.ref aMv, .int mn, .ref aMc, .int (za_bi kn), .ref aBr, .ref aCd, .ref aNx, .int (nI mkc), .ref aMk, .int (nI mpl), .ref aAt, .ref aAs])), (aMv, .inl (cZ, 2304, .inl (fun j => za_bi (Mv j)))), (aMc, .inl (cI, 24, .inl Mc)), (aBr, .inl (cI, 576, .inl Br)), (aCd, .inl (cZ, 576, .inl (fun j => za_bi (Cd j)))), (aNx, .inl (cZ, 576, .inl (fun j => za_bi (Nx j)))), (aMk, .inl (cI, 24, .inl Mk)), (aAt, .inl (cI, 600, .inl At)), (aAs, .inl (cI, 600, .inl As))] sz) (va_Qv (fun (u : (Nat → Int32) × (Nat → Bool) × (Nat → Bool) × (Nat → Int32) × (Nat → Int32) × (Nat → Int32) × Nat) => za_brs Tg Co u.1 ∧ za_cds Tg Co u.2.1 ∧ (∀ x, x < 24 → u.2.2.2.1 x = za_kd Tg Co x) ∧ u.2.2.2.2.2.2 = za_pnv Tg Co w v ∧ za_prow Tg Co w v u.2.2.2.2.2.2 u.2.2.2.2.1 u.2.2.2.2.2.1) (za_B D vwCl [(aO, .inr (5, [.ref aMv, .int mn, .ref aMc, .int (za_bi kn), .ref aBr, .ref aCd, .ref aNx, .int (nI mkc), .ref aMk, .int (nI mpl), .ref aAt, .ref aAs])), (aMv, .inl (cZ, 2304, .inl (fun j => za_bi (Mv j)))), (aMc, .inl (cI, 24, .inl Mc)), (aBr, .inl (cI, 576, .inl Br)), (aCd, .inl (cZ, 576, .inl (fun j => za_bi (Cd j)))), (aNx, .inl (cZ, 576, .inl (fun j => za_bi (Nx j)))), (aMk, .inl (cI, 24, .inl Mk)), (aAt, .inl (cI, 600, .inl At)), (aAs, .inl (cI, 600, .inl As))] sz (fun (u : (Nat → Int32) × (Nat → Bool) × (Nat → Bool) × (Nat → Int32) × (Nat → Int32) × (Nat → Int32) × Nat) => [(aO, .inr (5, [.ref aMv, .int mn, .ref aMc, .int (za_bi true), .ref aBr, .ref aCd, .ref aNx, .int (nI (za_kc Tg Co)), .ref aMk, .int (nI u.2.2.2.2.2.2), .ref aAt, .ref aAs])), (aMv, .inl (cZ, 2304, .inl (fun j => za_bi (Mv j)))), (aMc, .inl (cI, 24, .inl Mc)), (aBr, .inl (cI, 576, .inl u.1)), (aCd, .inl (cZ, 576, .inl (fun j => za_bi (u.2.1 j)))), (aNx, .inl (cZ, 576, .inl (fun j => za_bi (u.2.2.1 j)))), (aMk, .inl (cI, 24, .inl u.2.2.2.1)), (aAt, .inl (cI, 600, .inl u.2.2.2.2.1)), (aAs, .inl (cI, 600, .inl u.2.2.2.2.2.1))])) (va_A [(aO, .inr (5, [.ref aMv, .int mn, .ref aMc, .int (za_bi kn), .ref aBr, .ref aCd, .ref aNx, .int (nI mkc), .ref aMk, .int (nI mpl), .ref aAt, .ref aAs])), (aMv, .inl (cZ, 2304, .inl (fun j => za_bi (Mv j)))), (aMc, .inl (cI, 24, .inl Mc)), (aBr, .inl (cI, 576, .inl Br)), (aCd, .inl (cZ, 576, .inl (fun j => za_bi (Cd j)))), (aNx, .inl (cZ, 576, .inl (fun j => za_bi (Nx j)))), (aMk, .inl (cI, 24, .inl Mk)), (aAt, .inl (cI, 600, .inl At)), (aAs, .inl (cI, 600, .inl As))] sz)) 0 0 (va_A [(aO, .inr (5, [.ref aMv, .int mn, .ref aMc, .int (za_bi kn), .ref aBr, .ref aCd, .ref aNx, .int (nI mkc), .ref aMk, .int (nI mpl), .ref aAt, .ref aAs])), (aMv, .inl (cZ, 2304, .inl (fun j => za_bi (Mv j)))), (aMc, .inl (cI, 24, .inl Mc)), (aBr, .inl (cI, 576, .inl Br)), (aCd, .inl (cZ, 576, .inl (fun j => za_bi (Cd j)))), (aNx, .inl (cZ, 576, .inl (fun j => za_bi (Nx j)))), (aMk, .inl (cI, 24, .inl Mk)), (aAt, .inl (cI, 600, .inl At)), (aAs, .inl (cI, 600, .inl As))] sz) := by
  refine za_wv (cc := zo_M_playOn) (maxL := 11) (by decide) (Nat.le_of_ble_eq_true rfl) ?_
  intro p e sg m args below meth c H0 A Q hx hb hml hts hown hmn hP hK hN hD hA hS hret ls hl
  have hP : va_P D vwCl [(aO, .inr (5, [.ref aMv, .int mn, .ref aMc, .int (za_bi kn), .ref aBr, .ref aCd, .ref aNx, .int (nI mkc), .ref aMk, .int (nI mpl), .ref aAt, .ref aAs])), (aMv, .inl (cZ, 2304, .inl (fun j => za_bi (Mv j)))), (aMc, .inl (cI, 24, .inl Mc)), (aBr, .inl (cI, 576, .inl Br)), (aCd, .inl (cZ, 576, .inl (fun j => za_bi (Cd j)))), (aNx, .inl (cZ, 576, .inl (fun j => za_bi (Nx j)))), (aMk, .inl (cI, 24, .inl Mk)), (aAt, .inl (cI, 600, .inl At)), (aAs, .inl (cI, 600, .inl As))] H0 := hP
  have hD : va_D A [(aO, .inr (5, [.ref aMv, .int mn, .ref aMc, .int (za_bi kn), .ref aBr, .ref aCd, .ref aNx, .int (nI mkc), .ref aMk, .int (nI mpl), .ref aAt, .ref aAs])), (aMv, .inl (cZ, 2304, .inl (fun j => za_bi (Mv j)))), (aMc, .inl (cI, 24, .inl Mc)), (aBr, .inl (cI, 576, .inl Br)), (aCd, .inl (cZ, 576, .inl (fun j => za_bi (Cd j)))), (aNx, .inl (cZ, 576, .inl (fun j => za_bi (Nx j)))), (aMk, .inl (cI, 24, .inl Mk)), (aAt, .inl (cI, 600, .inl At)), (aAs, .inl (cI, 600, .inl As))] := hD
  have hl : lv_has ls 11 [(0, .ref aO), (1, .int w), (2, .int v)] := hl
  have hf92 := hts _ zw_452
  have hf29 := hts _ zw_453
  have hf32 := hts _ zw_454
  refine lv_aload_n hx hb zd_M_playOn_0 rfl (lv_at hl 0 rfl) ?_
  refine za_wVv (As := []) (rest := []) (wr := [(aAt, .inl (cI, 600, .inl At)), (aAs, .inl (cI, 600, .inl As))]) (wz := (fun u => [(aO, .inr (5, [.ref aMv, .int mn, .ref aMc, .int (za_bi true), .ref aBr, .ref aCd, .ref aNx, .int (nI (za_kc Tg Co)), .ref aMk, .int (nI mpl), .ref aAt, .ref aAs])), (aMv, .inl (cZ, 2304, .inl (fun j => za_bi (Mv j)))), (aMc, .inl (cI, 24, .inl Mc)), (aBr, .inl (cI, 576, .inl u.1)), (aCd, .inl (cZ, 576, .inl (fun j => za_bi (u.2.1 j)))), (aNx, .inl (cZ, 576, .inl (fun j => za_bi (u.2.2.1 j)))), (aMk, .inl (cI, 24, .inl u.2.2.2)), (aAt, .inl (cI, 600, .inl At)), (aAs, .inl (cI, 600, .inl As))])) ⟨hx, hb, hml, hown, hts⟩ (zc_M_look ln D cI cZ _ aO aMv aMc aBr aCd aNx aMk aAt aAs mkc mpl mn kn Mv Mc Br Cd Nx Mk Tg Co (by exact hMv) (by exact hMc) (by exact hkn)) (za_gV 0 hts zw_515 zw_517 zw_20 zw_40 zw_518 (by decide +kernel) ⟨Nat.le_of_ble_eq_true rfl, Nat.le_of_ble_eq_true rfl⟩) hK hN hP hD hS hA [0, 1, 2, 3, 4, 5, 6] [7, 8] [2, 3, 4, 5, 6, 7, 8, 0, 1] rfl rfl (by decide) (by decide) (by decide) (by decide) (fun _ => rfl) (q0 := 0) rfl rfl hl rfl rfl (Nat.le_of_ble_eq_true rfl) zd_M_playOn_1 ⟨Nat.le_of_ble_eq_true rfl, Nat.le_of_ble_eq_true rfl⟩ (fun u1 H locs hq1 hP hD hS => ?_)
  obtain ⟨Br1_1, Cd1_1, Nx1_1, Mk1_1⟩ := u1
  have hP : va_P D vwCl [(aO, .inr (5, [.ref aMv, .int mn, .ref aMc, .int (za_bi true), .ref aBr, .ref aCd, .ref aNx, .int (nI (za_kc Tg Co)), .ref aMk, .int (nI mpl), .ref aAt, .ref aAs])), (aMv, .inl (cZ, 2304, .inl (fun j => za_bi (Mv j)))), (aMc, .inl (cI, 24, .inl Mc)), (aBr, .inl (cI, 576, .inl Br1_1)), (aCd, .inl (cZ, 576, .inl (fun j => za_bi (Cd1_1 j)))), (aNx, .inl (cZ, 576, .inl (fun j => za_bi (Nx1_1 j)))), (aMk, .inl (cI, 24, .inl Mk1_1)), (aAt, .inl (cI, 600, .inl At)), (aAs, .inl (cI, 600, .inl As))] H := hP
  have hD : va_D A [(aO, .inr (5, [.ref aMv, .int mn, .ref aMc, .int (za_bi true), .ref aBr, .ref aCd, .ref aNx, .int (nI (za_kc Tg Co)), .ref aMk, .int (nI mpl), .ref aAt, .ref aAs])), (aMv, .inl (cZ, 2304, .inl (fun j => za_bi (Mv j)))), (aMc, .inl (cI, 24, .inl Mc)), (aBr, .inl (cI, 576, .inl Br1_1)), (aCd, .inl (cZ, 576, .inl (fun j => za_bi (Cd1_1 j)))), (aNx, .inl (cZ, 576, .inl (fun j => za_bi (Nx1_1 j)))), (aMk, .inl (cI, 24, .inl Mk1_1)), (aAt, .inl (cI, 600, .inl At)), (aAs, .inl (cI, 600, .inl As))] := hD
  have hq1 : za_brs Tg Co Br1_1 ∧ za_cds Tg Co Cd1_1 ∧ (∀ x, x < 24 → Mk1_1 x = za_kd Tg Co x) := hq1
  refine lv_aload_n hx hb zd_M_playOn_4 rfl (lv_at hl 0 rfl) ?_
  refine lv_iconst (v := nI 0) hx hb zd_M_playOn_5 (by decide) ?_
  refine va_put (D := D) (ci := 5) (v := .int (nI 0)) (ty := .int) (C := zs_M) (T := zt_M) (N := 12) hx hb hts zi_M zy_M zk_M zn_M hown hK hP hD hS 0 rfl rfl 9 (by decide) hf92 (fun _ h9 => h9) rfl (by decide +kernel) rfl rfl (Nat.le_of_ble_eq_true rfl) zd_M_playOn_6 (fun H locs hP hD hS => ?_)
  have hP : va_P D vwCl [(aO, .inr (5, [.ref aMv, .int mn, .ref aMc, .int (za_bi true), .ref aBr, .ref aCd, .ref aNx, .int (nI (za_kc Tg Co)), .ref aMk, .int (nI 0), .ref aAt, .ref aAs])), (aMv, .inl (cZ, 2304, .inl (fun j => za_bi (Mv j)))), (aMc, .inl (cI, 24, .inl Mc)), (aBr, .inl (cI, 576, .inl Br1_1)), (aCd, .inl (cZ, 576, .inl (fun j => za_bi (Cd1_1 j)))), (aNx, .inl (cZ, 576, .inl (fun j => za_bi (Nx1_1 j)))), (aMk, .inl (cI, 24, .inl Mk1_1)), (aAt, .inl (cI, 600, .inl At)), (aAs, .inl (cI, 600, .inl As))] H := hP
  have hD : va_D A [(aO, .inr (5, [.ref aMv, .int mn, .ref aMc, .int (za_bi true), .ref aBr, .ref aCd, .ref aNx, .int (nI (za_kc Tg Co)), .ref aMk, .int (nI 0), .ref aAt, .ref aAs])), (aMv, .inl (cZ, 2304, .inl (fun j => za_bi (Mv j)))), (aMc, .inl (cI, 24, .inl Mc)), (aBr, .inl (cI, 576, .inl Br1_1)), (aCd, .inl (cZ, 576, .inl (fun j => za_bi (Cd1_1 j)))), (aNx, .inl (cZ, 576, .inl (fun j => za_bi (Nx1_1 j)))), (aMk, .inl (cI, 24, .inl Mk1_1)), (aAt, .inl (cI, 600, .inl At)), (aAs, .inl (cI, 600, .inl As))] := hD
  refine lv_iload_n hx hb zd_M_playOn_9 rfl (lv_at hl 1 rfl) ?_
  refine lv_istore_n (lv' := [(3, .int w), (0, .ref aO), (1, .int w), (2, .int v)]) hx hb zd_M_playOn_10 rfl hl (by decide) rfl (fun ls hl => ?_)
  refine lv_iload_n hx hb zd_M_playOn_11 rfl (lv_at hl 3 rfl) ?_
  refine lv_istore (lv' := [(4, .int v), (3, .int w), (0, .ref aO), (1, .int w), (2, .int v)]) hx hb zd_M_playOn_12 hl (by decide) rfl (fun ls hl => ?_)
  refine lv_aload_n hx hb zd_M_playOn_14 rfl (lv_at hl 2 rfl) ?_
  refine lv_iload_n hx hb zd_M_playOn_15 rfl (lv_at hl 1 rfl) ?_
  refine lv_iload hx hb zd_M_playOn_16 (lv_at hl 0 rfl) ?_
  refine za_cV (As := [.int w, .int v]) (rest := []) ⟨hx, hb, hml, hown, hts⟩ (zc_M_isPlayed ln D cI cZ aO aMv aMc aBr aCd aNx aMk aAt aAs (za_kc Tg Co) 0 mn true Br1_1 Tg Co w v (by exact hq1.1)) (za_gV 2 hts zw_587 zw_589 zw_29 zw_40 zw_590 (by decide +kernel) ⟨Nat.le_of_ble_eq_true rfl, Nat.le_of_ble_eq_true rfl⟩) hK hN hP [0, 3] rfl (q0 := 0) rfl rfl hl rfl rfl (Nat.le_of_ble_eq_true rfl) zd_M_playOn_18 ⟨Nat.le_of_ble_eq_true rfl, Nat.le_of_ble_eq_true rfl⟩ ?_
  refine lv_istore (lv' := [(5, .int (za_bi (za_isp Tg Co w v))), (4, .int v), (3, .int w), (0, .ref aO), (1, .int w), (2, .int v)]) hx hb zd_M_playOn_21 hl (by decide) rfl (fun ls hl => ?_)
  have hC23 : ∀ (n23 : Nat) (j : Nat) (g : Bool) (c3 : Int32) (c4 : Int32) (Aq : Nat → Int32) (Sq : Nat → Int32) (ls : Array Slot) (H : Heap) (locs : List Loc), 25 - j < n23 → j ≤ 24 → za_pst Tg Co w v j g c3 c4 → za_prow Tg Co w v j Aq Sq → lv_has ls 11 [(0, .ref aO), (1, .int w), (2, .int v), (3, .int c3), (4, .int c4), (5, .int (za_bi g))] → va_P D vwCl [(aO, .inr (5, [.ref aMv, .int mn, .ref aMc, .int (za_bi true), .ref aBr, .ref aCd, .ref aNx, .int (nI (za_kc Tg Co)), .ref aMk, .int (nI j), .ref aAt, .ref aAs])), (aMv, .inl (cZ, 2304, .inl (fun j => za_bi (Mv j)))), (aMc, .inl (cI, 24, .inl Mc)), (aBr, .inl (cI, 576, .inl Br1_1)), (aCd, .inl (cZ, 576, .inl (fun j => za_bi (Cd1_1 j)))), (aNx, .inl (cZ, 576, .inl (fun j => za_bi (Nx1_1 j)))), (aMk, .inl (cI, 24, .inl Mk1_1)), (aAt, .inl (cI, 600, .inl Aq)), (aAs, .inl (cI, 600, .inl Sq))] H → va_D A [(aO, .inr (5, [.ref aMv, .int mn, .ref aMc, .int (za_bi true), .ref aBr, .ref aCd, .ref aNx, .int (nI (za_kc Tg Co)), .ref aMk, .int (nI j), .ref aAt, .ref aAs])), (aMv, .inl (cZ, 2304, .inl (fun j => za_bi (Mv j)))), (aMc, .inl (cI, 24, .inl Mc)), (aBr, .inl (cI, 576, .inl Br1_1)), (aCd, .inl (cZ, 576, .inl (fun j => za_bi (Cd1_1 j)))), (aNx, .inl (cZ, 576, .inl (fun j => za_bi (Nx1_1 j)))), (aMk, .inl (cI, 24, .inl Mk1_1)), (aAt, .inl (cI, 600, .inl Aq)), (aAs, .inl (cI, 600, .inl Sq))] → va_S A H0 H locs → W p ln e zr_M_playOn sg m args below meth c H locs 0 0 Q (F0 m 23 ls []) := by
    intro n23
    induction n23 with
    | zero => intro j g c3 c4 Aq Sq ls H locs hn23 hj hst hrw hl hP hD hS; exact absurd hn23 (Nat.not_lt_zero _)
    | succ n23 ih23 =>
      intro j g c3 c4 Aq Sq ls H locs hn23 hj hst hrw hl hP hD hS
      refine lv_iload hx hb zd_M_playOn_23 (lv_at hl 5 rfl) ?_
      refine lv_if_eq hx hb (tgt := 192) zd_M_playOn_25 (by decide) (fun h25 => ?_) (fun h25 => ?_)
      · have h25 := za_bF h25
        have hP9 : va_P D vwCl [(aO, .inr (5, [.ref aMv, .int mn, .ref aMc, .int (za_bi true), .ref aBr, .ref aCd, .ref aNx, .int (nI (za_kc Tg Co)), .ref aMk, .int (nI j), .ref aAt, .ref aAs])), (aMv, .inl (cZ, 2304, .inl (fun j => za_bi (Mv j)))), (aMc, .inl (cI, 24, .inl Mc)), (aBr, .inl (cI, 576, .inl Br1_1)), (aCd, .inl (cZ, 576, .inl (fun j => za_bi (Cd1_1 j)))), (aNx, .inl (cZ, 576, .inl (fun j => za_bi (Nx1_1 j)))), (aMk, .inl (cI, 24, .inl Mk1_1)), (aAt, .inl (cI, 600, .inl Aq)), (aAs, .inl (cI, 600, .inl Sq))] H := hP
        have hD9 : va_D A [(aO, .inr (5, [.ref aMv, .int mn, .ref aMc, .int (za_bi true), .ref aBr, .ref aCd, .ref aNx, .int (nI (za_kc Tg Co)), .ref aMk, .int (nI j), .ref aAt, .ref aAs])), (aMv, .inl (cZ, 2304, .inl (fun j => za_bi (Mv j)))), (aMc, .inl (cI, 24, .inl Mc)), (aBr, .inl (cI, 576, .inl Br1_1)), (aCd, .inl (cZ, 576, .inl (fun j => za_bi (Cd1_1 j)))), (aNx, .inl (cZ, 576, .inl (fun j => za_bi (Nx1_1 j)))), (aMk, .inl (cI, 24, .inl Mk1_1)), (aAt, .inl (cI, 600, .inl Aq)), (aAs, .inl (cI, 600, .inl Sq))] := hD
        have hQ9 : za_brs Tg Co Br1_1 ∧ za_cds Tg Co Cd1_1 ∧ (∀ x, x < 24 → Mk1_1 x = za_kd Tg Co x) ∧ j = za_pnv Tg Co w v ∧ za_prow Tg Co w v j Aq Sq := by exact ⟨hq1.1, hq1.2.1, hq1.2.2, hst.2 h25, hrw⟩
        exact hret ⟨Br1_1, Cd1_1, Nx1_1, Mk1_1, Aq, Sq, j⟩ _ _ _ _ (hQ9) hP9 hD9 hS zd_M_playOn_192
      · have h25 := za_bT h25
        obtain ⟨hss, hc3, hc4, htr⟩ := hst.1 h25
        obtain ⟨⟨s9, hs9, hw9⟩, t9, ht9, hv9⟩ := za_isSS_of hss
        obtain ⟨hxx, hyy, hin⟩ := za_tr_in (Tg := Tg) (Co := Co) (show za_clp w < 24 by rw [hw9, za_clS hs9]; exact hs9) (show za_clp v < 24 by rw [hv9, za_clS ht9]; exact ht9) j
        obtain ⟨hpl, hj24⟩ := hin htr
        obtain ⟨xx, hex⟩ : ∃ z99, z99 = (za_tr Tg Co (za_clp w) (za_clp v) j).2.1 := ⟨_, rfl⟩
        obtain ⟨yy, hey⟩ : ∃ z99, z99 = (za_tr Tg Co (za_clp w) (za_clp v) j).2.2 := ⟨_, rfl⟩
        rw [← hex] at hc3 hxx
        rw [← hey] at hc4 hyy
        rw [← hex, ← hey] at hpl hj24
        have hfa := za_fa_lt hpl
        have hlb := za_lb_lt (Tg := Tg) (Co := Co) xx yy
        have hto := za_to_lt (Tg := Tg) (Co := Co) xx yy
        have hl : lv_has ls 11 [(0, .ref aO), (1, .int w), (2, .int v), (3, .int (nI xx)), (4, .int c4), (5, .int (za_bi g))] := by rw [← hc3]; exact hl
        have hl : lv_has ls 11 [(0, .ref aO), (1, .int w), (2, .int v), (3, .int (nI xx)), (4, .int (nI yy)), (5, .int (za_bi g))] := by rw [← hc4]; exact hl
        refine lv_aload_n hx hb zd_M_playOn_28 rfl (lv_at hl 0 rfl) ?_
        refine lv_iload_n hx hb zd_M_playOn_29 rfl (lv_at hl 3 rfl) ?_
        refine lv_iload hx hb zd_M_playOn_30 (lv_at hl 4 rfl) ?_
        refine za_cV (As := [.int (nI xx), .int (nI yy)]) (rest := []) ⟨hx, hb, hml, hown, hts⟩ (zc_M_firstAttack ln D cI cZ aO aMv aMc aBr aCd aNx aMk aAt aAs (za_kc Tg Co) j mn true Mv Br1_1 Tg Co xx yy (by exact hMv) (by exact hq1.1) (by omega) (by omega) (by exact hpl)) (za_gV 2 hts zw_603 zw_605 zw_32 zw_40 zw_606 (by decide +kernel) ⟨Nat.le_of_ble_eq_true rfl, Nat.le_of_ble_eq_true rfl⟩) hK hN hP [0, 1, 3] rfl (q0 := 0) rfl rfl hl rfl rfl (Nat.le_of_ble_eq_true rfl) zd_M_playOn_32 ⟨Nat.le_of_ble_eq_true rfl, Nat.le_of_ble_eq_true rfl⟩ ?_
        refine lv_istore (lv' := [(6, .int (nI (za_fa Tg Co xx yy))), (0, .ref aO), (1, .int w), (2, .int v), (3, .int (nI xx)), (4, .int (nI yy)), (5, .int (za_bi g))]) hx hb zd_M_playOn_35 hl (by decide) rfl (fun ls hl => ?_)
        refine lv_iload hx hb zd_M_playOn_37 (lv_at hl 0 rfl) ?_
        refine lv_bipush (v := nI 96) hx hb zd_M_playOn_39 (by decide) ?_
        have hJ49 : ∀ v77 : Int32, v77 = za_bi (za_mi Tg Co xx yy) → W p ln e zr_M_playOn sg m args below meth c H locs 0 0 Q (F0 m 49 ls [.int v77]) := by
          intro v77 hv77
          rw [hv77]
          refine lv_istore (lv' := [(7, .int (za_bi (za_mi Tg Co xx yy))), (6, .int (nI (za_fa Tg Co xx yy))), (0, .ref aO), (1, .int w), (2, .int v), (3, .int (nI xx)), (4, .int (nI yy)), (5, .int (za_bi g))]) hx hb zd_M_playOn_49 hl (by decide) rfl (fun ls hl => ?_)
          refine lv_iload hx hb zd_M_playOn_51 (lv_at hl 1 rfl) ?_
          refine lv_bipush (v := nI 96) hx hb zd_M_playOn_53 (by decide) ?_
          refine za_remN hx hb (by omega) (by decide) (by decide) zd_M_playOn_55 ?_
          refine lv_bipush (v := nI 24) hx hb zd_M_playOn_56 (by decide) ?_
          refine za_divN hx hb (by omega) (by decide) (by decide) zd_M_playOn_58 ?_
          refine za_eqi (y := nI (za_lb Tg Co xx yy)) (by rw [za_lb]) ?_
          refine lv_istore (lv' := [(8, .int (nI (za_lb Tg Co xx yy))), (7, .int (za_bi (za_mi Tg Co xx yy))), (6, .int (nI (za_fa Tg Co xx yy))), (0, .ref aO), (1, .int w), (2, .int v), (3, .int (nI xx)), (4, .int (nI yy)), (5, .int (za_bi g))]) hx hb zd_M_playOn_59 hl (by decide) rfl (fun ls hl => ?_)
          refine lv_iload hx hb zd_M_playOn_61 (lv_at hl 2 rfl) ?_
          refine lv_bipush (v := nI 24) hx hb zd_M_playOn_63 (by decide) ?_
          refine za_remN hx hb (by omega) (by decide) (by decide) zd_M_playOn_65 ?_
          refine za_eqi (y := nI (za_to Tg Co xx yy)) (by rw [za_to]) ?_
          refine lv_istore (lv' := [(9, .int (nI (za_to Tg Co xx yy))), (8, .int (nI (za_lb Tg Co xx yy))), (7, .int (za_bi (za_mi Tg Co xx yy))), (6, .int (nI (za_fa Tg Co xx yy))), (0, .ref aO), (1, .int w), (2, .int v), (3, .int (nI xx)), (4, .int (nI yy)), (5, .int (za_bi g))]) hx hb zd_M_playOn_66 hl (by decide) rfl (fun ls hl => ?_)
          refine lv_aload_n hx hb zd_M_playOn_68 rfl (lv_at hl 4 rfl) ?_
          refine lv_iload hx hb zd_M_playOn_69 (lv_at hl 2 rfl) ?_
          refine lv_if_eq hx hb (tgt := 79) zd_M_playOn_71 (by decide) (fun h71 => ?_) (fun h71 => ?_)
          · have h71 := za_bF h71
            refine lv_iload_n hx hb zd_M_playOn_79 rfl (lv_at hl 7 rfl) ?_
            refine lv_iload hx hb zd_M_playOn_80 (lv_at hl 1 rfl) ?_
            refine lv_iload hx hb zd_M_playOn_82 (lv_at hl 0 rfl) ?_
            refine za_cV (As := [.int (nI xx), .int (nI (za_lb Tg Co xx yy)), .int (nI (za_to Tg Co xx yy))]) (rest := []) ⟨hx, hb, hml, hown, hts⟩ (zc_M_answerOf ln D cI cZ aO aMv aMc aBr aCd aNx aMk aAt aAs (za_kc Tg Co) j mn true Mv Br1_1 Tg Co xx (za_lb Tg Co xx yy) (za_to Tg Co xx yy) (by exact hMv) (by exact hq1.1) (by omega) (by omega) (by omega) (by exact za_han2 hpl h71)) (za_gV 3 hts zw_607 zw_609 zw_33 zw_40 zw_610 (by decide +kernel) ⟨Nat.le_of_ble_eq_true rfl, Nat.le_of_ble_eq_true rfl⟩) hK hN hP [0, 1, 3] rfl (q0 := 0) rfl rfl hl rfl rfl (Nat.le_of_ble_eq_true rfl) zd_M_playOn_84 ⟨Nat.le_of_ble_eq_true rfl, Nat.le_of_ble_eq_true rfl⟩ ?_
            refine za_eqi (y := za_ai (za_an Tg Co xx yy)) (za_an_2 h71) ?_
            refine lv_istore (lv' := [(10, .int (za_ai (za_an Tg Co xx yy))), (9, .int (nI (za_to Tg Co xx yy))), (8, .int (nI (za_lb Tg Co xx yy))), (7, .int (za_bi (za_mi Tg Co xx yy))), (6, .int (nI (za_fa Tg Co xx yy))), (0, .ref aO), (1, .int w), (2, .int v), (3, .int (nI xx)), (4, .int (nI yy)), (5, .int (za_bi g))]) hx hb zd_M_playOn_87 hl (by decide) rfl (fun ls hl => ?_)
            refine lv_aload_n hx hb zd_M_playOn_89 rfl (lv_at hl 5 rfl) ?_
            refine va_get (D := D) (ci := 5) (v := .ref aAt) (C := zs_M) (T := zt_M) (N := 12) hx hb hts zi_M hown hK hP 0 rfl rfl 10 (by decide) hf29 (fun _ h9 => h9) rfl zd_M_playOn_90 ?_
            refine lv_aload_n hx hb zd_M_playOn_93 rfl (lv_at hl 5 rfl) ?_
            refine va_get (D := D) (ci := 5) (v := .int (nI j)) (C := zs_M) (T := zt_M) (N := 12) hx hb hts zi_M hown hK hP 0 rfl rfl 9 (by decide) hf92 (fun _ h9 => h9) rfl zd_M_playOn_94 ?_
            refine lv_iload hx hb zd_M_playOn_97 (lv_at hl 3 rfl) ?_
            refine lv_if_eq hx hb (tgt := 106) zd_M_playOn_99 (by decide) (fun _ => ?_) (fun h => absurd (za_bT h) (by rw [h71]; decide))
            refine lv_sipush (v := nI 1000) hx hb zd_M_playOn_106 (by decide) ?_
            refine lv_bipush (v := nI 100) hx hb zd_M_playOn_109 (by decide) ?_
            refine lv_iload hx hb zd_M_playOn_111 (lv_at hl 2 rfl) ?_
            refine za_mulN hx hb zd_M_playOn_113 ?_
            refine za_addN hx hb zd_M_playOn_114 ?_
            refine lv_iload hx hb zd_M_playOn_115 (lv_at hl 1 rfl) ?_
            refine za_addN hx hb zd_M_playOn_117 ?_
            refine za_eqi (y := nI (za_cd9 Tg Co xx yy)) (za_cd2 h71) ?_
            refine za_ist hx hb hK hP hD hS 7 0 rfl rfl (k := j) (by omega) (by decide) zd_M_playOn_118 (fun H locs hP hD hS => ?_)
            have hP : va_P D vwCl [(aO, .inr (5, [.ref aMv, .int mn, .ref aMc, .int (za_bi true), .ref aBr, .ref aCd, .ref aNx, .int (nI (za_kc Tg Co)), .ref aMk, .int (nI j), .ref aAt, .ref aAs])), (aMv, .inl (cZ, 2304, .inl (fun j => za_bi (Mv j)))), (aMc, .inl (cI, 24, .inl Mc)), (aBr, .inl (cI, 576, .inl Br1_1)), (aCd, .inl (cZ, 576, .inl (fun j => za_bi (Cd1_1 j)))), (aNx, .inl (cZ, 576, .inl (fun j => za_bi (Nx1_1 j)))), (aMk, .inl (cI, 24, .inl Mk1_1)), (aAt, .inl (cI, 600, .inl (upd Aq j (nI (za_cd9 Tg Co xx yy))))), (aAs, .inl (cI, 600, .inl Sq))] H := hP
            have hD : va_D A [(aO, .inr (5, [.ref aMv, .int mn, .ref aMc, .int (za_bi true), .ref aBr, .ref aCd, .ref aNx, .int (nI (za_kc Tg Co)), .ref aMk, .int (nI j), .ref aAt, .ref aAs])), (aMv, .inl (cZ, 2304, .inl (fun j => za_bi (Mv j)))), (aMc, .inl (cI, 24, .inl Mc)), (aBr, .inl (cI, 576, .inl Br1_1)), (aCd, .inl (cZ, 576, .inl (fun j => za_bi (Cd1_1 j)))), (aNx, .inl (cZ, 576, .inl (fun j => za_bi (Nx1_1 j)))), (aMk, .inl (cI, 24, .inl Mk1_1)), (aAt, .inl (cI, 600, .inl (upd Aq j (nI (za_cd9 Tg Co xx yy))))), (aAs, .inl (cI, 600, .inl Sq))] := hD
            refine lv_aload_n hx hb zd_M_playOn_119 rfl (lv_at hl 5 rfl) ?_
            refine va_get (D := D) (ci := 5) (v := .ref aAs) (C := zs_M) (T := zt_M) (N := 12) hx hb hts zi_M hown hK hP 0 rfl rfl 11 (by decide) hf32 (fun _ h9 => h9) rfl zd_M_playOn_120 ?_
            refine lv_aload_n hx hb zd_M_playOn_123 rfl (lv_at hl 5 rfl) ?_
            refine va_get (D := D) (ci := 5) (v := .int (nI j)) (C := zs_M) (T := zt_M) (N := 12) hx hb hts zi_M hown hK hP 0 rfl rfl 9 (by decide) hf92 (fun _ h9 => h9) rfl zd_M_playOn_124 ?_
            refine lv_iload hx hb zd_M_playOn_127 (lv_at hl 0 rfl) ?_
            refine za_ist hx hb hK hP hD hS 8 0 rfl rfl (k := j) (by omega) (by decide) zd_M_playOn_129 (fun H locs hP hD hS => ?_)
            have hP : va_P D vwCl [(aO, .inr (5, [.ref aMv, .int mn, .ref aMc, .int (za_bi true), .ref aBr, .ref aCd, .ref aNx, .int (nI (za_kc Tg Co)), .ref aMk, .int (nI j), .ref aAt, .ref aAs])), (aMv, .inl (cZ, 2304, .inl (fun j => za_bi (Mv j)))), (aMc, .inl (cI, 24, .inl Mc)), (aBr, .inl (cI, 576, .inl Br1_1)), (aCd, .inl (cZ, 576, .inl (fun j => za_bi (Cd1_1 j)))), (aNx, .inl (cZ, 576, .inl (fun j => za_bi (Nx1_1 j)))), (aMk, .inl (cI, 24, .inl Mk1_1)), (aAt, .inl (cI, 600, .inl (upd Aq j (nI (za_cd9 Tg Co xx yy))))), (aAs, .inl (cI, 600, .inl (upd Sq j (za_ai (za_an Tg Co xx yy)))))] H := hP
            have hD : va_D A [(aO, .inr (5, [.ref aMv, .int mn, .ref aMc, .int (za_bi true), .ref aBr, .ref aCd, .ref aNx, .int (nI (za_kc Tg Co)), .ref aMk, .int (nI j), .ref aAt, .ref aAs])), (aMv, .inl (cZ, 2304, .inl (fun j => za_bi (Mv j)))), (aMc, .inl (cI, 24, .inl Mc)), (aBr, .inl (cI, 576, .inl Br1_1)), (aCd, .inl (cZ, 576, .inl (fun j => za_bi (Cd1_1 j)))), (aNx, .inl (cZ, 576, .inl (fun j => za_bi (Nx1_1 j)))), (aMk, .inl (cI, 24, .inl Mk1_1)), (aAt, .inl (cI, 600, .inl (upd Aq j (nI (za_cd9 Tg Co xx yy))))), (aAs, .inl (cI, 600, .inl (upd Sq j (za_ai (za_an Tg Co xx yy)))))] := hD
            refine lv_aload_n hx hb zd_M_playOn_130 rfl (lv_at hl 5 rfl) ?_
            refine lv_aload_n hx hb zd_M_playOn_131 rfl (lv_at hl 5 rfl) ?_
            refine va_get (D := D) (ci := 5) (v := .int (nI j)) (C := zs_M) (T := zt_M) (N := 12) hx hb hts zi_M hown hK hP 0 rfl rfl 9 (by decide) hf92 (fun _ h9 => h9) rfl zd_M_playOn_132 ?_
            refine lv_iconst (v := nI 1) hx hb zd_M_playOn_135 (by decide) ?_
            refine za_addN hx hb zd_M_playOn_136 ?_
            refine va_put (D := D) (ci := 5) (v := .int (nI (j + 1))) (ty := .int) (C := zs_M) (T := zt_M) (N := 12) hx hb hts zi_M zy_M zk_M zn_M hown hK hP hD hS 0 rfl rfl 9 (by decide) hf92 (fun _ h9 => h9) rfl (by decide +kernel) rfl rfl (Nat.le_of_ble_eq_true rfl) zd_M_playOn_137 (fun H locs hP hD hS => ?_)
            have hP : va_P D vwCl [(aO, .inr (5, [.ref aMv, .int mn, .ref aMc, .int (za_bi true), .ref aBr, .ref aCd, .ref aNx, .int (nI (za_kc Tg Co)), .ref aMk, .int (nI (j + 1)), .ref aAt, .ref aAs])), (aMv, .inl (cZ, 2304, .inl (fun j => za_bi (Mv j)))), (aMc, .inl (cI, 24, .inl Mc)), (aBr, .inl (cI, 576, .inl Br1_1)), (aCd, .inl (cZ, 576, .inl (fun j => za_bi (Cd1_1 j)))), (aNx, .inl (cZ, 576, .inl (fun j => za_bi (Nx1_1 j)))), (aMk, .inl (cI, 24, .inl Mk1_1)), (aAt, .inl (cI, 600, .inl (upd Aq j (nI (za_cd9 Tg Co xx yy))))), (aAs, .inl (cI, 600, .inl (upd Sq j (za_ai (za_an Tg Co xx yy)))))] H := hP
            have hD : va_D A [(aO, .inr (5, [.ref aMv, .int mn, .ref aMc, .int (za_bi true), .ref aBr, .ref aCd, .ref aNx, .int (nI (za_kc Tg Co)), .ref aMk, .int (nI (j + 1)), .ref aAt, .ref aAs])), (aMv, .inl (cZ, 2304, .inl (fun j => za_bi (Mv j)))), (aMc, .inl (cI, 24, .inl Mc)), (aBr, .inl (cI, 576, .inl Br1_1)), (aCd, .inl (cZ, 576, .inl (fun j => za_bi (Cd1_1 j)))), (aNx, .inl (cZ, 576, .inl (fun j => za_bi (Nx1_1 j)))), (aMk, .inl (cI, 24, .inl Mk1_1)), (aAt, .inl (cI, 600, .inl (upd Aq j (nI (za_cd9 Tg Co xx yy))))), (aAs, .inl (cI, 600, .inl (upd Sq j (za_ai (za_an Tg Co xx yy)))))] := hD
            refine lv_iload hx hb zd_M_playOn_140 (lv_at hl 3 rfl) ?_
            refine lv_if_eq hx hb (tgt := 150) zd_M_playOn_142 (by decide) (fun _ => ?_) (fun h => absurd (za_bT h) (by rw [h71]; decide))
            refine lv_iload hx hb zd_M_playOn_150 (lv_at hl 0 rfl) ?_
            refine lv_istore_n (lv' := [(3, .int (za_ai (za_an Tg Co xx yy))), (10, .int (za_ai (za_an Tg Co xx yy))), (9, .int (nI (za_to Tg Co xx yy))), (8, .int (nI (za_lb Tg Co xx yy))), (7, .int (za_bi (za_mi Tg Co xx yy))), (6, .int (nI (za_fa Tg Co xx yy))), (0, .ref aO), (1, .int w), (2, .int v), (4, .int (nI yy)), (5, .int (za_bi g))]) hx hb zd_M_playOn_152 rfl hl (by decide) rfl (fun ls hl => ?_)
            refine lv_iload hx hb zd_M_playOn_153 (lv_at hl 4 rfl) ?_
            refine lv_if_eq hx hb (tgt := 163) zd_M_playOn_155 (by decide) (fun _ => ?_) (fun h => absurd (za_bT h) (by rw [h71]; decide))
            refine lv_iload hx hb zd_M_playOn_163 (lv_at hl 2 rfl) ?_
            refine lv_istore (lv' := [(4, .int (nI (za_to Tg Co xx yy))), (3, .int (za_ai (za_an Tg Co xx yy))), (10, .int (za_ai (za_an Tg Co xx yy))), (9, .int (nI (za_to Tg Co xx yy))), (8, .int (nI (za_lb Tg Co xx yy))), (7, .int (za_bi (za_mi Tg Co xx yy))), (6, .int (nI (za_fa Tg Co xx yy))), (0, .ref aO), (1, .int w), (2, .int v), (5, .int (za_bi g))]) hx hb zd_M_playOn_165 hl (by decide) rfl (fun ls hl => ?_)
            refine lv_iload hx hb zd_M_playOn_167 (lv_at hl 2 rfl) ?_
            refine lv_if_lt hx hb (tgt := 186) zd_M_playOn_169 (by decide) (fun h169 => ?_) (fun h169 => ?_)
            · skip
              refine lv_iconst (v := nI 0) hx hb zd_M_playOn_186 (by decide) ?_
              refine lv_istore (lv' := [(5, .int (nI 0)), (4, .int (nI (za_to Tg Co xx yy))), (3, .int (za_ai (za_an Tg Co xx yy))), (10, .int (za_ai (za_an Tg Co xx yy))), (9, .int (nI (za_to Tg Co xx yy))), (8, .int (nI (za_lb Tg Co xx yy))), (7, .int (za_bi (za_mi Tg Co xx yy))), (6, .int (nI (za_fa Tg Co xx yy))), (0, .ref aO), (1, .int w), (2, .int v)]) hx hb zd_M_playOn_187 hl (by decide) rfl (fun ls hl => ?_)
              refine lv_goto hx hb (tgt := 23) zd_M_playOn_189 (by decide) ?_
              have e1 : za_bi false = nI 0 := by first | with_reducible rfl | (rfl)
              exact ih23 (j + 1) false (za_ai (za_an Tg Co xx yy)) (nI (za_to Tg Co xx yy)) (upd Aq j (nI (za_cd9 Tg Co xx yy))) (upd Sq j (za_ai (za_an Tg Co xx yy))) ls H locs (by omega) (by omega) (by exact za_pst_t hrw hss htr hex hey (fun h9 => za_c2 h71 h9) (za_on0 h169 rfl)) (by exact za_prow_t hrw hss htr hex hey) (by rw [e1]; exact lv_sub hl [8, 9, 10, 2, 1, 0] rfl) hP hD hS
            · skip
              refine lv_aload_n hx hb zd_M_playOn_172 rfl (lv_at hl 7 rfl) ?_
              refine lv_iload_n hx hb zd_M_playOn_173 rfl (lv_at hl 1 rfl) ?_
              refine lv_iload hx hb zd_M_playOn_174 (lv_at hl 0 rfl) ?_
              refine za_cV (As := [.int (za_ai (za_an Tg Co xx yy)), .int (nI (za_to Tg Co xx yy))]) (rest := []) ⟨hx, hb, hml, hown, hts⟩ (zc_M_isPlayed ln D cI cZ aO aMv aMc aBr aCd aNx aMk aAt aAs (za_kc Tg Co) (j + 1) mn true Br1_1 Tg Co (za_ai (za_an Tg Co xx yy)) (nI (za_to Tg Co xx yy)) (by exact hq1.1)) (za_gV 2 hts zw_587 zw_589 zw_29 zw_40 zw_590 (by decide +kernel) ⟨Nat.le_of_ble_eq_true rfl, Nat.le_of_ble_eq_true rfl⟩) hK hN hP [0, 3] rfl (q0 := 0) rfl rfl hl rfl rfl (Nat.le_of_ble_eq_true rfl) zd_M_playOn_176 ⟨Nat.le_of_ble_eq_true rfl, Nat.le_of_ble_eq_true rfl⟩ ?_
              refine lv_if_eq hx hb (tgt := 186) zd_M_playOn_179 (by decide) (fun h179 => ?_) (fun h179 => ?_)
              · have h179 := za_bF h179
                refine lv_iconst (v := nI 0) hx hb zd_M_playOn_186 (by decide) ?_
                refine lv_istore (lv' := [(5, .int (nI 0)), (4, .int (nI (za_to Tg Co xx yy))), (3, .int (za_ai (za_an Tg Co xx yy))), (10, .int (za_ai (za_an Tg Co xx yy))), (9, .int (nI (za_to Tg Co xx yy))), (8, .int (nI (za_lb Tg Co xx yy))), (7, .int (za_bi (za_mi Tg Co xx yy))), (6, .int (nI (za_fa Tg Co xx yy))), (0, .ref aO), (1, .int w), (2, .int v)]) hx hb zd_M_playOn_187 hl (by decide) rfl (fun ls hl => ?_)
                refine lv_goto hx hb (tgt := 23) zd_M_playOn_189 (by decide) ?_
                have e1 : za_bi false = nI 0 := by first | with_reducible rfl | (rfl)
                exact ih23 (j + 1) false (za_ai (za_an Tg Co xx yy)) (nI (za_to Tg Co xx yy)) (upd Aq j (nI (za_cd9 Tg Co xx yy))) (upd Sq j (za_ai (za_an Tg Co xx yy))) ls H locs (by omega) (by omega) (by exact za_pst_t hrw hss htr hex hey (fun h9 => za_c2 h71 h9) (za_onT h179 (za_on2 hpl h71 h169))) (by exact za_prow_t hrw hss htr hex hey) (by rw [e1]; exact lv_sub hl [8, 9, 10, 2, 1, 0] rfl) hP hD hS
              · have h179 := za_bT h179
                refine lv_iconst (v := nI 1) hx hb zd_M_playOn_182 (by decide) ?_
                refine lv_goto hx hb (tgt := 187) zd_M_playOn_183 (by decide) ?_
                refine lv_istore (lv' := [(5, .int (nI 1)), (4, .int (nI (za_to Tg Co xx yy))), (3, .int (za_ai (za_an Tg Co xx yy))), (10, .int (za_ai (za_an Tg Co xx yy))), (9, .int (nI (za_to Tg Co xx yy))), (8, .int (nI (za_lb Tg Co xx yy))), (7, .int (za_bi (za_mi Tg Co xx yy))), (6, .int (nI (za_fa Tg Co xx yy))), (0, .ref aO), (1, .int w), (2, .int v)]) hx hb zd_M_playOn_187 hl (by decide) rfl (fun ls hl => ?_)
                refine lv_goto hx hb (tgt := 23) zd_M_playOn_189 (by decide) ?_
                have e1 : za_bi true = nI 1 := by first | with_reducible rfl | (rfl)
                exact ih23 (j + 1) true (za_ai (za_an Tg Co xx yy)) (nI (za_to Tg Co xx yy)) (upd Aq j (nI (za_cd9 Tg Co xx yy))) (upd Sq j (za_ai (za_an Tg Co xx yy))) ls H locs (by omega) (by omega) (by exact za_pst_t hrw hss htr hex hey (fun h9 => za_c2 h71 h9) (za_onT h179 (za_on2 hpl h71 h169))) (by exact za_prow_t hrw hss htr hex hey) (by rw [e1]; exact lv_sub hl [8, 9, 10, 2, 1, 0] rfl) hP hD hS
          · have h71 := za_bT h71
            refine lv_iload hx hb zd_M_playOn_74 (lv_at hl 8 rfl) ?_
            refine lv_goto hx hb (tgt := 80) zd_M_playOn_76 (by decide) ?_
            refine lv_iload hx hb zd_M_playOn_80 (lv_at hl 1 rfl) ?_
            refine lv_iload hx hb zd_M_playOn_82 (lv_at hl 0 rfl) ?_
            refine za_cV (As := [.int (nI yy), .int (nI (za_lb Tg Co xx yy)), .int (nI (za_to Tg Co xx yy))]) (rest := []) ⟨hx, hb, hml, hown, hts⟩ (zc_M_answerOf ln D cI cZ aO aMv aMc aBr aCd aNx aMk aAt aAs (za_kc Tg Co) j mn true Mv Br1_1 Tg Co yy (za_lb Tg Co xx yy) (za_to Tg Co xx yy) (by exact hMv) (by exact hq1.1) (by omega) (by omega) (by omega) (by exact za_han1 hpl h71)) (za_gV 3 hts zw_607 zw_609 zw_33 zw_40 zw_610 (by decide +kernel) ⟨Nat.le_of_ble_eq_true rfl, Nat.le_of_ble_eq_true rfl⟩) hK hN hP [0, 1, 3] rfl (q0 := 0) rfl rfl hl rfl rfl (Nat.le_of_ble_eq_true rfl) zd_M_playOn_84 ⟨Nat.le_of_ble_eq_true rfl, Nat.le_of_ble_eq_true rfl⟩ ?_
            refine za_eqi (y := za_ai (za_an Tg Co xx yy)) (za_an_1 h71) ?_
            refine lv_istore (lv' := [(10, .int (za_ai (za_an Tg Co xx yy))), (9, .int (nI (za_to Tg Co xx yy))), (8, .int (nI (za_lb Tg Co xx yy))), (7, .int (za_bi (za_mi Tg Co xx yy))), (6, .int (nI (za_fa Tg Co xx yy))), (0, .ref aO), (1, .int w), (2, .int v), (3, .int (nI xx)), (4, .int (nI yy)), (5, .int (za_bi g))]) hx hb zd_M_playOn_87 hl (by decide) rfl (fun ls hl => ?_)
            refine lv_aload_n hx hb zd_M_playOn_89 rfl (lv_at hl 5 rfl) ?_
            refine va_get (D := D) (ci := 5) (v := .ref aAt) (C := zs_M) (T := zt_M) (N := 12) hx hb hts zi_M hown hK hP 0 rfl rfl 10 (by decide) hf29 (fun _ h9 => h9) rfl zd_M_playOn_90 ?_
            refine lv_aload_n hx hb zd_M_playOn_93 rfl (lv_at hl 5 rfl) ?_
            refine va_get (D := D) (ci := 5) (v := .int (nI j)) (C := zs_M) (T := zt_M) (N := 12) hx hb hts zi_M hown hK hP 0 rfl rfl 9 (by decide) hf92 (fun _ h9 => h9) rfl zd_M_playOn_94 ?_
            refine lv_iload hx hb zd_M_playOn_97 (lv_at hl 3 rfl) ?_
            refine lv_if_eq hx hb (tgt := 106) zd_M_playOn_99 (by decide) (fun h => absurd (za_bF h) (by rw [h71]; decide)) (fun _ => ?_)
            refine lv_iconst (v := nI 0) hx hb zd_M_playOn_102 (by decide) ?_
            refine lv_goto hx hb (tgt := 109) zd_M_playOn_103 (by decide) ?_
            refine lv_bipush (v := nI 100) hx hb zd_M_playOn_109 (by decide) ?_
            refine lv_iload hx hb zd_M_playOn_111 (lv_at hl 2 rfl) ?_
            refine za_mulN hx hb zd_M_playOn_113 ?_
            refine za_addN hx hb zd_M_playOn_114 ?_
            refine lv_iload hx hb zd_M_playOn_115 (lv_at hl 1 rfl) ?_
            refine za_addN hx hb zd_M_playOn_117 ?_
            refine za_eqi (y := nI (za_cd9 Tg Co xx yy)) (za_cd1 h71) ?_
            refine za_ist hx hb hK hP hD hS 7 0 rfl rfl (k := j) (by omega) (by decide) zd_M_playOn_118 (fun H locs hP hD hS => ?_)
            have hP : va_P D vwCl [(aO, .inr (5, [.ref aMv, .int mn, .ref aMc, .int (za_bi true), .ref aBr, .ref aCd, .ref aNx, .int (nI (za_kc Tg Co)), .ref aMk, .int (nI j), .ref aAt, .ref aAs])), (aMv, .inl (cZ, 2304, .inl (fun j => za_bi (Mv j)))), (aMc, .inl (cI, 24, .inl Mc)), (aBr, .inl (cI, 576, .inl Br1_1)), (aCd, .inl (cZ, 576, .inl (fun j => za_bi (Cd1_1 j)))), (aNx, .inl (cZ, 576, .inl (fun j => za_bi (Nx1_1 j)))), (aMk, .inl (cI, 24, .inl Mk1_1)), (aAt, .inl (cI, 600, .inl (upd Aq j (nI (za_cd9 Tg Co xx yy))))), (aAs, .inl (cI, 600, .inl Sq))] H := hP
            have hD : va_D A [(aO, .inr (5, [.ref aMv, .int mn, .ref aMc, .int (za_bi true), .ref aBr, .ref aCd, .ref aNx, .int (nI (za_kc Tg Co)), .ref aMk, .int (nI j), .ref aAt, .ref aAs])), (aMv, .inl (cZ, 2304, .inl (fun j => za_bi (Mv j)))), (aMc, .inl (cI, 24, .inl Mc)), (aBr, .inl (cI, 576, .inl Br1_1)), (aCd, .inl (cZ, 576, .inl (fun j => za_bi (Cd1_1 j)))), (aNx, .inl (cZ, 576, .inl (fun j => za_bi (Nx1_1 j)))), (aMk, .inl (cI, 24, .inl Mk1_1)), (aAt, .inl (cI, 600, .inl (upd Aq j (nI (za_cd9 Tg Co xx yy))))), (aAs, .inl (cI, 600, .inl Sq))] := hD
            refine lv_aload_n hx hb zd_M_playOn_119 rfl (lv_at hl 5 rfl) ?_
            refine va_get (D := D) (ci := 5) (v := .ref aAs) (C := zs_M) (T := zt_M) (N := 12) hx hb hts zi_M hown hK hP 0 rfl rfl 11 (by decide) hf32 (fun _ h9 => h9) rfl zd_M_playOn_120 ?_
            refine lv_aload_n hx hb zd_M_playOn_123 rfl (lv_at hl 5 rfl) ?_
            refine va_get (D := D) (ci := 5) (v := .int (nI j)) (C := zs_M) (T := zt_M) (N := 12) hx hb hts zi_M hown hK hP 0 rfl rfl 9 (by decide) hf92 (fun _ h9 => h9) rfl zd_M_playOn_124 ?_
            refine lv_iload hx hb zd_M_playOn_127 (lv_at hl 0 rfl) ?_
            refine za_ist hx hb hK hP hD hS 8 0 rfl rfl (k := j) (by omega) (by decide) zd_M_playOn_129 (fun H locs hP hD hS => ?_)
            have hP : va_P D vwCl [(aO, .inr (5, [.ref aMv, .int mn, .ref aMc, .int (za_bi true), .ref aBr, .ref aCd, .ref aNx, .int (nI (za_kc Tg Co)), .ref aMk, .int (nI j), .ref aAt, .ref aAs])), (aMv, .inl (cZ, 2304, .inl (fun j => za_bi (Mv j)))), (aMc, .inl (cI, 24, .inl Mc)), (aBr, .inl (cI, 576, .inl Br1_1)), (aCd, .inl (cZ, 576, .inl (fun j => za_bi (Cd1_1 j)))), (aNx, .inl (cZ, 576, .inl (fun j => za_bi (Nx1_1 j)))), (aMk, .inl (cI, 24, .inl Mk1_1)), (aAt, .inl (cI, 600, .inl (upd Aq j (nI (za_cd9 Tg Co xx yy))))), (aAs, .inl (cI, 600, .inl (upd Sq j (za_ai (za_an Tg Co xx yy)))))] H := hP
            have hD : va_D A [(aO, .inr (5, [.ref aMv, .int mn, .ref aMc, .int (za_bi true), .ref aBr, .ref aCd, .ref aNx, .int (nI (za_kc Tg Co)), .ref aMk, .int (nI j), .ref aAt, .ref aAs])), (aMv, .inl (cZ, 2304, .inl (fun j => za_bi (Mv j)))), (aMc, .inl (cI, 24, .inl Mc)), (aBr, .inl (cI, 576, .inl Br1_1)), (aCd, .inl (cZ, 576, .inl (fun j => za_bi (Cd1_1 j)))), (aNx, .inl (cZ, 576, .inl (fun j => za_bi (Nx1_1 j)))), (aMk, .inl (cI, 24, .inl Mk1_1)), (aAt, .inl (cI, 600, .inl (upd Aq j (nI (za_cd9 Tg Co xx yy))))), (aAs, .inl (cI, 600, .inl (upd Sq j (za_ai (za_an Tg Co xx yy)))))] := hD
            refine lv_aload_n hx hb zd_M_playOn_130 rfl (lv_at hl 5 rfl) ?_
            refine lv_aload_n hx hb zd_M_playOn_131 rfl (lv_at hl 5 rfl) ?_
            refine va_get (D := D) (ci := 5) (v := .int (nI j)) (C := zs_M) (T := zt_M) (N := 12) hx hb hts zi_M hown hK hP 0 rfl rfl 9 (by decide) hf92 (fun _ h9 => h9) rfl zd_M_playOn_132 ?_
            refine lv_iconst (v := nI 1) hx hb zd_M_playOn_135 (by decide) ?_
            refine za_addN hx hb zd_M_playOn_136 ?_
            refine va_put (D := D) (ci := 5) (v := .int (nI (j + 1))) (ty := .int) (C := zs_M) (T := zt_M) (N := 12) hx hb hts zi_M zy_M zk_M zn_M hown hK hP hD hS 0 rfl rfl 9 (by decide) hf92 (fun _ h9 => h9) rfl (by decide +kernel) rfl rfl (Nat.le_of_ble_eq_true rfl) zd_M_playOn_137 (fun H locs hP hD hS => ?_)
            have hP : va_P D vwCl [(aO, .inr (5, [.ref aMv, .int mn, .ref aMc, .int (za_bi true), .ref aBr, .ref aCd, .ref aNx, .int (nI (za_kc Tg Co)), .ref aMk, .int (nI (j + 1)), .ref aAt, .ref aAs])), (aMv, .inl (cZ, 2304, .inl (fun j => za_bi (Mv j)))), (aMc, .inl (cI, 24, .inl Mc)), (aBr, .inl (cI, 576, .inl Br1_1)), (aCd, .inl (cZ, 576, .inl (fun j => za_bi (Cd1_1 j)))), (aNx, .inl (cZ, 576, .inl (fun j => za_bi (Nx1_1 j)))), (aMk, .inl (cI, 24, .inl Mk1_1)), (aAt, .inl (cI, 600, .inl (upd Aq j (nI (za_cd9 Tg Co xx yy))))), (aAs, .inl (cI, 600, .inl (upd Sq j (za_ai (za_an Tg Co xx yy)))))] H := hP
            have hD : va_D A [(aO, .inr (5, [.ref aMv, .int mn, .ref aMc, .int (za_bi true), .ref aBr, .ref aCd, .ref aNx, .int (nI (za_kc Tg Co)), .ref aMk, .int (nI (j + 1)), .ref aAt, .ref aAs])), (aMv, .inl (cZ, 2304, .inl (fun j => za_bi (Mv j)))), (aMc, .inl (cI, 24, .inl Mc)), (aBr, .inl (cI, 576, .inl Br1_1)), (aCd, .inl (cZ, 576, .inl (fun j => za_bi (Cd1_1 j)))), (aNx, .inl (cZ, 576, .inl (fun j => za_bi (Nx1_1 j)))), (aMk, .inl (cI, 24, .inl Mk1_1)), (aAt, .inl (cI, 600, .inl (upd Aq j (nI (za_cd9 Tg Co xx yy))))), (aAs, .inl (cI, 600, .inl (upd Sq j (za_ai (za_an Tg Co xx yy)))))] := hD
            refine lv_iload hx hb zd_M_playOn_140 (lv_at hl 3 rfl) ?_
            refine lv_if_eq hx hb (tgt := 150) zd_M_playOn_142 (by decide) (fun h => absurd (za_bF h) (by rw [h71]; decide)) (fun _ => ?_)
            refine lv_iload hx hb zd_M_playOn_145 (lv_at hl 1 rfl) ?_
            refine lv_goto hx hb (tgt := 152) zd_M_playOn_147 (by decide) ?_
            refine lv_istore_n (lv' := [(3, .int (nI (za_to Tg Co xx yy))), (10, .int (za_ai (za_an Tg Co xx yy))), (9, .int (nI (za_to Tg Co xx yy))), (8, .int (nI (za_lb Tg Co xx yy))), (7, .int (za_bi (za_mi Tg Co xx yy))), (6, .int (nI (za_fa Tg Co xx yy))), (0, .ref aO), (1, .int w), (2, .int v), (4, .int (nI yy)), (5, .int (za_bi g))]) hx hb zd_M_playOn_152 rfl hl (by decide) rfl (fun ls hl => ?_)
            refine lv_iload hx hb zd_M_playOn_153 (lv_at hl 4 rfl) ?_
            refine lv_if_eq hx hb (tgt := 163) zd_M_playOn_155 (by decide) (fun h => absurd (za_bF h) (by rw [h71]; decide)) (fun _ => ?_)
            refine lv_iload hx hb zd_M_playOn_158 (lv_at hl 1 rfl) ?_
            refine lv_goto hx hb (tgt := 165) zd_M_playOn_160 (by decide) ?_
            refine lv_istore (lv' := [(4, .int (za_ai (za_an Tg Co xx yy))), (3, .int (nI (za_to Tg Co xx yy))), (10, .int (za_ai (za_an Tg Co xx yy))), (9, .int (nI (za_to Tg Co xx yy))), (8, .int (nI (za_lb Tg Co xx yy))), (7, .int (za_bi (za_mi Tg Co xx yy))), (6, .int (nI (za_fa Tg Co xx yy))), (0, .ref aO), (1, .int w), (2, .int v), (5, .int (za_bi g))]) hx hb zd_M_playOn_165 hl (by decide) rfl (fun ls hl => ?_)
            refine lv_iload hx hb zd_M_playOn_167 (lv_at hl 2 rfl) ?_
            refine lv_if_lt hx hb (tgt := 186) zd_M_playOn_169 (by decide) (fun h169 => ?_) (fun h169 => ?_)
            · skip
              refine lv_iconst (v := nI 0) hx hb zd_M_playOn_186 (by decide) ?_
              refine lv_istore (lv' := [(5, .int (nI 0)), (4, .int (za_ai (za_an Tg Co xx yy))), (3, .int (nI (za_to Tg Co xx yy))), (10, .int (za_ai (za_an Tg Co xx yy))), (9, .int (nI (za_to Tg Co xx yy))), (8, .int (nI (za_lb Tg Co xx yy))), (7, .int (za_bi (za_mi Tg Co xx yy))), (6, .int (nI (za_fa Tg Co xx yy))), (0, .ref aO), (1, .int w), (2, .int v)]) hx hb zd_M_playOn_187 hl (by decide) rfl (fun ls hl => ?_)
              refine lv_goto hx hb (tgt := 23) zd_M_playOn_189 (by decide) ?_
              have e1 : za_bi false = nI 0 := by first | with_reducible rfl | (rfl)
              exact ih23 (j + 1) false (nI (za_to Tg Co xx yy)) (za_ai (za_an Tg Co xx yy)) (upd Aq j (nI (za_cd9 Tg Co xx yy))) (upd Sq j (za_ai (za_an Tg Co xx yy))) ls H locs (by omega) (by omega) (by exact za_pst_t hrw hss htr hex hey (fun h9 => za_c1 h71 h9) (za_on0 h169 rfl)) (by exact za_prow_t hrw hss htr hex hey) (by rw [e1]; exact lv_sub hl [8, 9, 10, 2, 1, 0] rfl) hP hD hS
            · skip
              refine lv_aload_n hx hb zd_M_playOn_172 rfl (lv_at hl 7 rfl) ?_
              refine lv_iload_n hx hb zd_M_playOn_173 rfl (lv_at hl 1 rfl) ?_
              refine lv_iload hx hb zd_M_playOn_174 (lv_at hl 0 rfl) ?_
              refine za_cV (As := [.int (nI (za_to Tg Co xx yy)), .int (za_ai (za_an Tg Co xx yy))]) (rest := []) ⟨hx, hb, hml, hown, hts⟩ (zc_M_isPlayed ln D cI cZ aO aMv aMc aBr aCd aNx aMk aAt aAs (za_kc Tg Co) (j + 1) mn true Br1_1 Tg Co (nI (za_to Tg Co xx yy)) (za_ai (za_an Tg Co xx yy)) (by exact hq1.1)) (za_gV 2 hts zw_587 zw_589 zw_29 zw_40 zw_590 (by decide +kernel) ⟨Nat.le_of_ble_eq_true rfl, Nat.le_of_ble_eq_true rfl⟩) hK hN hP [0, 3] rfl (q0 := 0) rfl rfl hl rfl rfl (Nat.le_of_ble_eq_true rfl) zd_M_playOn_176 ⟨Nat.le_of_ble_eq_true rfl, Nat.le_of_ble_eq_true rfl⟩ ?_
              refine lv_if_eq hx hb (tgt := 186) zd_M_playOn_179 (by decide) (fun h179 => ?_) (fun h179 => ?_)
              · have h179 := za_bF h179
                refine lv_iconst (v := nI 0) hx hb zd_M_playOn_186 (by decide) ?_
                refine lv_istore (lv' := [(5, .int (nI 0)), (4, .int (za_ai (za_an Tg Co xx yy))), (3, .int (nI (za_to Tg Co xx yy))), (10, .int (za_ai (za_an Tg Co xx yy))), (9, .int (nI (za_to Tg Co xx yy))), (8, .int (nI (za_lb Tg Co xx yy))), (7, .int (za_bi (za_mi Tg Co xx yy))), (6, .int (nI (za_fa Tg Co xx yy))), (0, .ref aO), (1, .int w), (2, .int v)]) hx hb zd_M_playOn_187 hl (by decide) rfl (fun ls hl => ?_)
                refine lv_goto hx hb (tgt := 23) zd_M_playOn_189 (by decide) ?_
                have e1 : za_bi false = nI 0 := by first | with_reducible rfl | (rfl)
                exact ih23 (j + 1) false (nI (za_to Tg Co xx yy)) (za_ai (za_an Tg Co xx yy)) (upd Aq j (nI (za_cd9 Tg Co xx yy))) (upd Sq j (za_ai (za_an Tg Co xx yy))) ls H locs (by omega) (by omega) (by exact za_pst_t hrw hss htr hex hey (fun h9 => za_c1 h71 h9) (za_onT h179 (za_on1 hpl h71 h169))) (by exact za_prow_t hrw hss htr hex hey) (by rw [e1]; exact lv_sub hl [8, 9, 10, 2, 1, 0] rfl) hP hD hS
              · have h179 := za_bT h179
                refine lv_iconst (v := nI 1) hx hb zd_M_playOn_182 (by decide) ?_
                refine lv_goto hx hb (tgt := 187) zd_M_playOn_183 (by decide) ?_
                refine lv_istore (lv' := [(5, .int (nI 1)), (4, .int (za_ai (za_an Tg Co xx yy))), (3, .int (nI (za_to Tg Co xx yy))), (10, .int (za_ai (za_an Tg Co xx yy))), (9, .int (nI (za_to Tg Co xx yy))), (8, .int (nI (za_lb Tg Co xx yy))), (7, .int (za_bi (za_mi Tg Co xx yy))), (6, .int (nI (za_fa Tg Co xx yy))), (0, .ref aO), (1, .int w), (2, .int v)]) hx hb zd_M_playOn_187 hl (by decide) rfl (fun ls hl => ?_)
                refine lv_goto hx hb (tgt := 23) zd_M_playOn_189 (by decide) ?_
                have e1 : za_bi true = nI 1 := by first | with_reducible rfl | (rfl)
                exact ih23 (j + 1) true (nI (za_to Tg Co xx yy)) (za_ai (za_an Tg Co xx yy)) (upd Aq j (nI (za_cd9 Tg Co xx yy))) (upd Sq j (za_ai (za_an Tg Co xx yy))) ls H locs (by omega) (by omega) (by exact za_pst_t hrw hss htr hex hey (fun h9 => za_c1 h71 h9) (za_onT h179 (za_on1 hpl h71 h169))) (by exact za_prow_t hrw hss htr hex hey) (by rw [e1]; exact lv_sub hl [8, 9, 10, 2, 1, 0] rfl) hP hD hS
        refine lv_icmp_ge hx hb (tgt := 48) zd_M_playOn_41 (by decide) (fun h41 => ?_) (fun h41 => ?_)
        · have h41 := za_leN h41 (by omega) (by omega)
          refine lv_iconst (v := nI 0) hx hb zd_M_playOn_48 (by decide) ?_
          exact hJ49 _ (za_b0 (by unfold za_mi; exact decide_eq_false (Nat.not_lt.mpr h41)))
        · have h41 := za_nleN h41 (by omega) (by omega)
          refine lv_iconst (v := nI 1) hx hb zd_M_playOn_44 (by decide) ?_
          refine lv_goto hx hb (tgt := 49) zd_M_playOn_45 (by decide) ?_
          exact hJ49 _ (za_b1 (by unfold za_mi; exact decide_eq_true h41))
  exact hC23 (25 - 0 + 1) 0 (za_isp Tg Co w v) w v At As ls H locs (Nat.lt_succ_self _) (by omega) (by exact za_pst0 Tg Co w v) (by exact fun q hq => absurd hq (Nat.not_lt_zero _)) (lv_sub hl [3, 4, 5, 2, 1, 0] rfl) hP hD hS
