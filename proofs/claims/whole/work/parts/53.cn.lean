def zr_M_isPlayed : Room := { frames := 1, cells := 0, slots := 0, locals := 22 }
set_option maxHeartbeats 2000000 in
set_option maxRecDepth 100000 in
theorem zc_M_isPlayed (ln : Launch) (D : va_G) (cI cZ : ClassId) (aO : Nat) (aMv : Nat) (aMc : Nat) (aBr : Nat) (aCd : Nat) (aNx : Nat) (aMk : Nat) (aAt : Nat) (aAs : Nat) (mkc : Nat) (mpl : Nat) (mn : Int32) (kn : Bool) (Br : Nat → Int32) (Tg : Nat → Int32) (Co : Nat → Int32) (w : Int32) (v : Int32) (hBr : za_brs Tg Co Br) : Met ln zm_M_isPlayed (Cond.code zm_M_isPlayed zo_M_isPlayed 3 (some .boolean) :: zb_big) zr_M_isPlayed (za_Pr D vwCl [(cI, .int), (cZ, .boolean)] [.ref aO, .int w, .int v] [(aO, .inr (5, [.ref aMv, .int mn, .ref aMc, .int (za_bi kn), .ref aBr, .ref aCd, .ref aNx, .int (nI mkc), .ref aMk, .int (nI mpl), .ref aAt, .ref aAs])), (aBr, .inl (cI, 576, .inl Br))]) (vp_Si (fun r => r = za_bi (za_isp Tg Co w v))) 0 0 (fun _ => False) := by
  refine za_reader (cc := zo_M_isPlayed) (maxL := 3) (ty := .boolean) (by decide) (Nat.le_of_ble_eq_true rfl) (fun _ h => by rw [h]; exact za_nar _) ?_
  intro p e sg m args below meth c H Q hx hb hml hts hown hP hK hN hret ls hl
  have hP : va_P D vwCl [(aO, .inr (5, [.ref aMv, .int mn, .ref aMc, .int (za_bi kn), .ref aBr, .ref aCd, .ref aNx, .int (nI mkc), .ref aMk, .int (nI mpl), .ref aAt, .ref aAs])), (aBr, .inl (cI, 576, .inl Br))] H := hP
  have hl : lv_has ls 3 [(0, .ref aO), (1, .int w), (2, .int v)] := hl
  have hf17 := hts _ zw_447
  refine lv_iload_n hx hb zd_M_isPlayed_0 rfl (lv_at hl 1 rfl) ?_
  refine za_cS (As := [.int w]) (rest := []) ⟨hx, hb, hml, hown, hts⟩ (zc_M_isState ln D cI cZ w ) (za_gS 1 hts zw_485 zw_486 zw_40 zw_487 (by decide +kernel) ⟨Nat.le_of_ble_eq_true rfl, Nat.le_of_ble_eq_true rfl⟩) hK hN hP [] rfl hl rfl rfl (Nat.le_of_ble_eq_true rfl) zd_M_isPlayed_1 ⟨Nat.le_of_ble_eq_true rfl, Nat.le_of_ble_eq_true rfl⟩ ?_
  refine lv_if_eq hx hb (tgt := 41) zd_M_isPlayed_4 (by decide) (fun h4 => ?_) (fun h4 => ?_)
  · have h4 := za_bF h4
    refine lv_iconst (v := nI 0) hx hb zd_M_isPlayed_41 (by decide) ?_
    exact hret _ _ _ (za_b0 (by first | (simp [za_isp, h4]; done) | (simp [za_isp, h11]; done) | exact za_isp1 hw hv9 hs0 ht0 h20 | exact za_isp2 hw hv9 hs0 ht0 h20 h34 | exact za_isp3 h4 h11 hw hv9 hs0 ht0 h20 h34)) zd_M_isPlayed_42
  · have h4 := za_bT h4
    obtain ⟨s, hs0, hw⟩ := za_isS_of h4
    have hl : lv_has ls 3 [(0, .ref aO), (1, .int (nI s)), (2, .int v)] := by rw [← hw]; exact hl
    refine lv_iload_n hx hb zd_M_isPlayed_7 rfl (lv_at hl 2 rfl) ?_
    refine za_cS (As := [.int v]) (rest := []) ⟨hx, hb, hml, hown, hts⟩ (zc_M_isState ln D cI cZ v ) (za_gS 1 hts zw_485 zw_486 zw_40 zw_487 (by decide +kernel) ⟨Nat.le_of_ble_eq_true rfl, Nat.le_of_ble_eq_true rfl⟩) hK hN hP [] rfl hl rfl rfl (Nat.le_of_ble_eq_true rfl) zd_M_isPlayed_8 ⟨Nat.le_of_ble_eq_true rfl, Nat.le_of_ble_eq_true rfl⟩ ?_
    refine lv_if_eq hx hb (tgt := 41) zd_M_isPlayed_11 (by decide) (fun h11 => ?_) (fun h11 => ?_)
    · have h11 := za_bF h11
      refine lv_iconst (v := nI 0) hx hb zd_M_isPlayed_41 (by decide) ?_
      exact hret _ _ _ (za_b0 (by first | (simp [za_isp, h4]; done) | (simp [za_isp, h11]; done) | exact za_isp1 hw hv9 hs0 ht0 h20 | exact za_isp2 hw hv9 hs0 ht0 h20 h34 | exact za_isp3 h4 h11 hw hv9 hs0 ht0 h20 h34)) zd_M_isPlayed_42
    · have h11 := za_bT h11
      obtain ⟨t, ht0, hv9⟩ := za_isS_of h11
      have hl : lv_has ls 3 [(0, .ref aO), (1, .int (nI s)), (2, .int (nI t))] := by rw [← hv9]; exact hl
      refine lv_aload_n hx hb zd_M_isPlayed_14 rfl (lv_at hl 0 rfl) ?_
      refine lv_iload_n hx hb zd_M_isPlayed_15 rfl (lv_at hl 1 rfl) ?_
      refine lv_iload_n hx hb zd_M_isPlayed_16 rfl (lv_at hl 2 rfl) ?_
      refine za_cV (As := [.int (nI s), .int (nI t)]) (rest := []) ⟨hx, hb, hml, hown, hts⟩ (zc_M_areAlike ln D cI cZ aO aMv aMc aBr aCd aNx aMk aAt aAs mkc mpl mn kn Br s t (by omega) (by omega)) (za_gV 2 hts zw_543 zw_545 zw_27 zw_40 zw_546 (by decide +kernel) ⟨Nat.le_of_ble_eq_true rfl, Nat.le_of_ble_eq_true rfl⟩) hK hN hP [0, 1] rfl (q0 := 0) rfl rfl hl rfl rfl (Nat.le_of_ble_eq_true rfl) zd_M_isPlayed_17 ⟨Nat.le_of_ble_eq_true rfl, Nat.le_of_ble_eq_true rfl⟩ ?_
      refine za_eqi (y := za_bi (za_ak Tg Co 23 s t)) (by rw [za_brs_al hBr hs0 ht0]) ?_
      refine lv_if_ne hx hb (tgt := 41) zd_M_isPlayed_20 (by decide) (fun h20 => ?_) (fun h20 => ?_)
      · have h20 := za_bT h20
        refine lv_iconst (v := nI 0) hx hb zd_M_isPlayed_41 (by decide) ?_
        exact hret _ _ _ (za_b0 (by first | (simp [za_isp, h4]; done) | (simp [za_isp, h11]; done) | exact za_isp1 hw hv9 hs0 ht0 h20 | exact za_isp2 hw hv9 hs0 ht0 h20 h34 | exact za_isp3 h4 h11 hw hv9 hs0 ht0 h20 h34)) zd_M_isPlayed_42
      · have h20 := za_bF h20
        refine lv_aload_n hx hb zd_M_isPlayed_23 rfl (lv_at hl 0 rfl) ?_
        refine va_get (D := D) (ci := 5) (v := .ref aBr) (C := zs_M) (T := zt_M) (N := 12) hx hb hts zi_M hown hK hP 0 rfl rfl 4 (by decide) hf17 (fun _ h9 => h9) rfl zd_M_isPlayed_24 ?_
        refine lv_bipush (v := nI 24) hx hb zd_M_isPlayed_27 (by decide) ?_
        refine lv_iload_n hx hb zd_M_isPlayed_29 rfl (lv_at hl 1 rfl) ?_
        refine za_mulN hx hb zd_M_isPlayed_30 ?_
        refine lv_iload_n hx hb zd_M_isPlayed_31 rfl (lv_at hl 2 rfl) ?_
        refine za_addN hx hb zd_M_isPlayed_32 ?_
        refine za_ild hx hb hK hP 1 0 rfl rfl (k := (24 * s) + t) (by omega) (by decide) zd_M_isPlayed_33 ?_
        refine za_eqi (y := nI (za_bn Tg Co s t)) ((za_brs_at hBr hs0 ht0 h20).1) ?_
        refine lv_if_le hx hb (tgt := 41) zd_M_isPlayed_34 (by decide) (fun h34 => ?_) (fun h34 => ?_)
        · skip
          refine lv_iconst (v := nI 0) hx hb zd_M_isPlayed_41 (by decide) ?_
          exact hret _ _ _ (za_b0 (by first | (simp [za_isp, h4]; done) | (simp [za_isp, h11]; done) | exact za_isp1 hw hv9 hs0 ht0 h20 | exact za_isp2 hw hv9 hs0 ht0 h20 h34 | exact za_isp3 h4 h11 hw hv9 hs0 ht0 h20 h34)) zd_M_isPlayed_42
        · skip
          refine lv_iconst (v := nI 1) hx hb zd_M_isPlayed_37 (by decide) ?_
          refine lv_goto hx hb (tgt := 42) zd_M_isPlayed_38 (by decide) ?_
          exact hret _ _ _ (za_b1 (by first | (simp [za_isp, h4]; done) | (simp [za_isp, h11]; done) | exact za_isp1 hw hv9 hs0 ht0 h20 | exact za_isp2 hw hv9 hs0 ht0 h20 h34 | exact za_isp3 h4 h11 hw hv9 hs0 ht0 h20 h34)) zd_M_isPlayed_42
