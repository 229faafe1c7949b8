def zr_M_isPlayed : Room := { frames := 1, cells := 0, slots := 0, locals := 22 }
set_option maxHeartbeats 4000000 in
set_option maxRecDepth 100000 in
theorem zc_M_isPlayed (ln : Launch) (D : va_G) (cI cZ : ClassId) (aO : Nat) (aMv : Nat) (aMc : Nat) (aBr : Nat) (aCd : Nat) (aNx : Nat) (aMk : Nat) (aAt : Nat) (aAs : Nat) (mkc : Nat) (mpl : Nat) (mn : Int32) (kn : Bool) (Br : Nat → Int32) (Tg : Nat → Int32) (Co : Nat → Int32) (w : Int32) (v : Int32) (hBr : za_brs Tg Co Br) : Met ln zm_M_isPlayed (Cond.code zm_M_isPlayed zo_M_isPlayed 3 (some .boolean) :: zb_big) zr_M_isPlayed (za_Pr D vwCl [(cI, .int), (cZ, .boolean)] [.ref aO, .int w, .int v] [(aO, .inr (5, [.ref aMv, .int mn, .ref aMc, .int (za_bi kn), .ref aBr, .ref aCd, .ref aNx, .int (nI mkc), .ref aMk, .int (nI mpl), .ref aAt, .ref aAs])), (aBr, .inl (cI, 576, .inl Br))]) (vp_Si (fun r => r = za_bi (za_isp Tg Co w v))) 0 0 (fun _ => False) := by
  refine za_reader (cc := zo_M_isPlayed) (maxL := 3) (ty := .boolean) (by decide) (Nat.le_of_ble_eq_true rfl) (fun _ h => by rw [h]; exact za_nar _) ?_
  intro p e sg m args below meth c H Q hx hb hml hts hown hP hK hN hret ls hl
  have hP : va_P D vwCl [(aO, .inr (5, [.ref aMv, .int mn, .ref aMc, .int (za_bi kn), .ref aBr, .ref aCd, .ref aNx, .int (nI mkc), .ref aMk, .int (nI mpl), .ref aAt, .ref aAs])), (aBr, .inl (cI, 576, .inl Br))] H := hP
  have hl : lv_has ls 3 [(0, .ref aO), (1, .int w), (2, .int v)] := hl
  have hf17 := hts _ zw_447
  refine lv_iload_n hx hb zd_M_isPlayed_0 rfl (lv_at hl 1 rfl) ?_
  refine za_cS (As := [.int w]) (rest := []) ⟨hx, hb, hml, hown, hts⟩ (zc_M_isState ln D cI cZ w ) (za_gS 1 hts zw_485 zw_486 zw_40 zw_487 (by decide +kernel) ⟨Nat.le_of_ble_eq_true rfl, Nat.le_of_ble_eq_true rfl⟩) hK hN hP [] rfl hl rfl rfl (Nat.le_of_ble_eq_true rfl) zd_M_isPlayed_1 ⟨Nat.le_of_ble_eq_true rfl, Nat.le_of_ble_eq_true rfl⟩ ?_
  refine lv_if_eq hx hb (tgt := 41) zd_M_isPlayed_4 (by decide) (fun h4 => ?_) (fun h4 => ?_)
  · have h4 := za_bF h4
    refine lv_iconst (v := nI 0) hx hb zd_M_isPlayed_41 (by decide) ?_
    exact hret _ _ _ (za_b0 (by first | (simp [za_isp, h4]; done) | (simp [za_isp, h11]; done) | exact za_isp1 hw hv9 hs0 ht0 h20 | exact za_isp2 hw hv9 hs0 ht0 h20 h34 | exact za_isp3 h4 h11 hw hv9 hs0 ht0 h20 h34)) zd_M_isPlayed_42
  · have h4 := za_bT h4
    obtain ⟨s, hs0, hw⟩ := za_isS_of h4
    have hl : lv_has ls 3 [(0, .ref aO), (1, .int (nI s)), (2, .int v)] := by rw [← hw]; exact hl
    refine lv_iload_n hx hb zd_M_isPlayed_7 rfl (lv_at hl 2 rfl) ?_
    refine za_cS (As := [.int v]) (rest := []) ⟨hx, hb, hml, hown, hts⟩ (zc_M_isState ln D cI cZ v ) (za_gS 1 hts zw_485 zw_486 zw_40 zw_487 (by decide +kernel) ⟨Nat.le_of_ble_eq_true rfl, Nat.le_of_ble_eq_true rfl⟩) hK hN hP [] rfl hl rfl rfl (Nat.le_of_ble_eq_true rfl) zd_M_isPlayed_8 ⟨Nat.le_of_ble_eq_true rfl, Nat.le_of_ble_eq_true rfl⟩ ?_
    refine lv_if_eq hx hb (tgt := 41) zd_M_isPlayed_11 (by decide) (fun h11 => ?_) (fun h11 => ?_)
    · have h11 := za_bF h11
      refine lv_iconst (v := nI 0) hx hb zd_M_isPlayed_41 (by decide) ?_
      exact hret _ _ _ (za_b0 (by first | (simp [za_isp, h4]; done) | (simp [za_isp, h11]; done) | exact za_isp1 hw hv9 hs0 ht0 h20 | exact za_isp2 hw hv9 hs0 ht0 h20 h34 | exact za_isp3 h4 h11 hw hv9 hs0 ht0 h20 h34)) zd_M_isPlayed_42
    · have h11 := za_bT h11
      obtain ⟨t, ht0, hv9⟩ := za_isS_of h11
      have hl : lv_has ls 3 [(0, .ref aO), (1, .int (nI s)), (2, .int (nI t))] := by rw [← hv9]; exact hl
      refine lv_aload_n hx hb zd_M_isPlayed_14 rfl (lv_at hl 0 rfl) ?_
      refine lv_iload_n hx hb zd_M_isPlayed_15 rfl (lv_at hl 1 rfl) ?_
      refine lv_iload_n hx hb zd_M_isPlayed_16 rfl (lv_at hl 2 rfl) ?_
      refine za_cV (As := [.int (nI s), .int (nI t)]) (rest := []) ⟨hx, hb, hml, hown, hts⟩ (zc_M_areAlike ln D cI cZ aO aMv aMc aBr aCd aNx aMk aAt aAs mkc mpl mn kn Br s t (by omega) (by omega)) (za_gV 2 hts zw_543 zw_545 zw_27 zw_40 zw_546 (by decide +kernel) ⟨Nat.le_of_ble_eq_true rfl, Nat.le_of_ble_eq_true rfl⟩) hK hN hP [0, 1] rfl (q0 := 0) rfl rfl hl rfl rfl (Nat.le_of_ble_eq_true rfl) zd_M_isPlayed_17 ⟨Nat.le_of_ble_eq_true rfl, Nat.le_of_ble_eq_true rfl⟩ ?_
      refine za_eqi (y := za_bi (za_ak Tg Co 23 s t)) (by rw [za_brs_al hBr hs0 ht0]) ?_
      refine lv_if_ne hx hb (tgt := 41) zd_M_isPlayed_20 (by decide) (fun h20 => ?_) (fun h20 => ?_)
      · have h20 := za_bT h20
        refine lv_iconst (v := nI 0) hx hb zd_M_isPlayed_41 (by decide) ?_
        exact hret _ _ _ (za_b0 (by first | (simp [za_isp, h4]; done) | (simp [za_isp, h11]; done) | exact za_isp1 hw hv9 hs0 ht0 h20 | exact za_isp2 hw hv9 hs0 ht0 h20 h34 | exact za_isp3 h4 h11 hw hv9 hs0 ht0 h20 h34)) zd_M_isPlayed_42
      · have h20 := za_bF h20
        refine lv_aload_n hx hb zd_M_isPlayed_23 rfl (lv_at hl 0 rfl) ?_
        refine va_get (D := D) (ci := 5) (v := .ref aBr) (C := zs_M) (T := zt_M) (N := 12) hx hb hts zi_M hown hK hP 0 rfl rfl 4 (by decide) hf17 (fun _ h9 => h9) rfl zd_M_isPlayed_24 ?_
        refine lv_bipush (v := nI 24) hx hb zd_M_isPlayed_27 (by decide) ?_
        refine lv_iload_n hx hb zd_M_isPlayed_29 rfl (lv_at hl 1 rfl) ?_
        refine za_mulN hx hb zd_M_isPlayed_30 ?_
        refine lv_iload_n hx hb zd_M_isPlayed_31 rfl (lv_at hl 2 rfl) ?_
        refine za_addN hx hb zd_M_isPlayed_32 ?_
        refine za_ild hx hb hK hP 1 0 rfl rfl (k := (24 * s) + t) (by omega) (by decide) zd_M_isPlayed_33 ?_
        refine za_eqi (y := nI (za_bn Tg Co s t)) ((za_brs_at hBr hs0 ht0 h20).1) ?_
        refine lv_if_le hx hb (tgt := 41) zd_M_isPlayed_34 (by decide) (fun h34 => ?_) (fun h34 => ?_)
        · skip
          refine lv_iconst (v := nI 0) hx hb zd_M_isPlayed_41 (by decide) ?_
          exact hret _ _ _ (za_b0 (by first | (simp [za_isp, h4]; done) | (simp [za_isp, h11]; done) | exact za_isp1 hw hv9 hs0 ht0 h20 | exact za_isp2 hw hv9 hs0 ht0 h20 h34 | exact za_isp3 h4 h11 hw hv9 hs0 ht0 h20 h34)) zd_M_isPlayed_42
        · skip
          refine lv_iconst (v := nI 1) hx hb zd_M_isPlayed_37 (by decide) ?_
          refine lv_goto hx hb (tgt := 42) zd_M_isPlayed_38 (by decide) ?_
          exact hret _ _ _ (za_b1 (by first | (simp [za_isp, h4]; done) | (simp [za_isp, h11]; done) | exact za_isp1 hw hv9 hs0 ht0 h20 | exact za_isp2 hw hv9 hs0 ht0 h20 h34 | exact za_isp3 h4 h11 hw hv9 hs0 ht0 h20 h34)) zd_M_isPlayed_42
def zr_M_attacks : Room := { frames := 5, cells := 0, slots := 0, locals := 118 }
set_option maxHeartbeats 4000000 in
set_option maxRecDepth 100000 in
theorem zc_M_attacks (ln : Launch) (D : va_G) (cI cZ : ClassId) (sz : Nat) (aO : Nat) (aMv : Nat) (aMc : Nat) (aBr : Nat) (aCd : Nat) (aNx : Nat) (aMk : Nat) (aAt : Nat) (aAs : Nat) (mkc : Nat) (mpl : Nat) (mn : Int32) (kn : Bool) (Mv : Nat → Bool) (Mc : Nat → Int32) (Br : Nat → Int32) (Cd : Nat → Bool) (Nx : Nat → Bool) (Mk : Nat → Int32) (Tg : Nat → Int32) (Co : Nat → Int32) (w : Int32) (v : Int32) (hMv : za_rel Tg Mv) (hMc : (∀ s, s < 24 → Mc s = Co s)) (hkn : kn = true → (za_brs Tg Co Br ∧ za_cds Tg Co Cd ∧ (∀ x, x < 24 → Mk x = za_kd Tg Co x) ∧ mkc = za_kc Tg Co)) : Met ln zm_M_attacks (Cond.code zm_M_attacks zo_M_attacks 6 (some .int) :: zb_big) zr_M_attacks (za_Pw D vwCl [(cI, .int), (cZ, .boolean)] [.ref aO, .int w, .int v] [(aO, .inr (5, [.ref aMv, .int mn, .ref aMc, .int (za_bi kn), .ref aBr, .ref aCd, .ref aNx, .int (nI mkc), .ref aMk, .int (nI mpl), .ref aAt, .ref aAs])), (aMv, .inl (cZ, 2304, .inl (fun j => za_bi (Mv j)))), (aMc, .inl (cI, 24, .inl Mc)), (aBr, .inl (cI, 576, .inl Br)), (aCd, .inl (cZ, 576, .inl (fun j => za_bi (Cd j)))), (aNx, .inl (cZ, 576, .inl (fun j => za_bi (Nx j)))), (aMk, .inl (cI, 24, .inl Mk))] sz) (va_Qi (fun (r : Int32) (u : (Nat → Int32) × (Nat → Bool) × (Nat → Bool) × (Nat → Int32)) => r = (if (za_isS w && za_isS v) = true then za_ac Tg Co (za_clp w) (za_clp v) else nI 0) ∧ za_brs Tg Co u.1 ∧ za_cds Tg Co u.2.1 ∧ (∀ x, x < 24 → u.2.2.2 x = za_kd Tg Co x)) (za_B D vwCl [(aO, .inr (5, [.ref aMv, .int mn, .ref aMc, .int (za_bi kn), .ref aBr, .ref aCd, .ref aNx, .int (nI mkc), .ref aMk, .int (nI mpl), .ref aAt, .ref aAs])), (aMv, .inl (cZ, 2304, .inl (fun j => za_bi (Mv j)))), (aMc, .inl (cI, 24, .inl Mc)), (aBr, .inl (cI, 576, .inl Br)), (aCd, .inl (cZ, 576, .inl (fun j => za_bi (Cd j)))), (aNx, .inl (cZ, 576, .inl (fun j => za_bi (Nx j)))), (aMk, .inl (cI, 24, .inl Mk))] sz (fun (u : (Nat → Int32) × (Nat → Bool) × (Nat → Bool) × (Nat → Int32)) => [(aO, .inr (5, [.ref aMv, .int mn, .ref aMc, .int (za_bi true), .ref aBr, .ref aCd, .ref aNx, .int (nI (za_kc Tg Co)), .ref aMk, .int (nI mpl), .ref aAt, .ref aAs])), (aMv, .inl (cZ, 2304, .inl (fun j => za_bi (Mv j)))), (aMc, .inl (cI, 24, .inl Mc)), (aBr, .inl (cI, 576, .inl u.1)), (aCd, .inl (cZ, 576, .inl (fun j => za_bi (u.2.1 j)))), (aNx, .inl (cZ, 576, .inl (fun j => za_bi (u.2.2.1 j)))), (aMk, .inl (cI, 24, .inl u.2.2.2))])) (va_A [(aO, .inr (5, [.ref aMv, .int mn, .ref aMc, .int (za_bi kn), .ref aBr, .ref aCd, .ref aNx, .int (nI mkc), .ref aMk, .int (nI mpl), .ref aAt, .ref aAs])), (aMv, .inl (cZ, 2304, .inl (fun j => za_bi (Mv j)))), (aMc, .inl (cI, 24, .inl Mc)), (aBr, .inl (cI, 576, .inl Br)), (aCd, .inl (cZ, 576, .inl (fun j => za_bi (Cd j)))), (aNx, .inl (cZ, 576, .inl (fun j => za_bi (Nx j)))), (aMk, .inl (cI, 24, .inl Mk))] sz)) 0 0 (va_A [(aO, .inr (5, [.ref aMv, .int mn, .ref aMc, .int (za_bi kn), .ref aBr, .ref aCd, .ref aNx, .int (nI mkc), .ref aMk, .int (nI mpl), .ref aAt, .ref aAs])), (aMv, .inl (cZ, 2304, .inl (fun j => za_bi (Mv j)))), (aMc, .inl (cI, 24, .inl Mc)), (aBr, .inl (cI, 576, .inl Br)), (aCd, .inl (cZ, 576, .inl (fun j => za_bi (Cd j)))), (aNx, .inl (cZ, 576, .inl (fun j => za_bi (Nx j)))), (aMk, .inl (cI, 24, .inl Mk))] sz) := by
  refine za_wi (cc := zo_M_attacks) (maxL := 6) (ty := .int) (by decide) (Nat.le_of_ble_eq_true rfl) (fun _ _ _ => rfl) ?_
  intro p e sg m args below meth c H0 A Q hx hb hml hts hown hmn hP hK hN hD hA hS hret ls hl
  have hP : va_P D vwCl [(aO, .inr (5, [.ref aMv, .int mn, .ref aMc, .int (za_bi kn), .ref aBr, .ref aCd, .ref aNx, .int (nI mkc), .ref aMk, .int (nI mpl), .ref aAt, .ref aAs])), (aMv, .inl (cZ, 2304, .inl (fun j => za_bi (Mv j)))), (aMc, .inl (cI, 24, .inl Mc)), (aBr, .inl (cI, 576, .inl Br)), (aCd, .inl (cZ, 576, .inl (fun j => za_bi (Cd j)))), (aNx, .inl (cZ, 576, .inl (fun j => za_bi (Nx j)))), (aMk, .inl (cI, 24, .inl Mk))] H0 := hP
  have hD : va_D A [(aO, .inr (5, [.ref aMv, .int mn, .ref aMc, .int (za_bi kn), .ref aBr, .ref aCd, .ref aNx, .int (nI mkc), .ref aMk, .int (nI mpl), .ref aAt, .ref aAs])), (aMv, .inl (cZ, 2304, .inl (fun j => za_bi (Mv j)))), (aMc, .inl (cI, 24, .inl Mc)), (aBr, .inl (cI, 576, .inl Br)), (aCd, .inl (cZ, 576, .inl (fun j => za_bi (Cd j)))), (aNx, .inl (cZ, 576, .inl (fun j => za_bi (Nx j)))), (aMk, .inl (cI, 24, .inl Mk))] := hD
  have hl : lv_has ls 6 [(0, .ref aO), (1, .int w), (2, .int v)] := hl
  have hf17 := hts _ zw_447
  refine lv_aload_n hx hb zd_M_attacks_0 rfl (lv_at hl 0 rfl) ?_
  refine za_wVv (As := []) (rest := []) (wr := []) (wz := (fun u => [(aO, .inr (5, [.ref aMv, .int mn, .ref aMc, .int (za_bi true), .ref aBr, .ref aCd, .ref aNx, .int (nI (za_kc Tg Co)), .ref aMk, .int (nI mpl), .ref aAt, .ref aAs])), (aMv, .inl (cZ, 2304, .inl (fun j => za_bi (Mv j)))), (aMc, .inl (cI, 24, .inl Mc)), (aBr, .inl (cI, 576, .inl u.1)), (aCd, .inl (cZ, 576, .inl (fun j => za_bi (u.2.1 j)))), (aNx, .inl (cZ, 576, .inl (fun j => za_bi (u.2.2.1 j)))), (aMk, .inl (cI, 24, .inl u.2.2.2))])) ⟨hx, hb, hml, hown, hts⟩ (zc_M_look ln D cI cZ _ aO aMv aMc aBr aCd aNx aMk aAt aAs mkc mpl mn kn Mv Mc Br Cd Nx Mk Tg Co (by exact hMv) (by exact hMc) (by exact hkn)) (za_gV 0 hts zw_515 zw_517 zw_20 zw_40 zw_518 (by decide +kernel) ⟨Nat.le_of_ble_eq_true rfl, Nat.le_of_ble_eq_true rfl⟩) hK hN hP hD hS hA [0, 1, 2, 3, 4, 5, 6] [] [0, 1, 2, 3, 4, 5, 6] rfl rfl (by decide) (by decide) (by decide) (by decide) (fun _ => rfl) (q0 := 0) rfl rfl hl rfl rfl (Nat.le_of_ble_eq_true rfl) zd_M_attacks_1 ⟨Nat.le_of_ble_eq_true rfl, Nat.le_of_ble_eq_true rfl⟩ (fun u1 H locs hq1 hP hD hS => ?_)
  obtain ⟨Br1_1, Cd1_1, Nx1_1, Mk1_1⟩ := u1
  have hP : va_P D vwCl [(aO, .inr (5, [.ref aMv, .int mn, .ref aMc, .int (za_bi true), .ref aBr, .ref aCd, .ref aNx, .int (nI (za_kc Tg Co)), .ref aMk, .int (nI mpl), .ref aAt, .ref aAs])), (aMv, .inl (cZ, 2304, .inl (fun j => za_bi (Mv j)))), (aMc, .inl (cI, 24, .inl Mc)), (aBr, .inl (cI, 576, .inl Br1_1)), (aCd, .inl (cZ, 576, .inl (fun j => za_bi (Cd1_1 j)))), (aNx, .inl (cZ, 576, .inl (fun j => za_bi (Nx1_1 j)))), (aMk, .inl (cI, 24, .inl Mk1_1))] H := hP
  have hD : va_D A [(aO, .inr (5, [.ref aMv, .int mn, .ref aMc, .int (za_bi true), .ref aBr, .ref aCd, .ref aNx, .int (nI (za_kc Tg Co)), .ref aMk, .int (nI mpl), .ref aAt, .ref aAs])), (aMv, .inl (cZ, 2304, .inl (fun j => za_bi (Mv j)))), (aMc, .inl (cI, 24, .inl Mc)), (aBr, .inl (cI, 576, .inl Br1_1)), (aCd, .inl (cZ, 576, .inl (fun j => za_bi (Cd1_1 j)))), (aNx, .inl (cZ, 576, .inl (fun j => za_bi (Nx1_1 j)))), (aMk, .inl (cI, 24, .inl Mk1_1))] := hD
  have hq1 : za_brs Tg Co Br1_1 ∧ za_cds Tg Co Cd1_1 ∧ (∀ x, x < 24 → Mk1_1 x = za_kd Tg Co x) := hq1
  refine lv_iconst (v := nI 0) hx hb zd_M_attacks_4 (by decide) ?_
  refine lv_istore_n (lv' := [(3, .int (nI 0)), (0, .ref aO), (1, .int w), (2, .int v)]) hx hb zd_M_attacks_5 rfl hl (by decide) rfl (fun ls hl => ?_)
  refine lv_iconst (v := nI 0) hx hb zd_M_attacks_6 (by decide) ?_
  refine lv_istore (lv' := [(4, .int (nI 0)), (3, .int (nI 0)), (0, .ref aO), (1, .int w), (2, .int v)]) hx hb zd_M_attacks_7 hl (by decide) rfl (fun ls hl => ?_)
  have hC9 : ∀ (n9 : Nat) (i : Nat) (ls : Array Slot) (H : Heap) (locs : List Loc), 96 - i < n9 → i ≤ 96 → lv_has ls 6 [(0, .ref aO), (1, .int w), (2, .int v), (3, .int (nI (za_asum Tg Co w v i))), (4, .int (nI i))] → va_P D vwCl [(aO, .inr (5, [.ref aMv, .int mn, .ref aMc, .int (za_bi true), .ref aBr, .ref aCd, .ref aNx, .int (nI (za_kc Tg Co)), .ref aMk, .int (nI mpl), .ref aAt, .ref aAs])), (aMv, .inl (cZ, 2304, .inl (fun j => za_bi (Mv j)))), (aMc, .inl (cI, 24, .inl Mc)), (aBr, .inl (cI, 576, .inl Br1_1)), (aCd, .inl (cZ, 576, .inl (fun j => za_bi (Cd1_1 j)))), (aNx, .inl (cZ, 576, .inl (fun j => za_bi (Nx1_1 j)))), (aMk, .inl (cI, 24, .inl Mk1_1))] H → va_D A [(aO, .inr (5, [.ref aMv, .int mn, .ref aMc, .int (za_bi true), .ref aBr, .ref aCd, .ref aNx, .int (nI (za_kc Tg Co)), .ref aMk, .int (nI mpl), .ref aAt, .ref aAs])), (aMv, .inl (cZ, 2304, .inl (fun j => za_bi (Mv j)))), (aMc, .inl (cI, 24, .inl Mc)), (aBr, .inl (cI, 576, .inl Br1_1)), (aCd, .inl (cZ, 576, .inl (fun j => za_bi (Cd1_1 j)))), (aNx, .inl (cZ, 576, .inl (fun j => za_bi (Nx1_1 j)))), (aMk, .inl (cI, 24, .inl Mk1_1))] → va_S A H0 H locs → W p ln e zr_M_attacks sg m args below meth c H locs 0 0 Q (F0 m 9 ls []) := by
    intro n9
    induction n9 with
    | zero => intro i ls H locs hn9 hi_i hl hP hD hS; exact absurd hn9 (Nat.not_lt_zero _)
    | succ n9 ih9 =>
      intro i ls H locs hn9 hi_i hl hP hD hS
      refine lv_iload hx hb zd_M_attacks_9 (lv_at hl 4 rfl) ?_
      refine lv_bipush (v := nI 96) hx hb zd_M_attacks_11 (by decide) ?_
      refine lv_icmp_ge hx hb (tgt := 88) zd_M_attacks_13 (by decide) (fun h13 => ?_) (fun h13 => ?_)
      · have h13 := za_leN h13 (by omega) (by omega)
        refine lv_iload_n hx hb zd_M_attacks_88 rfl (lv_at hl 3 rfl) ?_
        have hP9 : va_P D vwCl [(aO, .inr (5, [.ref aMv, .int mn, .ref aMc, .int (za_bi true), .ref aBr, .ref aCd, .ref aNx, .int (nI (za_kc Tg Co)), .ref aMk, .int (nI mpl), .ref aAt, .ref aAs])), (aMv, .inl (cZ, 2304, .inl (fun j => za_bi (Mv j)))), (aMc, .inl (cI, 24, .inl Mc)), (aBr, .inl (cI, 576, .inl Br1_1)), (aCd, .inl (cZ, 576, .inl (fun j => za_bi (Cd1_1 j)))), (aNx, .inl (cZ, 576, .inl (fun j => za_bi (Nx1_1 j)))), (aMk, .inl (cI, 24, .inl Mk1_1))] H := hP
        have hD9 : va_D A [(aO, .inr (5, [.ref aMv, .int mn, .ref aMc, .int (za_bi true), .ref aBr, .ref aCd, .ref aNx, .int (nI (za_kc Tg Co)), .ref aMk, .int (nI mpl), .ref aAt, .ref aAs])), (aMv, .inl (cZ, 2304, .inl (fun j => za_bi (Mv j)))), (aMc, .inl (cI, 24, .inl Mc)), (aBr, .inl (cI, 576, .inl Br1_1)), (aCd, .inl (cZ, 576, .inl (fun j => za_bi (Cd1_1 j)))), (aNx, .inl (cZ, 576, .inl (fun j => za_bi (Nx1_1 j)))), (aMk, .inl (cI, 24, .inl Mk1_1))] := hD
        have hQ9 : (nI (za_asum Tg Co w v i)) = (if (za_isS w && za_isS v) = true then za_ac Tg Co (za_clp w) (za_clp v) else nI 0) ∧ za_brs Tg Co Br1_1 ∧ za_cds Tg Co Cd1_1 ∧ (∀ x, x < 24 → Mk1_1 x = za_kd Tg Co x) := by first | exact ⟨za_asum_f h22, hq1⟩ | exact ⟨za_asum_e (show i = 96 by omega), hq1⟩
        exact hret _ ⟨Br1_1, Cd1_1, Nx1_1, Mk1_1⟩ _ _ _ _ (hQ9) hP9 hD9 hS zd_M_attacks_89
      · have h13 := za_nleN h13 (by omega) (by omega)
        refine lv_aload_n hx hb zd_M_attacks_16 rfl (lv_at hl 0 rfl) ?_
        refine lv_iload_n hx hb zd_M_attacks_17 rfl (lv_at hl 1 rfl) ?_
        refine lv_iload_n hx hb zd_M_attacks_18 rfl (lv_at hl 2 rfl) ?_
        refine za_cV (As := [.int w, .int v]) (rest := []) ⟨hx, hb, hml, hown, hts⟩ (zc_M_isPlayed ln D cI cZ aO aMv aMc aBr aCd aNx aMk aAt aAs (za_kc Tg Co) mpl mn true Br1_1 Tg Co w v (by exact hq1.1)) (za_gV 2 hts zw_587 zw_589 zw_29 zw_40 zw_590 (by decide +kernel) ⟨Nat.le_of_ble_eq_true rfl, Nat.le_of_ble_eq_true rfl⟩) hK hN hP [0, 3] rfl (q0 := 0) rfl rfl hl rfl rfl (Nat.le_of_ble_eq_true rfl) zd_M_attacks_19 ⟨Nat.le_of_ble_eq_true rfl, Nat.le_of_ble_eq_true rfl⟩ ?_
        refine lv_if_eq hx hb (tgt := 88) zd_M_attacks_22 (by decide) (fun h22 => ?_) (fun h22 => ?_)
        · have h22 := za_bF h22
          refine lv_iload_n hx hb zd_M_attacks_88 rfl (lv_at hl 3 rfl) ?_
          have hP9 : va_P D vwCl [(aO, .inr (5, [.ref aMv, .int mn, .ref aMc, .int (za_bi true), .ref aBr, .ref aCd, .ref aNx, .int (nI (za_kc Tg Co)), .ref aMk, .int (nI mpl), .ref aAt, .ref aAs])), (aMv, .inl (cZ, 2304, .inl (fun j => za_bi (Mv j)))), (aMc, .inl (cI, 24, .inl Mc)), (aBr, .inl (cI, 576, .inl Br1_1)), (aCd, .inl (cZ, 576, .inl (fun j => za_bi (Cd1_1 j)))), (aNx, .inl (cZ, 576, .inl (fun j => za_bi (Nx1_1 j)))), (aMk, .inl (cI, 24, .inl Mk1_1))] H := hP
          have hD9 : va_D A [(aO, .inr (5, [.ref aMv, .int mn, .ref aMc, .int (za_bi true), .ref aBr, .ref aCd, .ref aNx, .int (nI (za_kc Tg Co)), .ref aMk, .int (nI mpl), .ref aAt, .ref aAs])), (aMv, .inl (cZ, 2304, .inl (fun j => za_bi (Mv j)))), (aMc, .inl (cI, 24, .inl Mc)), (aBr, .inl (cI, 576, .inl Br1_1)), (aCd, .inl (cZ, 576, .inl (fun j => za_bi (Cd1_1 j)))), (aNx, .inl (cZ, 576, .inl (fun j => za_bi (Nx1_1 j)))), (aMk, .inl (cI, 24, .inl Mk1_1))] := hD
          have hQ9 : (nI (za_asum Tg Co w v i)) = (if (za_isS w && za_isS v) = true then za_ac Tg Co (za_clp w) (za_clp v) else nI 0) ∧ za_brs Tg Co Br1_1 ∧ za_cds Tg Co Cd1_1 ∧ (∀ x, x < 24 → Mk1_1 x = za_kd Tg Co x) := by first | exact ⟨za_asum_f h22, hq1⟩ | exact ⟨za_asum_e (show i = 96 by omega), hq1⟩
          exact hret _ ⟨Br1_1, Cd1_1, Nx1_1, Mk1_1⟩ _ _ _ _ (hQ9) hP9 hD9 hS zd_M_attacks_89
        · have h22 := za_bT h22
          obtain ⟨⟨s, hs0, hw⟩, ⟨t, ht0, hv9⟩, hpl⟩ := za_isp_of h22
          have hpl := za_isp_pl hpl hw hv9 hs0 ht0
          obtain ⟨hb24, hb0⟩ := za_pl_iff.mp hpl
          have hl : lv_has ls 6 [(0, .ref aO), (1, .int (nI s)), (2, .int v), (3, .int (nI (za_asum Tg Co w v i))), (4, .int (nI i))] := by rw [← hw]; exact hl
          have hl : lv_has ls 6 [(0, .ref aO), (1, .int (nI s)), (2, .int (nI t)), (3, .int (nI (za_asum Tg Co w v i))), (4, .int (nI i))] := by rw [← hv9]; exact hl
          refine lv_aload_n hx hb zd_M_attacks_25 rfl (lv_at hl 0 rfl) ?_
          refine va_get (D := D) (ci := 5) (v := .ref aBr) (C := zs_M) (T := zt_M) (N := 12) hx hb hts zi_M hown hK hP 0 rfl rfl 4 (by decide) hf17 (fun _ h9 => h9) rfl zd_M_attacks_26 ?_
          refine lv_bipush (v := nI 24) hx hb zd_M_attacks_29 (by decide) ?_
          refine lv_iload_n hx hb zd_M_attacks_31 rfl (lv_at hl 1 rfl) ?_
          refine za_mulN hx hb zd_M_attacks_32 ?_
          refine lv_iload_n hx hb zd_M_attacks_33 rfl (lv_at hl 2 rfl) ?_
          refine za_addN hx hb zd_M_attacks_34 ?_
          refine za_ild hx hb hK hP 3 0 rfl rfl (k := (24 * s) + t) (by omega) (by decide) zd_M_attacks_35 ?_
          refine za_eqi (y := nI (za_bn Tg Co s t)) (za_brs_bn hq1.1 hs0 ht0 hb24) ?_
          refine lv_iconst (v := nI 1) hx hb zd_M_attacks_36 (by decide) ?_
          refine za_subN hx hb (by omega) zd_M_attacks_37 ?_
          refine lv_istore (lv' := [(5, .int (nI ((za_bn Tg Co s t) - 1))), (0, .ref aO), (1, .int (nI s)), (2, .int (nI t)), (3, .int (nI (za_asum Tg Co w v i))), (4, .int (nI i))]) hx hb zd_M_attacks_38 hl (by decide) rfl (fun ls hl => ?_)
          refine lv_aload_n hx hb zd_M_attacks_40 rfl (lv_at hl 1 rfl) ?_
          refine lv_iload_n hx hb zd_M_attacks_41 rfl (lv_at hl 2 rfl) ?_
          refine lv_iload_n hx hb zd_M_attacks_42 rfl (lv_at hl 3 rfl) ?_
          refine lv_iload hx hb zd_M_attacks_43 (lv_at hl 5 rfl) ?_
          refine lv_iload hx hb zd_M_attacks_45 (lv_at hl 0 rfl) ?_
          refine za_cV (As := [.int (nI s), .int (nI t), .int (nI i), .int (nI ((za_bn Tg Co s t) - 1))]) (rest := []) ⟨hx, hb, hml, hown, hts⟩ (zc_M_isAttack ln D cI cZ aO aMv aMc aBr aCd aNx aMk aAt aAs (za_kc Tg Co) mpl mn true Mv Br1_1 s t i ((za_bn Tg Co s t) - 1) (by omega) (by omega) (by omega)) (za_gV 4 hts zw_591 zw_593 zw_30 zw_40 zw_594 (by decide +kernel) ⟨Nat.le_of_ble_eq_true rfl, Nat.le_of_ble_eq_true rfl⟩) hK hN hP [0, 1, 3] rfl (q0 := 0) rfl rfl hl rfl rfl (Nat.le_of_ble_eq_true rfl) zd_M_attacks_47 ⟨Nat.le_of_ble_eq_true rfl, Nat.le_of_ble_eq_true rfl⟩ ?_
          refine za_eqi (y := za_bi (za_at Tg Co s t (za_bn Tg Co s t - 1) i)) (by rw [za_mat_at hMv hq1.1 (by omega) hs0 ht0 (by omega)]) ?_
          refine lv_if_eq hx hb (tgt := 59) zd_M_attacks_50 (by decide) (fun h50 => ?_) (fun h50 => ?_)
          · have h50 := za_bF h50
            refine lv_iload_n hx hb zd_M_attacks_59 rfl (lv_at hl 4 rfl) ?_
            refine lv_istore_n (lv' := [(3, .int (nI (za_asum Tg Co w v i))), (5, .int (nI ((za_bn Tg Co s t) - 1))), (0, .ref aO), (1, .int (nI s)), (2, .int (nI t)), (4, .int (nI i))]) hx hb zd_M_attacks_60 rfl hl (by decide) rfl (fun ls hl => ?_)
            refine lv_aload_n hx hb zd_M_attacks_61 rfl (lv_at hl 2 rfl) ?_
            refine lv_iload_n hx hb zd_M_attacks_62 rfl (lv_at hl 4 rfl) ?_
            refine lv_iload_n hx hb zd_M_attacks_63 rfl (lv_at hl 3 rfl) ?_
            refine lv_iload hx hb zd_M_attacks_64 (lv_at hl 5 rfl) ?_
            refine lv_iload hx hb zd_M_attacks_66 (lv_at hl 1 rfl) ?_
            refine za_cV (As := [.int (nI t), .int (nI s), .int (nI i), .int (nI ((za_bn Tg Co s t) - 1))]) (rest := []) ⟨hx, hb, hml, hown, hts⟩ (zc_M_isAttack ln D cI cZ aO aMv aMc aBr aCd aNx aMk aAt aAs (za_kc Tg Co) mpl mn true Mv Br1_1 t s i ((za_bn Tg Co s t) - 1) (by omega) (by omega) (by omega)) (za_gV 4 hts zw_591 zw_593 zw_30 zw_40 zw_594 (by decide +kernel) ⟨Nat.le_of_ble_eq_true rfl, Nat.le_of_ble_eq_true rfl⟩) hK hN hP [0, 1, 3] rfl (q0 := 0) rfl rfl hl rfl rfl (Nat.le_of_ble_eq_true rfl) zd_M_attacks_68 ⟨Nat.le_of_ble_eq_true rfl, Nat.le_of_ble_eq_true rfl⟩ ?_
            refine za_eqi (y := za_bi (za_at Tg Co t s (za_bn Tg Co s t - 1) i)) (by rw [za_mat_at hMv hq1.1 (by omega) ht0 hs0 (by omega)]) ?_
            refine lv_if_eq hx hb (tgt := 80) zd_M_attacks_71 (by decide) (fun h71 => ?_) (fun h71 => ?_)
            · have h71 := za_bF h71
              refine lv_iload_n hx hb zd_M_attacks_80 rfl (lv_at hl 0 rfl) ?_
              refine lv_istore_n (lv' := [(3, .int (nI (za_asum Tg Co w v i))), (5, .int (nI ((za_bn Tg Co s t) - 1))), (0, .ref aO), (1, .int (nI s)), (2, .int (nI t)), (4, .int (nI i))]) hx hb zd_M_attacks_81 rfl hl (by decide) rfl (fun ls hl => ?_)
              refine lv_iinc (k := 5) (v := nI (i + 1)) (lv' := [(4, .int (nI (i + 1))), (3, .int (nI (za_asum Tg Co w v i))), (5, .int (nI ((za_bn Tg Co s t) - 1))), (0, .ref aO), (1, .int (nI s)), (2, .int (nI t))]) hx hb zd_M_attacks_82 hl rfl (za_inc _) (by decide) rfl (fun ls hl => ?_)
              refine lv_goto hx hb (tgt := 9) zd_M_attacks_85 (by decide) ?_
              have e1 : w = nI s := by first | with_reducible rfl | (congr 1; rw [za_asum_at h22 hw hv9 hs0 ht0, za_asum_at h22 hw hv9 hs0 ht0, za_cn, za_cn, h50, h71]; simp only [if_true, if_false, Bool.false_eq_true, reduceIte] <;> omega)
              have e2 : v = nI t := by first | with_reducible rfl | (congr 1; rw [za_asum_at h22 hw hv9 hs0 ht0, za_asum_at h22 hw hv9 hs0 ht0, za_cn, za_cn, h50, h71]; simp only [if_true, if_false, Bool.false_eq_true, reduceIte] <;> omega)
              have e3 : nI (za_asum Tg Co w v (i + 1)) = nI (za_asum Tg Co w v i) := by first | with_reducible rfl | (congr 1; rw [za_asum_at h22 hw hv9 hs0 ht0, za_asum_at h22 hw hv9 hs0 ht0, za_cn, za_cn, h50, h71]; simp only [if_true, if_false, Bool.false_eq_true, reduceIte] <;> omega)
              exact ih9 (i + 1) ls H locs (by omega) (by omega) (by rw [e1, e2, e3]; exact lv_sub hl [3, 4, 5, 1, 0] rfl) hP hD hS
            · have h71 := za_bT h71
              refine lv_iload_n hx hb zd_M_attacks_74 rfl (lv_at hl 0 rfl) ?_
              refine lv_iconst (v := nI 1) hx hb zd_M_attacks_75 (by decide) ?_
              refine za_addN hx hb zd_M_attacks_76 ?_
              refine lv_goto hx hb (tgt := 81) zd_M_attacks_77 (by decide) ?_
              refine lv_istore_n (lv' := [(3, .int (nI ((za_asum Tg Co w v i) + 1))), (5, .int (nI ((za_bn Tg Co s t) - 1))), (0, .ref aO), (1, .int (nI s)), (2, .int (nI t)), (4, .int (nI i))]) hx hb zd_M_attacks_81 rfl hl (by decide) rfl (fun ls hl => ?_)
              refine lv_iinc (k := 5) (v := nI (i + 1)) (lv' := [(4, .int (nI (i + 1))), (3, .int (nI ((za_asum Tg Co w v i) + 1))), (5, .int (nI ((za_bn Tg Co s t) - 1))), (0, .ref aO), (1, .int (nI s)), (2, .int (nI t))]) hx hb zd_M_attacks_82 hl rfl (za_inc _) (by decide) rfl (fun ls hl => ?_)
              refine lv_goto hx hb (tgt := 9) zd_M_attacks_85 (by decide) ?_
              have e1 : w = nI s := by first | with_reducible rfl | (congr 1; rw [za_asum_at h22 hw hv9 hs0 ht0, za_asum_at h22 hw hv9 hs0 ht0, za_cn, za_cn, h50, h71]; simp only [if_true, if_false, Bool.false_eq_true, reduceIte] <;> omega)
              have e2 : v = nI t := by first | with_reducible rfl | (congr 1; rw [za_asum_at h22 hw hv9 hs0 ht0, za_asum_at h22 hw hv9 hs0 ht0, za_cn, za_cn, h50, h71]; simp only [if_true, if_false, Bool.false_eq_true, reduceIte] <;> omega)
              have e3 : nI (za_asum Tg Co w v (i + 1)) = nI ((za_asum Tg Co w v i) + 1) := by first | with_reducible rfl | (congr 1; rw [za_asum_at h22 hw hv9 hs0 ht0, za_asum_at h22 hw hv9 hs0 ht0, za_cn, za_cn, h50, h71]; simp only [if_true, if_false, Bool.false_eq_true, reduceIte] <;> omega)
              exact ih9 (i + 1) ls H locs (by omega) (by omega) (by rw [e1, e2, e3]; exact lv_sub hl [3, 4, 5, 1, 0] rfl) hP hD hS
          · have h50 := za_bT h50
            refine lv_iload_n hx hb zd_M_attacks_53 rfl (lv_at hl 4 rfl) ?_
            refine lv_iconst (v := nI 1) hx hb zd_M_attacks_54 (by decide) ?_
            refine za_addN hx hb zd_M_attacks_55 ?_
            refine lv_goto hx hb (tgt := 60) zd_M_attacks_56 (by decide) ?_
            refine lv_istore_n (lv' := [(3, .int (nI ((za_asum Tg Co w v i) + 1))), (5, .int (nI ((za_bn Tg Co s t) - 1))), (0, .ref aO), (1, .int (nI s)), (2, .int (nI t)), (4, .int (nI i))]) hx hb zd_M_attacks_60 rfl hl (by decide) rfl (fun ls hl => ?_)
            refine lv_aload_n hx hb zd_M_attacks_61 rfl (lv_at hl 2 rfl) ?_
            refine lv_iload_n hx hb zd_M_attacks_62 rfl (lv_at hl 4 rfl) ?_
            refine lv_iload_n hx hb zd_M_attacks_63 rfl (lv_at hl 3 rfl) ?_
            refine lv_iload hx hb zd_M_attacks_64 (lv_at hl 5 rfl) ?_
            refine lv_iload hx hb zd_M_attacks_66 (lv_at hl 1 rfl) ?_
            refine za_cV (As := [.int (nI t), .int (nI s), .int (nI i), .int (nI ((za_bn Tg Co s t) - 1))]) (rest := []) ⟨hx, hb, hml, hown, hts⟩ (zc_M_isAttack ln D cI cZ aO aMv aMc aBr aCd aNx aMk aAt aAs (za_kc Tg Co) mpl mn true Mv Br1_1 t s i ((za_bn Tg Co s t) - 1) (by omega) (by omega) (by omega)) (za_gV 4 hts zw_591 zw_593 zw_30 zw_40 zw_594 (by decide +kernel) ⟨Nat.le_of_ble_eq_true rfl, Nat.le_of_ble_eq_true rfl⟩) hK hN hP [0, 1, 3] rfl (q0 := 0) rfl rfl hl rfl rfl (Nat.le_of_ble_eq_true rfl) zd_M_attacks_68 ⟨Nat.le_of_ble_eq_true rfl, Nat.le_of_ble_eq_true rfl⟩ ?_
            refine za_eqi (y := za_bi (za_at Tg Co t s (za_bn Tg Co s t - 1) i)) (by rw [za_mat_at hMv hq1.1 (by omega) ht0 hs0 (by omega)]) ?_
            refine lv_if_eq hx hb (tgt := 80) zd_M_attacks_71 (by decide) (fun h71 => ?_) (fun h71 => ?_)
            · have h71 := za_bF h71
              refine lv_iload_n hx hb zd_M_attacks_80 rfl (lv_at hl 0 rfl) ?_
              refine lv_istore_n (lv' := [(3, .int (nI ((za_asum Tg Co w v i) + 1))), (5, .int (nI ((za_bn Tg Co s t) - 1))), (0, .ref aO), (1, .int (nI s)), (2, .int (nI t)), (4, .int (nI i))]) hx hb zd_M_attacks_81 rfl hl (by decide) rfl (fun ls hl => ?_)
              refine lv_iinc (k := 5) (v := nI (i + 1)) (lv' := [(4, .int (nI (i + 1))), (3, .int (nI ((za_asum Tg Co w v i) + 1))), (5, .int (nI ((za_bn Tg Co s t) - 1))), (0, .ref aO), (1, .int (nI s)), (2, .int (nI t))]) hx hb zd_M_attacks_82 hl rfl (za_inc _) (by decide) rfl (fun ls hl => ?_)
              refine lv_goto hx hb (tgt := 9) zd_M_attacks_85 (by decide) ?_
              have e1 : w = nI s := by first | with_reducible rfl | (congr 1; rw [za_asum_at h22 hw hv9 hs0 ht0, za_asum_at h22 hw hv9 hs0 ht0, za_cn, za_cn, h50, h71]; simp only [if_true, if_false, Bool.false_eq_true, reduceIte] <;> omega)
              have e2 : v = nI t := by first | with_reducible rfl | (congr 1; rw [za_asum_at h22 hw hv9 hs0 ht0, za_asum_at h22 hw hv9 hs0 ht0, za_cn, za_cn, h50, h71]; simp only [if_true, if_false, Bool.false_eq_true, reduceIte] <;> omega)
              have e3 : nI (za_asum Tg Co w v (i + 1)) = nI ((za_asum Tg Co w v i) + 1) := by first | with_reducible rfl | (congr 1; rw [za_asum_at h22 hw hv9 hs0 ht0, za_asum_at h22 hw hv9 hs0 ht0, za_cn, za_cn, h50, h71]; simp only [if_true, if_false, Bool.false_eq_true, reduceIte] <;> omega)
              exact ih9 (i + 1) ls H locs (by omega) (by omega) (by rw [e1, e2, e3]; exact lv_sub hl [3, 4, 5, 1, 0] rfl) hP hD hS
            · have h71 := za_bT h71
              refine lv_iload_n hx hb zd_M_attacks_74 rfl (lv_at hl 0 rfl) ?_
              refine lv_iconst (v := nI 1) hx hb zd_M_attacks_75 (by decide) ?_
              refine za_addN hx hb zd_M_attacks_76 ?_
              refine lv_goto hx hb (tgt := 81) zd_M_attacks_77 (by decide) ?_
              refine lv_istore_n (lv' := [(3, .int (nI (((za_asum Tg Co w v i) + 1) + 1))), (5, .int (nI ((za_bn Tg Co s t) - 1))), (0, .ref aO), (1, .int (nI s)), (2, .int (nI t)), (4, .int (nI i))]) hx hb zd_M_attacks_81 rfl hl (by decide) rfl (fun ls hl => ?_)
              refine lv_iinc (k := 5) (v := nI (i + 1)) (lv' := [(4, .int (nI (i + 1))), (3, .int (nI (((za_asum Tg Co w v i) + 1) + 1))), (5, .int (nI ((za_bn Tg Co s t) - 1))), (0, .ref aO), (1, .int (nI s)), (2, .int (nI t))]) hx hb zd_M_attacks_82 hl rfl (za_inc _) (by decide) rfl (fun ls hl => ?_)
              refine lv_goto hx hb (tgt := 9) zd_M_attacks_85 (by decide) ?_
              have e1 : w = nI s := by first | with_reducible rfl | (congr 1; rw [za_asum_at h22 hw hv9 hs0 ht0, za_asum_at h22 hw hv9 hs0 ht0, za_cn, za_cn, h50, h71]; simp only [if_true, if_false, Bool.false_eq_true, reduceIte] <;> omega)
              have e2 : v = nI t := by first | with_reducible rfl | (congr 1; rw [za_asum_at h22 hw hv9 hs0 ht0, za_asum_at h22 hw hv9 hs0 ht0, za_cn, za_cn, h50, h71]; simp only [if_true, if_false, Bool.false_eq_true, reduceIte] <;> omega)
              have e3 : nI (za_asum Tg Co w v (i + 1)) = nI (((za_asum Tg Co w v i) + 1) + 1) := by first | with_reducible rfl | (congr 1; rw [za_asum_at h22 hw hv9 hs0 ht0, za_asum_at h22 hw hv9 hs0 ht0, za_cn, za_cn, h50, h71]; simp only [if_true, if_false, Bool.false_eq_true, reduceIte] <;> omega)
              exact ih9 (i + 1) ls H locs (by omega) (by omega) (by rw [e1, e2, e3]; exact lv_sub hl [3, 4, 5, 1, 0] rfl) hP hD hS
  have e1 : nI (za_asum Tg Co w v 0) = nI 0 := by first | with_reducible rfl | (unfold za_asum; split <;> rfl)
  exact hC9 (96 - 0 + 1) 0 ls H locs (Nat.lt_succ_self _) (by omega) (by rw [e1]; exact lv_sub hl [2, 3, 4, 1, 0] rfl) hP hD hS
def zr_M_firstAttack : Room := { frames := 3, cells := 0, slots := 0, locals := 73 }
set_option maxHeartbeats 4000000 in
set_option maxRecDepth 100000 in
theorem zc_M_firstAttack (ln : Launch) (D : va_G) (cI cZ : ClassId) (aO : Nat) (aMv : Nat) (aMc : Nat) (aBr : Nat) (aCd : Nat) (aNx : Nat) (aMk : Nat) (aAt : Nat) (aAs : Nat) (mkc : Nat) (mpl : Nat) (mn : Int32) (kn : Bool) (Mv : Nat → Bool) (Br : Nat → Int32) (Tg : Nat → Int32) (Co : Nat → Int32) (s : Nat) (t : Nat) (hMv : za_rel Tg Mv) (hBr : za_brs Tg Co Br) (hs0 : s < 24) (ht0 : t < 24) (hpl : za_pl Tg Co s t = true) : Met ln zm_M_firstAttack (Cond.code zm_M_firstAttack zo_M_firstAttack 5 (some .int) :: zb_big) zr_M_firstAttack (za_Pr D vwCl [(cI, .int), (cZ, .boolean)] [.ref aO, .int (nI s), .int (nI t)] [(aO, .inr (5, [.ref aMv, .int mn, .ref aMc, .int (za_bi kn), .ref aBr, .ref aCd, .ref aNx, .int (nI mkc), .ref aMk, .int (nI mpl), .ref aAt, .ref aAs])), (aMv, .inl (cZ, 2304, .inl (fun j => za_bi (Mv j)))), (aBr, .inl (cI, 576, .inl Br))]) (vp_Si (fun r => r = nI (za_fa Tg Co s t))) 0 0 (fun _ => False) := by
  refine za_reader (cc := zo_M_firstAttack) (maxL := 5) (ty := .int) (by decide) (Nat.le_of_ble_eq_true rfl) (fun _ _ => rfl) ?_
  intro p e sg m args below meth c H Q hx hb hml hts hown hP hK hN hret ls hl
  have hP : va_P D vwCl [(aO, .inr (5, [.ref aMv, .int mn, .ref aMc, .int (za_bi kn), .ref aBr, .ref aCd, .ref aNx, .int (nI mkc), .ref aMk, .int (nI mpl), .ref aAt, .ref aAs])), (aMv, .inl (cZ, 2304, .inl (fun j => za_bi (Mv j)))), (aBr, .inl (cI, 576, .inl Br))] H := hP
  have hl : lv_has ls 5 [(0, .ref aO), (1, .int (nI s)), (2, .int (nI t))] := hl
  have hf17 := hts _ zw_447
  obtain ⟨hb24, hb0⟩ := za_pl_iff.mp hpl
  refine lv_aload_n hx hb zd_M_firstAttack_0 rfl (lv_at hl 0 rfl) ?_
  refine va_get (D := D) (ci := 5) (v := .ref aBr) (C := zs_M) (T := zt_M) (N := 12) hx hb hts zi_M hown hK hP 0 rfl rfl 4 (by decide) hf17 (fun _ h9 => h9) rfl zd_M_firstAttack_1 ?_
  refine lv_bipush (v := nI 24) hx hb zd_M_firstAttack_4 (by decide) ?_
  refine lv_iload_n hx hb zd_M_firstAttack_6 rfl (lv_at hl 1 rfl) ?_
  refine za_mulN hx hb zd_M_firstAttack_7 ?_
  refine lv_iload_n hx hb zd_M_firstAttack_8 rfl (lv_at hl 2 rfl) ?_
  refine za_addN hx hb zd_M_firstAttack_9 ?_
  refine za_ild hx hb hK hP 2 0 rfl rfl (k := (24 * s) + t) (by omega) (by decide) zd_M_firstAttack_10 ?_
  refine za_eqi (y := nI (za_bn Tg Co s t)) (za_brs_bn hBr hs0 ht0 hb24) ?_
  refine lv_iconst (v := nI 1) hx hb zd_M_firstAttack_11 (by decide) ?_
  refine za_subN hx hb (by omega) zd_M_firstAttack_12 ?_
  refine lv_istore_n (lv' := [(3, .int (nI ((za_bn Tg Co s t) - 1))), (0, .ref aO), (1, .int (nI s)), (2, .int (nI t))]) hx hb zd_M_firstAttack_13 rfl hl (by decide) rfl (fun ls hl => ?_)
  refine lv_iconst (v := nI 0) hx hb zd_M_firstAttack_14 (by decide) ?_
  refine lv_istore (lv' := [(4, .int (nI 0)), (3, .int (nI ((za_bn Tg Co s t) - 1))), (0, .ref aO), (1, .int (nI s)), (2, .int (nI t))]) hx hb zd_M_firstAttack_15 hl (by decide) rfl (fun ls hl => ?_)
  have hC71 : ∀  (i3 : Nat) (ls : Array Slot), i3 = za_fa Tg Co s t → lv_has ls 5 [(0, .ref aO), (1, .int (nI s)), (2, .int (nI t)), (3, .int (nI ((za_bn Tg Co s t) - 1))), (4, .int (nI i3))] → W p ln e zr_M_firstAttack sg m args below meth c H [] 0 0 Q (F0 m 71 ls []) := by
    intro i3 ls he hl
    refine lv_iload hx hb zd_M_firstAttack_71 (lv_at hl 4 rfl) ?_
    exact hret _ _ _ (by first | with_reducible rfl | (rw [he])) zd_M_firstAttack_73
  have hC17 : ∀ (n17 : Nat) (i : Nat) (ls : Array Slot), 192 - i < n17 → i ≤ 192 → (∀ z, z < i → (fun z => !za_fq Tg Co s t z) z = true) → lv_has ls 5 [(0, .ref aO), (1, .int (nI s)), (2, .int (nI t)), (3, .int (nI ((za_bn Tg Co s t) - 1))), (4, .int (nI i))] → W p ln e zr_M_firstAttack sg m args below meth c H [] 0 0 Q (F0 m 17 ls []) := by
    intro n17
    induction n17 with
    | zero => intro i ls hn17 hi_i hq hl; exact absurd hn17 (Nat.not_lt_zero _)
    | succ n17 ih17 =>
      intro i ls hn17 hi_i hq hl
      refine lv_iload hx hb zd_M_firstAttack_17 (lv_at hl 4 rfl) ?_
      refine lv_sipush (v := nI 192) hx hb zd_M_firstAttack_19 (by decide) ?_
      refine lv_icmp_ge hx hb (tgt := 71) zd_M_firstAttack_22 (by decide) (fun h22 => ?_) (fun h22 => ?_)
      · have h22 := za_leN h22 (by omega) (by omega)
        exact hC71 i ls (by exact za_fq3 (show i = 192 by omega) hq) (lv_sub hl [0, 1, 2, 3, 4] rfl)
      · have h22 := za_nleN h22 (by omega) (by omega)
        refine lv_iload hx hb zd_M_firstAttack_25 (lv_at hl 4 rfl) ?_
        refine lv_bipush (v := nI 96) hx hb zd_M_firstAttack_27 (by decide) ?_
        refine lv_icmp_ge hx hb (tgt := 47) zd_M_firstAttack_29 (by decide) (fun h29 => ?_) (fun h29 => ?_)
        · have h29 := za_leN h29 (by omega) (by omega)
          refine lv_aload_n hx hb zd_M_firstAttack_47 rfl (lv_at hl 0 rfl) ?_
          refine lv_iload_n hx hb zd_M_firstAttack_48 rfl (lv_at hl 2 rfl) ?_
          refine lv_iload_n hx hb zd_M_firstAttack_49 rfl (lv_at hl 1 rfl) ?_
          refine lv_iload hx hb zd_M_firstAttack_50 (lv_at hl 4 rfl) ?_
          refine lv_bipush (v := nI 96) hx hb zd_M_firstAttack_52 (by decide) ?_
          refine za_subN hx hb (by omega) zd_M_firstAttack_54 ?_
          refine lv_iload_n hx hb zd_M_firstAttack_55 rfl (lv_at hl 3 rfl) ?_
          refine za_cV (As := [.int (nI t), .int (nI s), .int (nI (i - 96)), .int (nI ((za_bn Tg Co s t) - 1))]) (rest := []) ⟨hx, hb, hml, hown, hts⟩ (zc_M_isAttack ln D cI cZ aO aMv aMc aBr aCd aNx aMk aAt aAs mkc mpl mn kn Mv Br t s (i - 96) ((za_bn Tg Co s t) - 1) (by omega) (by omega) (by omega)) (za_gV 4 hts zw_591 zw_593 zw_30 zw_40 zw_594 (by decide +kernel) ⟨Nat.le_of_ble_eq_true rfl, Nat.le_of_ble_eq_true rfl⟩) hK hN hP [0, 1, 2] rfl (q0 := 0) rfl rfl hl rfl rfl (Nat.le_of_ble_eq_true rfl) zd_M_firstAttack_56 ⟨Nat.le_of_ble_eq_true rfl, Nat.le_of_ble_eq_true rfl⟩ ?_
          refine za_eqi (y := za_bi (za_at Tg Co t s (za_bn Tg Co s t - 1) (i - 96))) (by rw [za_mat_at hMv hBr (by omega) ht0 hs0 (by omega)]) ?_
          refine lv_if_ne hx hb (tgt := 71) zd_M_firstAttack_59 (by decide) (fun h59 => ?_) (fun h59 => ?_)
          · have h59 := za_bT h59
            exact hC71 i ls (by exact za_fq5 (by omega) (by omega) hq h59) (lv_sub hl [0, 1, 2, 3, 4] rfl)
          · have h59 := za_bF h59
            refine lv_iload hx hb zd_M_firstAttack_62 (lv_at hl 4 rfl) ?_
            refine lv_iconst (v := nI 1) hx hb zd_M_firstAttack_64 (by decide) ?_
            refine za_addN hx hb zd_M_firstAttack_65 ?_
            refine lv_istore (lv' := [(4, .int (nI (i + 1))), (0, .ref aO), (1, .int (nI s)), (2, .int (nI t)), (3, .int (nI ((za_bn Tg Co s t) - 1)))]) hx hb zd_M_firstAttack_66 hl (by decide) rfl (fun ls hl => ?_)
            refine lv_goto hx hb (tgt := 17) zd_M_firstAttack_68 (by decide) ?_
            exact ih17 (i + 1) ls (by omega) (by omega) (by exact za_all_s (p := (fun z => !za_fq Tg Co s t z)) hq (by first | exact za_fq1 (by omega) h41 | exact za_fq2 (by omega) h59)) (lv_sub hl [1, 2, 3, 4, 0] rfl)
        · have h29 := za_nleN h29 (by omega) (by omega)
          refine lv_aload_n hx hb zd_M_firstAttack_32 rfl (lv_at hl 0 rfl) ?_
          refine lv_iload_n hx hb zd_M_firstAttack_33 rfl (lv_at hl 1 rfl) ?_
          refine lv_iload_n hx hb zd_M_firstAttack_34 rfl (lv_at hl 2 rfl) ?_
          refine lv_iload hx hb zd_M_firstAttack_35 (lv_at hl 4 rfl) ?_
          refine lv_iload_n hx hb zd_M_firstAttack_37 rfl (lv_at hl 3 rfl) ?_
          refine za_cV (As := [.int (nI s), .int (nI t), .int (nI i), .int (nI ((za_bn Tg Co s t) - 1))]) (rest := []) ⟨hx, hb, hml, hown, hts⟩ (zc_M_isAttack ln D cI cZ aO aMv aMc aBr aCd aNx aMk aAt aAs mkc mpl mn kn Mv Br s t i ((za_bn Tg Co s t) - 1) (by omega) (by omega) (by omega)) (za_gV 4 hts zw_591 zw_593 zw_30 zw_40 zw_594 (by decide +kernel) ⟨Nat.le_of_ble_eq_true rfl, Nat.le_of_ble_eq_true rfl⟩) hK hN hP [0, 1, 2] rfl (q0 := 0) rfl rfl hl rfl rfl (Nat.le_of_ble_eq_true rfl) zd_M_firstAttack_38 ⟨Nat.le_of_ble_eq_true rfl, Nat.le_of_ble_eq_true rfl⟩ ?_
          refine za_eqi (y := za_bi (za_at Tg Co s t (za_bn Tg Co s t - 1) i)) (by rw [za_mat_at hMv hBr (by omega) hs0 ht0 (by omega)]) ?_
          refine lv_if_eq hx hb (tgt := 62) zd_M_firstAttack_41 (by decide) (fun h41 => ?_) (fun h41 => ?_)
          · have h41 := za_bF h41
            refine lv_iload hx hb zd_M_firstAttack_62 (lv_at hl 4 rfl) ?_
            refine lv_iconst (v := nI 1) hx hb zd_M_firstAttack_64 (by decide) ?_
            refine za_addN hx hb zd_M_firstAttack_65 ?_
            refine lv_istore (lv' := [(4, .int (nI (i + 1))), (0, .ref aO), (1, .int (nI s)), (2, .int (nI t)), (3, .int (nI ((za_bn Tg Co s t) - 1)))]) hx hb zd_M_firstAttack_66 hl (by decide) rfl (fun ls hl => ?_)
            refine lv_goto hx hb (tgt := 17) zd_M_firstAttack_68 (by decide) ?_
            exact ih17 (i + 1) ls (by omega) (by omega) (by exact za_all_s (p := (fun z => !za_fq Tg Co s t z)) hq (by first | exact za_fq1 (by omega) h41 | exact za_fq2 (by omega) h59)) (lv_sub hl [1, 2, 3, 4, 0] rfl)
          · have h41 := za_bT h41
            refine lv_goto hx hb (tgt := 71) zd_M_firstAttack_44 (by decide) ?_
            exact hC71 i ls (by exact za_fq4 (by omega) hq h41) (lv_sub hl [0, 1, 2, 3, 4] rfl)
  exact hC17 (192 - 0 + 1) 0 ls (Nat.lt_succ_self _) (by omega) (by exact fun z hz => absurd hz (Nat.not_lt_zero _)) (lv_sub hl [2, 3, 4, 1, 0] rfl)
def zr_M_answerOf : Room := { frames := 1, cells := 0, slots := 0, locals := 23 }
set_option maxHeartbeats 4000000 in
set_option maxRecDepth 100000 in
theorem zc_M_answerOf (ln : Launch) (D : va_G) (cI cZ : ClassId) (aO : Nat) (aMv : Nat) (aMc : Nat) (aBr : Nat) (aCd : Nat) (aNx : Nat) (aMk : Nat) (aAt : Nat) (aAs : Nat) (mkc : Nat) (mpl : Nat) (mn : Int32) (kn : Bool) (Mv : Nat → Bool) (Br : Nat → Int32) (Tg : Nat → Int32) (Co : Nat → Int32) (t : Nat) (l : Nat) (u : Nat) (hMv : za_rel Tg Mv) (hBr : za_brs Tg Co Br) (ht0 : t < 24) (hl0 : l < 4) (hu0 : u < 24) (han : (∀ v, v < 24 → bt (Tg (t * 4 + l)) v = true → za_bn Tg Co u v < 24)) : Met ln zm_M_answerOf (Cond.code zm_M_answerOf zo_M_answerOf 7 (some .int) :: zb_big) zr_M_answerOf (za_Pr D vwCl [(cI, .int), (cZ, .boolean)] [.ref aO, .int (nI t), .int (nI l), .int (nI u)] [(aO, .inr (5, [.ref aMv, .int mn, .ref aMc, .int (za_bi kn), .ref aBr, .ref aCd, .ref aNx, .int (nI mkc), .ref aMk, .int (nI mpl), .ref aAt, .ref aAs])), (aMv, .inl (cZ, 2304, .inl (fun j => za_bi (Mv j)))), (aBr, .inl (cI, 576, .inl Br))]) (vp_Si (fun r => r = za_ai (za_bs (Tg (t * 4 + l)) (za_bn Tg Co u) 24))) 0 0 (fun _ => False) := by
  refine za_reader (cc := zo_M_answerOf) (maxL := 7) (ty := .int) (by decide) (Nat.le_of_ble_eq_true rfl) (fun _ _ => rfl) ?_
  intro p e sg m args below meth c H Q hx hb hml hts hown hP hK hN hret ls hl
  have hP : va_P D vwCl [(aO, .inr (5, [.ref aMv, .int mn, .ref aMc, .int (za_bi kn), .ref aBr, .ref aCd, .ref aNx, .int (nI mkc), .ref aMk, .int (nI mpl), .ref aAt, .ref aAs])), (aMv, .inl (cZ, 2304, .inl (fun j => za_bi (Mv j)))), (aBr, .inl (cI, 576, .inl Br))] H := hP
  have hl : lv_has ls 7 [(0, .ref aO), (1, .int (nI t)), (2, .int (nI l)), (3, .int (nI u))] := hl
  have hf17 := hts _ zw_447
  refine lv_iconst (v := (-1)) hx hb zd_M_answerOf_0 (by decide) ?_
  refine lv_istore (lv' := [(4, .int (-1)), (0, .ref aO), (1, .int (nI t)), (2, .int (nI l)), (3, .int (nI u))]) hx hb zd_M_answerOf_1 hl (by decide) rfl (fun ls hl => ?_)
  refine lv_iconst (v := nI 0) hx hb zd_M_answerOf_3 (by decide) ?_
  refine lv_istore (lv' := [(5, .int (nI 0)), (4, .int (-1)), (0, .ref aO), (1, .int (nI t)), (2, .int (nI l)), (3, .int (nI u))]) hx hb zd_M_answerOf_4 hl (by decide) rfl (fun ls hl => ?_)
  have hC6 : ∀ (n6 : Nat) (i : Nat) (ls : Array Slot), 24 - i < n6 → i ≤ 24 → lv_has ls 7 [(0, .ref aO), (1, .int (nI t)), (2, .int (nI l)), (3, .int (nI u)), (4, .int (za_ai (za_bs (Tg (t * 4 + l)) (za_bn Tg Co u) i))), (5, .int (nI i))] → W p ln e zr_M_answerOf sg m args below meth c H [] 0 0 Q (F0 m 6 ls []) := by
    intro n6
    induction n6 with
    | zero => intro i ls hn6 hi_i hl; exact absurd hn6 (Nat.not_lt_zero _)
    | succ n6 ih6 =>
      intro i ls hn6 hi_i hl
      refine lv_iload hx hb zd_M_answerOf_6 (lv_at hl 5 rfl) ?_
      refine lv_bipush (v := nI 24) hx hb zd_M_answerOf_8 (by decide) ?_
      refine lv_icmp_ge hx hb (tgt := 83) zd_M_answerOf_10 (by decide) (fun h10 => ?_) (fun h10 => ?_)
      · have h10 := za_leN h10 (by omega) (by omega)
        refine lv_iload hx hb zd_M_answerOf_83 (lv_at hl 4 rfl) ?_
        exact hret _ _ _ (by first | with_reducible rfl | (rw [show i = 24 by omega])) zd_M_answerOf_85
      · have h10 := za_nleN h10 (by omega) (by omega)
        refine lv_aload_n hx hb zd_M_answerOf_13 rfl (lv_at hl 0 rfl) ?_
        refine lv_iload_n hx hb zd_M_answerOf_14 rfl (lv_at hl 1 rfl) ?_
        refine lv_iload_n hx hb zd_M_answerOf_15 rfl (lv_at hl 2 rfl) ?_
        refine lv_iload hx hb zd_M_answerOf_16 (lv_at hl 5 rfl) ?_
        refine za_cV (As := [.int (nI t), .int (nI l), .int (nI i)]) (rest := []) ⟨hx, hb, hml, hown, hts⟩ (zc_M_has ln D cI cZ aO aMv aMc aBr aCd aNx aMk aAt aAs mkc mpl mn kn Mv t l i (by omega) (by omega) (by omega)) (za_gV 3 hts zw_491 zw_493 zw_19 zw_40 zw_494 (by decide +kernel) ⟨Nat.le_of_ble_eq_true rfl, Nat.le_of_ble_eq_true rfl⟩) hK hN hP [0, 1] rfl (q0 := 0) rfl rfl hl rfl rfl (Nat.le_of_ble_eq_true rfl) zd_M_answerOf_18 ⟨Nat.le_of_ble_eq_true rfl, Nat.le_of_ble_eq_true rfl⟩ ?_
        refine za_eqi (y := za_bi (bt (Tg (t * 4 + l)) i)) (by rw [hMv t l i ht0 hl0 (by omega)]) ?_
        have hJ61 : ∀ v : Int32, v = za_bi (za_bt9 (Tg (t * 4 + l)) (za_bn Tg Co u) i) → W p ln e zr_M_answerOf sg m args below meth c H [] 0 0 Q (F0 m 61 ls [.int v]) := by
          intro v hv
          subst hv
          refine lv_istore (lv' := [(6, .int (za_bi (za_bt9 (Tg (t * 4 + l)) (za_bn Tg Co u) i))), (0, .ref aO), (1, .int (nI t)), (2, .int (nI l)), (3, .int (nI u)), (4, .int (za_ai (za_bs (Tg (t * 4 + l)) (za_bn Tg Co u) i))), (5, .int (nI i))]) hx hb zd_M_answerOf_61 hl (by decide) rfl (fun ls hl => ?_)
          refine lv_iload hx hb zd_M_answerOf_63 (lv_at hl 0 rfl) ?_
          refine lv_if_eq hx hb (tgt := 73) zd_M_answerOf_65 (by decide) (fun h65 => ?_) (fun h65 => ?_)
          · have h65 := za_bF h65
            refine lv_iload hx hb zd_M_answerOf_73 (lv_at hl 5 rfl) ?_
            refine lv_istore (lv' := [(4, .int (za_ai (za_bs (Tg (t * 4 + l)) (za_bn Tg Co u) i))), (6, .int (za_bi (za_bt9 (Tg (t * 4 + l)) (za_bn Tg Co u) i))), (0, .ref aO), (1, .int (nI t)), (2, .int (nI l)), (3, .int (nI u)), (5, .int (nI i))]) hx hb zd_M_answerOf_75 hl (by decide) rfl (fun ls hl => ?_)
            refine lv_iinc (k := 6) (v := nI (i + 1)) (lv' := [(5, .int (nI (i + 1))), (4, .int (za_ai (za_bs (Tg (t * 4 + l)) (za_bn Tg Co u) i))), (6, .int (za_bi (za_bt9 (Tg (t * 4 + l)) (za_bn Tg Co u) i))), (0, .ref aO), (1, .int (nI t)), (2, .int (nI l)), (3, .int (nI u))]) hx hb zd_M_answerOf_77 hl rfl (za_inc _) (by decide) rfl (fun ls hl => ?_)
            refine lv_goto hx hb (tgt := 6) zd_M_answerOf_80 (by decide) ?_
            have e1 : za_ai (za_bs (Tg (t * 4 + l)) (za_bn Tg Co u) (i + 1)) = za_ai (za_bs (Tg (t * 4 + l)) (za_bn Tg Co u) i) := by first | with_reducible rfl | (first | exact za_bs_t (by omega) h63 | exact za_bs_f h63)
            exact ih6 (i + 1) ls (by omega) (by omega) (by rw [e1]; exact lv_sub hl [3, 4, 5, 6, 1, 0] rfl)
          · have h65 := za_bT h65
            refine lv_iload hx hb zd_M_answerOf_68 (lv_at hl 6 rfl) ?_
            refine lv_goto hx hb (tgt := 75) zd_M_answerOf_70 (by decide) ?_
            refine lv_istore (lv' := [(4, .int (nI i)), (6, .int (za_bi (za_bt9 (Tg (t * 4 + l)) (za_bn Tg Co u) i))), (0, .ref aO), (1, .int (nI t)), (2, .int (nI l)), (3, .int (nI u)), (5, .int (nI i))]) hx hb zd_M_answerOf_75 hl (by decide) rfl (fun ls hl => ?_)
            refine lv_iinc (k := 6) (v := nI (i + 1)) (lv' := [(5, .int (nI (i + 1))), (4, .int (nI i)), (6, .int (za_bi (za_bt9 (Tg (t * 4 + l)) (za_bn Tg Co u) i))), (0, .ref aO), (1, .int (nI t)), (2, .int (nI l)), (3, .int (nI u))]) hx hb zd_M_answerOf_77 hl rfl (za_inc _) (by decide) rfl (fun ls hl => ?_)
            refine lv_goto hx hb (tgt := 6) zd_M_answerOf_80 (by decide) ?_
            have e1 : za_ai (za_bs (Tg (t * 4 + l)) (za_bn Tg Co u) (i + 1)) = nI i := by first | with_reducible rfl | (first | exact za_bs_t (by omega) h63 | exact za_bs_f h63)
            exact ih6 (i + 1) ls (by omega) (by omega) (by rw [e1]; exact lv_sub hl [3, 4, 5, 6, 1, 0] rfl)
        refine lv_if_eq hx hb (tgt := 60) zd_M_answerOf_21 (by decide) (fun h21 => ?_) (fun h21 => ?_)
        · have h21 := za_bF h21
          refine lv_iconst (v := nI 0) hx hb zd_M_answerOf_60 (by decide) ?_
          exact hJ61 _ (za_b0 (by first | exact za_bt1 h21 | exact za_bt2 (by omega) h21 h26 | exact za_bt3 hbl h53 | exact za_bt4 h21 h53))
        · have h21 := za_bT h21
          refine lv_iload hx hb zd_M_answerOf_24 (lv_at hl 4 rfl) ?_
          refine lv_if_lt hx hb (tgt := 56) zd_M_answerOf_26 (by decide) (fun h26 => ?_) (fun h26 => ?_)
          · skip
            refine lv_iconst (v := nI 1) hx hb zd_M_answerOf_56 (by decide) ?_
            refine lv_goto hx hb (tgt := 61) zd_M_answerOf_57 (by decide) ?_
            exact hJ61 _ (za_b1 (by first | exact za_bt1 h21 | exact za_bt2 (by omega) h21 h26 | exact za_bt3 hbl h53 | exact za_bt4 h21 h53))
          · skip
            obtain ⟨hb1, hbl, hbb⟩ := za_ai_of (show i ≤ 24 by omega) h26
            have hbn1 := han i (by omega) h21
            have hbn2 := han _ hbl hbb
            have hl : lv_has ls 7 [(0, .ref aO), (1, .int (nI t)), (2, .int (nI l)), (3, .int (nI u)), (4, .int (nI (za_bs (Tg (t * 4 + l)) (za_bn Tg Co u) i))), (5, .int (nI i))] := by rw [← hb1]; exact hl
            refine lv_aload_n hx hb zd_M_answerOf_29 rfl (lv_at hl 0 rfl) ?_
            refine va_get (D := D) (ci := 5) (v := .ref aBr) (C := zs_M) (T := zt_M) (N := 12) hx hb hts zi_M hown hK hP 0 rfl rfl 4 (by decide) hf17 (fun _ h9 => h9) rfl zd_M_answerOf_30 ?_
            refine lv_bipush (v := nI 24) hx hb zd_M_answerOf_33 (by decide) ?_
            refine lv_iload_n hx hb zd_M_answerOf_35 rfl (lv_at hl 3 rfl) ?_
            refine za_mulN hx hb zd_M_answerOf_36 ?_
            refine lv_iload hx hb zd_M_answerOf_37 (lv_at hl 5 rfl) ?_
            refine za_addN hx hb zd_M_answerOf_39 ?_
            refine za_ild hx hb hK hP 2 0 rfl rfl (k := (24 * u) + i) (by omega) (by decide) zd_M_answerOf_40 ?_
            refine za_eqi (y := nI (za_bn Tg Co u i)) (za_brs_bn hBr hu0 (by omega) (han i (by omega) h21)) ?_
            refine lv_aload_n hx hb zd_M_answerOf_41 rfl (lv_at hl 0 rfl) ?_
            refine va_get (D := D) (ci := 5) (v := .ref aBr) (C := zs_M) (T := zt_M) (N := 12) hx hb hts zi_M hown hK hP 0 rfl rfl 4 (by decide) hf17 (fun _ h9 => h9) rfl zd_M_answerOf_42 ?_
            refine lv_bipush (v := nI 24) hx hb zd_M_answerOf_45 (by decide) ?_
            refine lv_iload_n hx hb zd_M_answerOf_47 rfl (lv_at hl 3 rfl) ?_
            refine za_mulN hx hb zd_M_answerOf_48 ?_
            refine lv_iload hx hb zd_M_answerOf_49 (lv_at hl 4 rfl) ?_
            refine za_addN hx hb zd_M_answerOf_51 ?_
            refine za_ild hx hb hK hP 2 0 rfl rfl (k := (24 * u) + (za_bs (Tg (t * 4 + l)) (za_bn Tg Co u) i)) (by omega) (by decide) zd_M_answerOf_52 ?_
            refine za_eqi (y := nI (za_bn Tg Co u (za_bs (Tg (t * 4 + l)) (za_bn Tg Co u) i))) (za_brs_bn hBr hu0 hbl (han _ hbl hbb)) ?_
            refine lv_icmp_le hx hb (tgt := 60) zd_M_answerOf_53 (by decide) (fun h53 => ?_) (fun h53 => ?_)
            · have h53 := za_leN h53 (by omega) (by omega)
              refine lv_iconst (v := nI 0) hx hb zd_M_answerOf_60 (by decide) ?_
              exact hJ61 _ (za_b0 (by first | exact za_bt1 h21 | exact za_bt2 (by omega) h21 h26 | exact za_bt3 hbl h53 | exact za_bt4 h21 h53))
            · have h53 := za_nleN h53 (by omega) (by omega)
              refine lv_iconst (v := nI 1) hx hb zd_M_answerOf_56 (by decide) ?_
              refine lv_goto hx hb (tgt := 61) zd_M_answerOf_57 (by decide) ?_
              exact hJ61 _ (za_b1 (by first | exact za_bt1 h21 | exact za_bt2 (by omega) h21 h26 | exact za_bt3 hbl h53 | exact za_bt4 h21 h53))
  have e1 : za_ai (za_bs (Tg (t * 4 + l)) (za_bn Tg Co u) 0) = (-1) := by first | with_reducible rfl | (rfl)
  exact hC6 (24 - 0 + 1) 0 ls (Nat.lt_succ_self _) (by omega) (by rw [e1]; exact lv_sub hl [2, 3, 4, 5, 1, 0] rfl)
