def zr_M_move : Room := { frames := 1, cells := 0, slots := 0, locals := 23 }
set_option maxHeartbeats 4000000 in
set_option maxRecDepth 100000 in
theorem zc_M_move (ln : Launch) (D : va_G) (cI cZ : ClassId) (sz : Nat) (aO : Nat) (aMv : Nat) (aMc : Nat) (aBr : Nat) (aCd : Nat) (aNx : Nat) (aMk : Nat) (aAt : Nat) (aAs : Nat) (mkc : Nat) (mpl : Nat) (mn : Int32) (kn : Bool) (Mv : Nat → Bool) (w : Int32) (x0 : Int32) (v : Int32) : Met ln zm_M_move (Cond.code zm_M_move zo_M_move 4 (some .boolean) :: zb_big) zr_M_move (za_Pw D vwCl [(cI, .int), (cZ, .boolean)] [.ref aO, .int w, .int x0, .int v] [(aO, .inr (5, [.ref aMv, .int mn, .ref aMc, .int (za_bi kn), .ref aBr, .ref aCd, .ref aNx, .int (nI mkc), .ref aMk, .int (nI mpl), .ref aAt, .ref aAs])), (aMv, .inl (cZ, 2304, .inl (fun j => za_bi (Mv j))))] sz) (va_Qi (fun (r : Int32) (_u : Unit) => r = za_bi (za_Mok Mv mn w x0 v)) (za_B D vwCl [(aO, .inr (5, [.ref aMv, .int mn, .ref aMc, .int (za_bi kn), .ref aBr, .ref aCd, .ref aNx, .int (nI mkc), .ref aMk, .int (nI mpl), .ref aAt, .ref aAs])), (aMv, .inl (cZ, 2304, .inl (fun j => za_bi (Mv j))))] sz (fun (_u : Unit) => [(aO, .inr (5, [.ref aMv, .int (za_Mct Mv mn w x0 v), .ref aMc, .int (za_bi (kn && !za_Mok Mv mn w x0 v)), .ref aBr, .ref aCd, .ref aNx, .int (nI mkc), .ref aMk, .int (nI mpl), .ref aAt, .ref aAs])), (aMv, .inl (cZ, 2304, .inl (fun j => za_bi (za_MvT Mv mn w x0 v j))))])) (va_A [(aO, .inr (5, [.ref aMv, .int mn, .ref aMc, .int (za_bi kn), .ref aBr, .ref aCd, .ref aNx, .int (nI mkc), .ref aMk, .int (nI mpl), .ref aAt, .ref aAs])), (aMv, .inl (cZ, 2304, .inl (fun j => za_bi (Mv j))))] sz)) 0 0 (va_A [(aO, .inr (5, [.ref aMv, .int mn, .ref aMc, .int (za_bi kn), .ref aBr, .ref aCd, .ref aNx, .int (nI mkc), .ref aMk, .int (nI mpl), .ref aAt, .ref aAs])), (aMv, .inl (cZ, 2304, .inl (fun j => za_bi (Mv j))))] sz) := by
  refine za_wi (cc := zo_M_move) (maxL := 4) (ty := .boolean) (by decide) (Nat.le_of_ble_eq_true rfl) (fun _ _ h => by rw [h]; exact za_nar _) ?_
  intro p e sg m args below meth c H0 A Q hx hb hml hts hown hmn hP hK hN hD hA hS hret ls hl
  have hP : va_P D vwCl [(aO, .inr (5, [.ref aMv, .int mn, .ref aMc, .int (za_bi kn), .ref aBr, .ref aCd, .ref aNx, .int (nI mkc), .ref aMk, .int (nI mpl), .ref aAt, .ref aAs])), (aMv, .inl (cZ, 2304, .inl (fun j => za_bi (Mv j))))] H0 := hP
  have hD : va_D A [(aO, .inr (5, [.ref aMv, .int mn, .ref aMc, .int (za_bi kn), .ref aBr, .ref aCd, .ref aNx, .int (nI mkc), .ref aMk, .int (nI mpl), .ref aAt, .ref aAs])), (aMv, .inl (cZ, 2304, .inl (fun j => za_bi (Mv j))))] := hD
  have hl : lv_has ls 4 [(0, .ref aO), (1, .int w), (2, .int x0), (3, .int v)] := hl
  have hf46 := hts _ zw_444
  have hf7 := hts _ zw_443
  have hf50 := hts _ zw_446
  refine lv_iload_n hx hb zd_M_move_0 rfl (lv_at hl 1 rfl) ?_
  refine za_cS (As := [.int w]) (rest := []) ⟨hx, hb, hml, hown, hts⟩ (zc_M_isState ln D cI cZ w ) (za_gS 1 hts zw_485 zw_486 zw_40 zw_487 (by decide +kernel) ⟨Nat.le_of_ble_eq_true rfl, Nat.le_of_ble_eq_true rfl⟩) hK hN hP [] rfl hl rfl rfl (Nat.le_of_ble_eq_true rfl) zd_M_move_1 ⟨Nat.le_of_ble_eq_true rfl, Nat.le_of_ble_eq_true rfl⟩ ?_
  refine lv_if_eq hx hb (tgt := 40) zd_M_move_4 (by decide) (fun h4 => ?_) (fun h4 => ?_)
  · have h4 := za_bF h4
    have hm : za_Mok Mv mn w x0 v = false := by first | (simp [za_Mok, h4]; done) | (simp [za_Mok, h11]; done) | (simp [za_Mok, h18]; done) | (simp [za_Mok, hw, hx9, hv9, za_clS hs0, za_clL hl0, za_clS ht0, h28]; done) | simp [za_Mok, h37]
    refine lv_iconst (v := nI 0) hx hb zd_M_move_40 (by decide) ?_
    have e1 : za_Mct Mv mn w x0 v = mn := by first | with_reducible rfl | (first | (simp [za_MvT, za_Mct, hm]; done) | (unfold za_MvT; rw [if_pos hm, hw, hx9, hv9, za_clS hs0, za_clL hl0, za_clS ht0]))
    have e2 : za_bi (kn && !za_Mok Mv mn w x0 v) = za_bi kn := by first | with_reducible rfl | (first | (simp [za_MvT, za_Mct, hm]; done) | (unfold za_MvT; rw [if_pos hm, hw, hx9, hv9, za_clS hs0, za_clL hl0, za_clS ht0]))
    have e3 : za_MvT Mv mn w x0 v = Mv := by first | with_reducible rfl | (first | (simp [za_MvT, za_Mct, hm]; done) | (unfold za_MvT; rw [if_pos hm, hw, hx9, hv9, za_clS hs0, za_clL hl0, za_clS ht0]))
    have hP9 : va_P D vwCl [(aO, .inr (5, [.ref aMv, .int (za_Mct Mv mn w x0 v), .ref aMc, .int (za_bi (kn && !za_Mok Mv mn w x0 v)), .ref aBr, .ref aCd, .ref aNx, .int (nI mkc), .ref aMk, .int (nI mpl), .ref aAt, .ref aAs])), (aMv, .inl (cZ, 2304, .inl (fun j => za_bi (za_MvT Mv mn w x0 v j))))] H0 := by rw [e1, e2, e3]; exact hP
    have hD9 : va_D A [(aO, .inr (5, [.ref aMv, .int (za_Mct Mv mn w x0 v), .ref aMc, .int (za_bi (kn && !za_Mok Mv mn w x0 v)), .ref aBr, .ref aCd, .ref aNx, .int (nI mkc), .ref aMk, .int (nI mpl), .ref aAt, .ref aAs])), (aMv, .inl (cZ, 2304, .inl (fun j => za_bi (za_MvT Mv mn w x0 v j))))] := by rw [e1, e2, e3]; exact hD
    exact hret _ () _ _ _ _ (za_b0 (by exact hm)) hP9 hD9 hS zd_M_move_41
  · have h4 := za_bT h4
    obtain ⟨s, hs0, hw⟩ := za_isS_of h4
    have hl : lv_has ls 4 [(0, .ref aO), (1, .int (nI s)), (2, .int x0), (3, .int v)] := by rw [← hw]; exact hl
    refine lv_iload_n hx hb zd_M_move_7 rfl (lv_at hl 2 rfl) ?_
    refine za_cS (As := [.int x0]) (rest := []) ⟨hx, hb, hml, hown, hts⟩ (zc_M_isLabel ln D cI cZ x0 ) (za_gS 1 hts zw_488 zw_489 zw_40 zw_490 (by decide +kernel) ⟨Nat.le_of_ble_eq_true rfl, Nat.le_of_ble_eq_true rfl⟩) hK hN hP [] rfl hl rfl rfl (Nat.le_of_ble_eq_true rfl) zd_M_move_8 ⟨Nat.le_of_ble_eq_true rfl, Nat.le_of_ble_eq_true rfl⟩ ?_
    refine lv_if_eq hx hb (tgt := 40) zd_M_move_11 (by decide) (fun h11 => ?_) (fun h11 => ?_)
    · have h11 := za_bF h11
      have hm : za_Mok Mv mn w x0 v = false := by first | (simp [za_Mok, h4]; done) | (simp [za_Mok, h11]; done) | (simp [za_Mok, h18]; done) | (simp [za_Mok, hw, hx9, hv9, za_clS hs0, za_clL hl0, za_clS ht0, h28]; done) | simp [za_Mok, h37]
      refine lv_iconst (v := nI 0) hx hb zd_M_move_40 (by decide) ?_
      have e1 : za_Mct Mv mn w x0 v = mn := by first | with_reducible rfl | (first | (simp [za_MvT, za_Mct, hm]; done) | (unfold za_MvT; rw [if_pos hm, hw, hx9, hv9, za_clS hs0, za_clL hl0, za_clS ht0]))
      have e2 : za_bi (kn && !za_Mok Mv mn w x0 v) = za_bi kn := by first | with_reducible rfl | (first | (simp [za_MvT, za_Mct, hm]; done) | (unfold za_MvT; rw [if_pos hm, hw, hx9, hv9, za_clS hs0, za_clL hl0, za_clS ht0]))
      have e3 : za_MvT Mv mn w x0 v = Mv := by first | with_reducible rfl | (first | (simp [za_MvT, za_Mct, hm]; done) | (unfold za_MvT; rw [if_pos hm, hw, hx9, hv9, za_clS hs0, za_clL hl0, za_clS ht0]))
      have hP9 : va_P D vwCl [(aO, .inr (5, [.ref aMv, .int (za_Mct Mv mn w x0 v), .ref aMc, .int (za_bi (kn && !za_Mok Mv mn w x0 v)), .ref aBr, .ref aCd, .ref aNx, .int (nI mkc), .ref aMk, .int (nI mpl), .ref aAt, .ref aAs])), (aMv, .inl (cZ, 2304, .inl (fun j => za_bi (za_MvT Mv mn w x0 v j))))] H0 := by rw [e1, e2, e3]; exact hP
      have hD9 : va_D A [(aO, .inr (5, [.ref aMv, .int (za_Mct Mv mn w x0 v), .ref aMc, .int (za_bi (kn && !za_Mok Mv mn w x0 v)), .ref aBr, .ref aCd, .ref aNx, .int (nI mkc), .ref aMk, .int (nI mpl), .ref aAt, .ref aAs])), (aMv, .inl (cZ, 2304, .inl (fun j => za_bi (za_MvT Mv mn w x0 v j))))] := by rw [e1, e2, e3]; exact hD
      exact hret _ () _ _ _ _ (za_b0 (by exact hm)) hP9 hD9 hS zd_M_move_41
    · have h11 := za_bT h11
      obtain ⟨l, hl0, hx9⟩ := za_isL_of h11
      have hl : lv_has ls 4 [(0, .ref aO), (1, .int (nI s)), (2, .int (nI l)), (3, .int v)] := by rw [← hx9]; exact hl
      refine lv_iload_n hx hb zd_M_move_14 rfl (lv_at hl 3 rfl) ?_
      refine za_cS (As := [.int v]) (rest := []) ⟨hx, hb, hml, hown, hts⟩ (zc_M_isState ln D cI cZ v ) (za_gS 1 hts zw_485 zw_486 zw_40 zw_487 (by decide +kernel) ⟨Nat.le_of_ble_eq_true rfl, Nat.le_of_ble_eq_true rfl⟩) hK hN hP [] rfl hl rfl rfl (Nat.le_of_ble_eq_true rfl) zd_M_move_15 ⟨Nat.le_of_ble_eq_true rfl, Nat.le_of_ble_eq_true rfl⟩ ?_
      refine lv_if_eq hx hb (tgt := 40) zd_M_move_18 (by decide) (fun h18 => ?_) (fun h18 => ?_)
      · have h18 := za_bF h18
        have hm : za_Mok Mv mn w x0 v = false := by first | (simp [za_Mok, h4]; done) | (simp [za_Mok, h11]; done) | (simp [za_Mok, h18]; done) | (simp [za_Mok, hw, hx9, hv9, za_clS hs0, za_clL hl0, za_clS ht0, h28]; done) | simp [za_Mok, h37]
        refine lv_iconst (v := nI 0) hx hb zd_M_move_40 (by decide) ?_
        have e1 : za_Mct Mv mn w x0 v = mn := by first | with_reducible rfl | (first | (simp [za_MvT, za_Mct, hm]; done) | (unfold za_MvT; rw [if_pos hm, hw, hx9, hv9, za_clS hs0, za_clL hl0, za_clS ht0]))
        have e2 : za_bi (kn && !za_Mok Mv mn w x0 v) = za_bi kn := by first | with_reducible rfl | (first | (simp [za_MvT, za_Mct, hm]; done) | (unfold za_MvT; rw [if_pos hm, hw, hx9, hv9, za_clS hs0, za_clL hl0, za_clS ht0]))
        have e3 : za_MvT Mv mn w x0 v = Mv := by first | with_reducible rfl | (first | (simp [za_MvT, za_Mct, hm]; done) | (unfold za_MvT; rw [if_pos hm, hw, hx9, hv9, za_clS hs0, za_clL hl0, za_clS ht0]))
        have hP9 : va_P D vwCl [(aO, .inr (5, [.ref aMv, .int (za_Mct Mv mn w x0 v), .ref aMc, .int (za_bi (kn && !za_Mok Mv mn w x0 v)), .ref aBr, .ref aCd, .ref aNx, .int (nI mkc), .ref aMk, .int (nI mpl), .ref aAt, .ref aAs])), (aMv, .inl (cZ, 2304, .inl (fun j => za_bi (za_MvT Mv mn w x0 v j))))] H0 := by rw [e1, e2, e3]; exact hP
        have hD9 : va_D A [(aO, .inr (5, [.ref aMv, .int (za_Mct Mv mn w x0 v), .ref aMc, .int (za_bi (kn && !za_Mok Mv mn w x0 v)), .ref aBr, .ref aCd, .ref aNx, .int (nI mkc), .ref aMk, .int (nI mpl), .ref aAt, .ref aAs])), (aMv, .inl (cZ, 2304, .inl (fun j => za_bi (za_MvT Mv mn w x0 v j))))] := by rw [e1, e2, e3]; exact hD
        exact hret _ () _ _ _ _ (za_b0 (by exact hm)) hP9 hD9 hS zd_M_move_41
      · have h18 := za_bT h18
        obtain ⟨t, ht0, hv9⟩ := za_isS_of h18
        have hl : lv_has ls 4 [(0, .ref aO), (1, .int (nI s)), (2, .int (nI l)), (3, .int (nI t))] := by rw [← hv9]; exact hl
        refine lv_aload_n hx hb zd_M_move_21 rfl (lv_at hl 0 rfl) ?_
        refine lv_iload_n hx hb zd_M_move_22 rfl (lv_at hl 1 rfl) ?_
        refine lv_iload_n hx hb zd_M_move_23 rfl (lv_at hl 2 rfl) ?_
        refine lv_iload_n hx hb zd_M_move_24 rfl (lv_at hl 3 rfl) ?_
        refine za_cV (As := [.int (nI s), .int (nI l), .int (nI t)]) (rest := []) ⟨hx, hb, hml, hown, hts⟩ (zc_M_has ln D cI cZ aO aMv aMc aBr aCd aNx aMk aAt aAs mkc mpl mn kn Mv s l t (by omega) (by omega) (by omega)) (za_gV 3 hts zw_491 zw_493 zw_19 zw_40 zw_494 (by decide +kernel) ⟨Nat.le_of_ble_eq_true rfl, Nat.le_of_ble_eq_true rfl⟩) hK hN hP [0, 1] rfl (q0 := 0) rfl rfl hl rfl rfl (Nat.le_of_ble_eq_true rfl) zd_M_move_25 ⟨Nat.le_of_ble_eq_true rfl, Nat.le_of_ble_eq_true rfl⟩ ?_
        refine lv_if_ne hx hb (tgt := 40) zd_M_move_28 (by decide) (fun h28 => ?_) (fun h28 => ?_)
        · have h28 := za_bT h28
          have hm : za_Mok Mv mn w x0 v = false := by first | (simp [za_Mok, h4]; done) | (simp [za_Mok, h11]; done) | (simp [za_Mok, h18]; done) | (simp [za_Mok, hw, hx9, hv9, za_clS hs0, za_clL hl0, za_clS ht0, h28]; done) | simp [za_Mok, h37]
          refine lv_iconst (v := nI 0) hx hb zd_M_move_40 (by decide) ?_
          have e1 : za_Mct Mv mn w x0 v = mn := by first | with_reducible rfl | (first | (simp [za_MvT, za_Mct, hm]; done) | (unfold za_MvT; rw [if_pos hm, hw, hx9, hv9, za_clS hs0, za_clL hl0, za_clS ht0]))
          have e2 : za_bi (kn && !za_Mok Mv mn w x0 v) = za_bi kn := by first | with_reducible rfl | (first | (simp [za_MvT, za_Mct, hm]; done) | (unfold za_MvT; rw [if_pos hm, hw, hx9, hv9, za_clS hs0, za_clL hl0, za_clS ht0]))
          have e3 : za_MvT Mv mn w x0 v = Mv := by first | with_reducible rfl | (first | (simp [za_MvT, za_Mct, hm]; done) | (unfold za_MvT; rw [if_pos hm, hw, hx9, hv9, za_clS hs0, za_clL hl0, za_clS ht0]))
          have hP9 : va_P D vwCl [(aO, .inr (5, [.ref aMv, .int (za_Mct Mv mn w x0 v), .ref aMc, .int (za_bi (kn && !za_Mok Mv mn w x0 v)), .ref aBr, .ref aCd, .ref aNx, .int (nI mkc), .ref aMk, .int (nI mpl), .ref aAt, .ref aAs])), (aMv, .inl (cZ, 2304, .inl (fun j => za_bi (za_MvT Mv mn w x0 v j))))] H0 := by rw [e1, e2, e3]; exact hP
          have hD9 : va_D A [(aO, .inr (5, [.ref aMv, .int (za_Mct Mv mn w x0 v), .ref aMc, .int (za_bi (kn && !za_Mok Mv mn w x0 v)), .ref aBr, .ref aCd, .ref aNx, .int (nI mkc), .ref aMk, .int (nI mpl), .ref aAt, .ref aAs])), (aMv, .inl (cZ, 2304, .inl (fun j => za_bi (za_MvT Mv mn w x0 v j))))] := by rw [e1, e2, e3]; exact hD
          exact hret _ () _ _ _ _ (za_b0 (by exact hm)) hP9 hD9 hS zd_M_move_41
        · have h28 := za_bF h28
          refine lv_aload_n hx hb zd_M_move_31 rfl (lv_at hl 0 rfl) ?_
          refine va_get (D := D) (ci := 5) (v := .int mn) (C := zs_M) (T := zt_M) (N := 12) hx hb hts zi_M hown hK hP 0 rfl rfl 1 (by decide) hf46 (fun _ h9 => h9) rfl zd_M_move_32 ?_
          refine lv_bipush (v := nI 120) hx hb zd_M_move_35 (by decide) ?_
          refine lv_icmp_ne hx hb (tgt := 42) zd_M_move_37 (by decide) (fun h37 => ?_) (fun h37 => ?_)
          · skip
            have hm : za_Mok Mv mn w x0 v = true := by unfold za_Mok; rw [h4, h11, h18, hw, hx9, hv9, za_clS hs0, za_clL hl0, za_clS ht0, h28, decide_eq_false h37]; rfl
            refine lv_aload_n hx hb zd_M_move_42 rfl (lv_at hl 0 rfl) ?_
            refine va_get (D := D) (ci := 5) (v := .ref aMv) (C := zs_M) (T := zt_M) (N := 12) hx hb hts zi_M hown hK hP 0 rfl rfl 0 (by decide) hf7 (fun _ h9 => h9) rfl zd_M_move_43 ?_
            refine lv_bipush (v := nI 96) hx hb zd_M_move_46 (by decide) ?_
            refine lv_iload_n hx hb zd_M_move_48 rfl (lv_at hl 1 rfl) ?_
            refine za_mulN hx hb zd_M_move_49 ?_
            refine lv_bipush (v := nI 24) hx hb zd_M_move_50 (by decide) ?_
            refine lv_iload_n hx hb zd_M_move_52 rfl (lv_at hl 2 rfl) ?_
            refine za_mulN hx hb zd_M_move_53 ?_
            refine za_addN hx hb zd_M_move_54 ?_
            refine lv_iload_n hx hb zd_M_move_55 rfl (lv_at hl 3 rfl) ?_
            refine za_addN hx hb zd_M_move_56 ?_
            refine lv_iconst (v := nI 1) hx hb zd_M_move_57 (by decide) ?_
            refine za_eqi (y := za_bi true) rfl ?_
            refine za_zst hx hb hK hP hD hS 1 1 rfl rfl (k := ((96 * s) + (24 * l)) + t) (b := true) (by omega) (by decide) zd_M_move_58 (fun H locs hP hD hS => ?_)
            have hP : va_P D vwCl [(aO, .inr (5, [.ref aMv, .int mn, .ref aMc, .int (za_bi kn), .ref aBr, .ref aCd, .ref aNx, .int (nI mkc), .ref aMk, .int (nI mpl), .ref aAt, .ref aAs])), (aMv, .inl (cZ, 2304, .inl (fun j => za_bi (za_ub Mv (((96 * s) + (24 * l)) + t) true j))))] H := hP
            have hD : va_D A [(aO, .inr (5, [.ref aMv, .int mn, .ref aMc, .int (za_bi kn), .ref aBr, .ref aCd, .ref aNx, .int (nI mkc), .ref aMk, .int (nI mpl), .ref aAt, .ref aAs])), (aMv, .inl (cZ, 2304, .inl (fun j => za_bi (za_ub Mv (((96 * s) + (24 * l)) + t) true j))))] := hD
            refine lv_aload_n hx hb zd_M_move_59 rfl (lv_at hl 0 rfl) ?_
            refine lv_aload_n hx hb zd_M_move_60 rfl (lv_at hl 0 rfl) ?_
            refine va_get (D := D) (ci := 5) (v := .int mn) (C := zs_M) (T := zt_M) (N := 12) hx hb hts zi_M hown hK hP 0 rfl rfl 1 (by decide) hf46 (fun _ h9 => h9) rfl zd_M_move_61 ?_
            refine lv_iconst (v := nI 1) hx hb zd_M_move_64 (by decide) ?_
            refine lv_iadd hx hb zd_M_move_65 ?_
            refine va_put (D := D) (ci := 5) (v := .int (mn + (nI 1))) (ty := .int) (C := zs_M) (T := zt_M) (N := 12) hx hb hts zi_M zy_M zk_M zn_M hown hK hP hD hS 0 rfl rfl 1 (by decide) hf46 (fun _ h9 => h9) rfl (by decide +kernel) rfl rfl (Nat.le_of_ble_eq_true rfl) zd_M_move_66 (fun H locs hP hD hS => ?_)
            have hP : va_P D vwCl [(aO, .inr (5, [.ref aMv, .int (mn + (nI 1)), .ref aMc, .int (za_bi kn), .ref aBr, .ref aCd, .ref aNx, .int (nI mkc), .ref aMk, .int (nI mpl), .ref aAt, .ref aAs])), (aMv, .inl (cZ, 2304, .inl (fun j => za_bi (za_ub Mv (((96 * s) + (24 * l)) + t) true j))))] H := hP
            have hD : va_D A [(aO, .inr (5, [.ref aMv, .int (mn + (nI 1)), .ref aMc, .int (za_bi kn), .ref aBr, .ref aCd, .ref aNx, .int (nI mkc), .ref aMk, .int (nI mpl), .ref aAt, .ref aAs])), (aMv, .inl (cZ, 2304, .inl (fun j => za_bi (za_ub Mv (((96 * s) + (24 * l)) + t) true j))))] := hD
            refine lv_aload_n hx hb zd_M_move_69 rfl (lv_at hl 0 rfl) ?_
            refine lv_iconst (v := nI 0) hx hb zd_M_move_70 (by decide) ?_
            refine za_eqi (y := za_bi false) rfl ?_
            refine va_put (D := D) (ci := 5) (v := .int (za_bi false)) (ty := .boolean) (C := zs_M) (T := zt_M) (N := 12) hx hb hts zi_M zy_M zk_M zn_M hown hK hP hD hS 0 rfl rfl 3 (by decide) hf50 (fun _ h9 => h9) rfl (by decide +kernel) (za_nar _) (za_fit _) (Nat.le_of_ble_eq_true rfl) zd_M_move_71 (fun H locs hP hD hS => ?_)
            have hP : va_P D vwCl [(aO, .inr (5, [.ref aMv, .int (mn + (nI 1)), .ref aMc, .int (za_bi false), .ref aBr, .ref aCd, .ref aNx, .int (nI mkc), .ref aMk, .int (nI mpl), .ref aAt, .ref aAs])), (aMv, .inl (cZ, 2304, .inl (fun j => za_bi (za_ub Mv (((96 * s) + (24 * l)) + t) true j))))] H := hP
            have hD : va_D A [(aO, .inr (5, [.ref aMv, .int (mn + (nI 1)), .ref aMc, .int (za_bi false), .ref aBr, .ref aCd, .ref aNx, .int (nI mkc), .ref aMk, .int (nI mpl), .ref aAt, .ref aAs])), (aMv, .inl (cZ, 2304, .inl (fun j => za_bi (za_ub Mv (((96 * s) + (24 * l)) + t) true j))))] := hD
            refine lv_iconst (v := nI 1) hx hb zd_M_move_74 (by decide) ?_
            have e1 : za_Mct Mv mn w x0 v = (mn + (nI 1)) := by first | with_reducible rfl | (first | (simp [za_MvT, za_Mct, hm]; done) | (unfold za_MvT; rw [if_pos hm, hw, hx9, hv9, za_clS hs0, za_clL hl0, za_clS ht0]))
            have e2 : za_bi (kn && !za_Mok Mv mn w x0 v) = za_bi false := by first | with_reducible rfl | (first | (simp [za_MvT, za_Mct, hm]; done) | (unfold za_MvT; rw [if_pos hm, hw, hx9, hv9, za_clS hs0, za_clL hl0, za_clS ht0]))
            have e3 : za_MvT Mv mn w x0 v = za_ub Mv (((96 * s) + (24 * l)) + t) true := by first | with_reducible rfl | (first | (simp [za_MvT, za_Mct, hm]; done) | (unfold za_MvT; rw [if_pos hm, hw, hx9, hv9, za_clS hs0, za_clL hl0, za_clS ht0]))
            have hP9 : va_P D vwCl [(aO, .inr (5, [.ref aMv, .int (za_Mct Mv mn w x0 v), .ref aMc, .int (za_bi (kn && !za_Mok Mv mn w x0 v)), .ref aBr, .ref aCd, .ref aNx, .int (nI mkc), .ref aMk, .int (nI mpl), .ref aAt, .ref aAs])), (aMv, .inl (cZ, 2304, .inl (fun j => za_bi (za_MvT Mv mn w x0 v j))))] H := by rw [e1, e2, e3]; exact hP
            have hD9 : va_D A [(aO, .inr (5, [.ref aMv, .int (za_Mct Mv mn w x0 v), .ref aMc, .int (za_bi (kn && !za_Mok Mv mn w x0 v)), .ref aBr, .ref aCd, .ref aNx, .int (nI mkc), .ref aMk, .int (nI mpl), .ref aAt, .ref aAs])), (aMv, .inl (cZ, 2304, .inl (fun j => za_bi (za_MvT Mv mn w x0 v j))))] := by rw [e1, e2, e3]; exact hD
            exact hret _ () _ _ _ _ (za_b1 (by exact hm)) hP9 hD9 hS zd_M_move_75
          · skip
            have hm : za_Mok Mv mn w x0 v = false := by first | (simp [za_Mok, h4]; done) | (simp [za_Mok, h11]; done) | (simp [za_Mok, h18]; done) | (simp [za_Mok, hw, hx9, hv9, za_clS hs0, za_clL hl0, za_clS ht0, h28]; done) | simp [za_Mok, h37]
            refine lv_iconst (v := nI 0) hx hb zd_M_move_40 (by decide) ?_
            have e1 : za_Mct Mv mn w x0 v = mn := by first | with_reducible rfl | (first | (simp [za_MvT, za_Mct, hm]; done) | (unfold za_MvT; rw [if_pos hm, hw, hx9, hv9, za_clS hs0, za_clL hl0, za_clS ht0]))
            have e2 : za_bi (kn && !za_Mok Mv mn w x0 v) = za_bi kn := by first | with_reducible rfl | (first | (simp [za_MvT, za_Mct, hm]; done) | (unfold za_MvT; rw [if_pos hm, hw, hx9, hv9, za_clS hs0, za_clL hl0, za_clS ht0]))
            have e3 : za_MvT Mv mn w x0 v = Mv := by first | with_reducible rfl | (first | (simp [za_MvT, za_Mct, hm]; done) | (unfold za_MvT; rw [if_pos hm, hw, hx9, hv9, za_clS hs0, za_clL hl0, za_clS ht0]))
            have hP9 : va_P D vwCl [(aO, .inr (5, [.ref aMv, .int (za_Mct Mv mn w x0 v), .ref aMc, .int (za_bi (kn && !za_Mok Mv mn w x0 v)), .ref aBr, .ref aCd, .ref aNx, .int (nI mkc), .ref aMk, .int (nI mpl), .ref aAt, .ref aAs])), (aMv, .inl (cZ, 2304, .inl (fun j => za_bi (za_MvT Mv mn w x0 v j))))] H0 := by rw [e1, e2, e3]; exact hP
            have hD9 : va_D A [(aO, .inr (5, [.ref aMv, .int (za_Mct Mv mn w x0 v), .ref aMc, .int (za_bi (kn && !za_Mok Mv mn w x0 v)), .ref aBr, .ref aCd, .ref aNx, .int (nI mkc), .ref aMk, .int (nI mpl), .ref aAt, .ref aAs])), (aMv, .inl (cZ, 2304, .inl (fun j => za_bi (za_MvT Mv mn w x0 v j))))] := by rw [e1, e2, e3]; exact hD
            exact hret _ () _ _ _ _ (za_b0 (by exact hm)) hP9 hD9 hS zd_M_move_41
def zr_M_drop : Room := { frames := 1, cells := 0, slots := 0, locals := 23 }
set_option maxHeartbeats 4000000 in
set_option maxRecDepth 100000 in
theorem zc_M_drop (ln : Launch) (D : va_G) (cI cZ : ClassId) (sz : Nat) (aO : Nat) (aMv : Nat) (aMc : Nat) (aBr : Nat) (aCd : Nat) (aNx : Nat) (aMk : Nat) (aAt : Nat) (aAs : Nat) (mkc : Nat) (mpl : Nat) (mn : Int32) (kn : Bool) (Mv : Nat → Bool) (w : Int32) (x0 : Int32) (v : Int32) : Met ln zm_M_drop (Cond.code zm_M_drop zo_M_drop 4 (some .boolean) :: zb_big) zr_M_drop (za_Pw D vwCl [(cI, .int), (cZ, .boolean)] [.ref aO, .int w, .int x0, .int v] [(aO, .inr (5, [.ref aMv, .int mn, .ref aMc, .int (za_bi kn), .ref aBr, .ref aCd, .ref aNx, .int (nI mkc), .ref aMk, .int (nI mpl), .ref aAt, .ref aAs])), (aMv, .inl (cZ, 2304, .inl (fun j => za_bi (Mv j))))] sz) (va_Qi (fun (r : Int32) (_u : Unit) => r = za_bi (za_Dok Mv w x0 v)) (za_B D vwCl [(aO, .inr (5, [.ref aMv, .int mn, .ref aMc, .int (za_bi kn), .ref aBr, .ref aCd, .ref aNx, .int (nI mkc), .ref aMk, .int (nI mpl), .ref aAt, .ref aAs])), (aMv, .inl (cZ, 2304, .inl (fun j => za_bi (Mv j))))] sz (fun (_u : Unit) => [(aO, .inr (5, [.ref aMv, .int (za_Dct Mv mn w x0 v), .ref aMc, .int (za_bi (kn && !za_Dok Mv w x0 v)), .ref aBr, .ref aCd, .ref aNx, .int (nI mkc), .ref aMk, .int (nI mpl), .ref aAt, .ref aAs])), (aMv, .inl (cZ, 2304, .inl (fun j => za_bi (za_DvT Mv w x0 v j))))])) (va_A [(aO, .inr (5, [.ref aMv, .int mn, .ref aMc, .int (za_bi kn), .ref aBr, .ref aCd, .ref aNx, .int (nI mkc), .ref aMk, .int (nI mpl), .ref aAt, .ref aAs])), (aMv, .inl (cZ, 2304, .inl (fun j => za_bi (Mv j))))] sz)) 0 0 (va_A [(aO, .inr (5, [.ref aMv, .int mn, .ref aMc, .int (za_bi kn), .ref aBr, .ref aCd, .ref aNx, .int (nI mkc), .ref aMk, .int (nI mpl), .ref aAt, .ref aAs])), (aMv, .inl (cZ, 2304, .inl (fun j => za_bi (Mv j))))] sz) := by
  refine za_wi (cc := zo_M_drop) (maxL := 4) (ty := .boolean) (by decide) (Nat.le_of_ble_eq_true rfl) (fun _ _ h => by rw [h]; exact za_nar _) ?_
  intro p e sg m args below meth c H0 A Q hx hb hml hts hown hmn hP hK hN hD hA hS hret ls hl
  have hP : va_P D vwCl [(aO, .inr (5, [.ref aMv, .int mn, .ref aMc, .int (za_bi kn), .ref aBr, .ref aCd, .ref aNx, .int (nI mkc), .ref aMk, .int (nI mpl), .ref aAt, .ref aAs])), (aMv, .inl (cZ, 2304, .inl (fun j => za_bi (Mv j))))] H0 := hP
  have hD : va_D A [(aO, .inr (5, [.ref aMv, .int mn, .ref aMc, .int (za_bi kn), .ref aBr, .ref aCd, .ref aNx, .int (nI mkc), .ref aMk, .int (nI mpl), .ref aAt, .ref aAs])), (aMv, .inl (cZ, 2304, .inl (fun j => za_bi (Mv j))))] := hD
  have hl : lv_has ls 4 [(0, .ref aO), (1, .int w), (2, .int x0), (3, .int v)] := hl
  have hf7 := hts _ zw_443
  have hf46 := hts _ zw_444
  have hf50 := hts _ zw_446
  refine lv_iload_n hx hb zd_M_drop_0 rfl (lv_at hl 1 rfl) ?_
  refine za_cS (As := [.int w]) (rest := []) ⟨hx, hb, hml, hown, hts⟩ (zc_M_isState ln D cI cZ w ) (za_gS 1 hts zw_485 zw_486 zw_40 zw_487 (by decide +kernel) ⟨Nat.le_of_ble_eq_true rfl, Nat.le_of_ble_eq_true rfl⟩) hK hN hP [] rfl hl rfl rfl (Nat.le_of_ble_eq_true rfl) zd_M_drop_1 ⟨Nat.le_of_ble_eq_true rfl, Nat.le_of_ble_eq_true rfl⟩ ?_
  refine lv_if_eq hx hb (tgt := 31) zd_M_drop_4 (by decide) (fun h4 => ?_) (fun h4 => ?_)
  · have h4 := za_bF h4
    have hm : za_Dok Mv w x0 v = false := by first | (simp [za_Dok, h4]; done) | (simp [za_Dok, h11]; done) | (simp [za_Dok, h18]; done) | simp [za_Dok, hw, hx9, hv9, za_clS hs0, za_clL hl0, za_clS ht0, h28]
    refine lv_iconst (v := nI 0) hx hb zd_M_drop_31 (by decide) ?_
    have e1 : za_Dct Mv mn w x0 v = mn := by first | with_reducible rfl | (first | (simp [za_DvT, za_Dct, hm]; done) | (unfold za_DvT; rw [if_pos hm, hw, hx9, hv9, za_clS hs0, za_clL hl0, za_clS ht0]))
    have e2 : za_bi (kn && !za_Dok Mv w x0 v) = za_bi kn := by first | with_reducible rfl | (first | (simp [za_DvT, za_Dct, hm]; done) | (unfold za_DvT; rw [if_pos hm, hw, hx9, hv9, za_clS hs0, za_clL hl0, za_clS ht0]))
    have e3 : za_DvT Mv w x0 v = Mv := by first | with_reducible rfl | (first | (simp [za_DvT, za_Dct, hm]; done) | (unfold za_DvT; rw [if_pos hm, hw, hx9, hv9, za_clS hs0, za_clL hl0, za_clS ht0]))
    have hP9 : va_P D vwCl [(aO, .inr (5, [.ref aMv, .int (za_Dct Mv mn w x0 v), .ref aMc, .int (za_bi (kn && !za_Dok Mv w x0 v)), .ref aBr, .ref aCd, .ref aNx, .int (nI mkc), .ref aMk, .int (nI mpl), .ref aAt, .ref aAs])), (aMv, .inl (cZ, 2304, .inl (fun j => za_bi (za_DvT Mv w x0 v j))))] H0 := by rw [e1, e2, e3]; exact hP
    have hD9 : va_D A [(aO, .inr (5, [.ref aMv, .int (za_Dct Mv mn w x0 v), .ref aMc, .int (za_bi (kn && !za_Dok Mv w x0 v)), .ref aBr, .ref aCd, .ref aNx, .int (nI mkc), .ref aMk, .int (nI mpl), .ref aAt, .ref aAs])), (aMv, .inl (cZ, 2304, .inl (fun j => za_bi (za_DvT Mv w x0 v j))))] := by rw [e1, e2, e3]; exact hD
    exact hret _ () _ _ _ _ (za_b0 (by exact hm)) hP9 hD9 hS zd_M_drop_32
  · have h4 := za_bT h4
    obtain ⟨s, hs0, hw⟩ := za_isS_of h4
    have hl : lv_has ls 4 [(0, .ref aO), (1, .int (nI s)), (2, .int x0), (3, .int v)] := by rw [← hw]; exact hl
    refine lv_iload_n hx hb zd_M_drop_7 rfl (lv_at hl 2 rfl) ?_
    refine za_cS (As := [.int x0]) (rest := []) ⟨hx, hb, hml, hown, hts⟩ (zc_M_isLabel ln D cI cZ x0 ) (za_gS 1 hts zw_488 zw_489 zw_40 zw_490 (by decide +kernel) ⟨Nat.le_of_ble_eq_true rfl, Nat.le_of_ble_eq_true rfl⟩) hK hN hP [] rfl hl rfl rfl (Nat.le_of_ble_eq_true rfl) zd_M_drop_8 ⟨Nat.le_of_ble_eq_true rfl, Nat.le_of_ble_eq_true rfl⟩ ?_
    refine lv_if_eq hx hb (tgt := 31) zd_M_drop_11 (by decide) (fun h11 => ?_) (fun h11 => ?_)
    · have h11 := za_bF h11
      have hm : za_Dok Mv w x0 v = false := by first | (simp [za_Dok, h4]; done) | (simp [za_Dok, h11]; done) | (simp [za_Dok, h18]; done) | simp [za_Dok, hw, hx9, hv9, za_clS hs0, za_clL hl0, za_clS ht0, h28]
      refine lv_iconst (v := nI 0) hx hb zd_M_drop_31 (by decide) ?_
      have e1 : za_Dct Mv mn w x0 v = mn := by first | with_reducible rfl | (first | (simp [za_DvT, za_Dct, hm]; done) | (unfold za_DvT; rw [if_pos hm, hw, hx9, hv9, za_clS hs0, za_clL hl0, za_clS ht0]))
      have e2 : za_bi (kn && !za_Dok Mv w x0 v) = za_bi kn := by first | with_reducible rfl | (first | (simp [za_DvT, za_Dct, hm]; done) | (unfold za_DvT; rw [if_pos hm, hw, hx9, hv9, za_clS hs0, za_clL hl0, za_clS ht0]))
      have e3 : za_DvT Mv w x0 v = Mv := by first | with_reducible rfl | (first | (simp [za_DvT, za_Dct, hm]; done) | (unfold za_DvT; rw [if_pos hm, hw, hx9, hv9, za_clS hs0, za_clL hl0, za_clS ht0]))
      have hP9 : va_P D vwCl [(aO, .inr (5, [.ref aMv, .int (za_Dct Mv mn w x0 v), .ref aMc, .int (za_bi (kn && !za_Dok Mv w x0 v)), .ref aBr, .ref aCd, .ref aNx, .int (nI mkc), .ref aMk, .int (nI mpl), .ref aAt, .ref aAs])), (aMv, .inl (cZ, 2304, .inl (fun j => za_bi (za_DvT Mv w x0 v j))))] H0 := by rw [e1, e2, e3]; exact hP
      have hD9 : va_D A [(aO, .inr (5, [.ref aMv, .int (za_Dct Mv mn w x0 v), .ref aMc, .int (za_bi (kn && !za_Dok Mv w x0 v)), .ref aBr, .ref aCd, .ref aNx, .int (nI mkc), .ref aMk, .int (nI mpl), .ref aAt, .ref aAs])), (aMv, .inl (cZ, 2304, .inl (fun j => za_bi (za_DvT Mv w x0 v j))))] := by rw [e1, e2, e3]; exact hD
      exact hret _ () _ _ _ _ (za_b0 (by exact hm)) hP9 hD9 hS zd_M_drop_32
    · have h11 := za_bT h11
      obtain ⟨l, hl0, hx9⟩ := za_isL_of h11
      have hl : lv_has ls 4 [(0, .ref aO), (1, .int (nI s)), (2, .int (nI l)), (3, .int v)] := by rw [← hx9]; exact hl
      refine lv_iload_n hx hb zd_M_drop_14 rfl (lv_at hl 3 rfl) ?_
      refine za_cS (As := [.int v]) (rest := []) ⟨hx, hb, hml, hown, hts⟩ (zc_M_isState ln D cI cZ v ) (za_gS 1 hts zw_485 zw_486 zw_40 zw_487 (by decide +kernel) ⟨Nat.le_of_ble_eq_true rfl, Nat.le_of_ble_eq_true rfl⟩) hK hN hP [] rfl hl rfl rfl (Nat.le_of_ble_eq_true rfl) zd_M_drop_15 ⟨Nat.le_of_ble_eq_true rfl, Nat.le_of_ble_eq_true rfl⟩ ?_
      refine lv_if_eq hx hb (tgt := 31) zd_M_drop_18 (by decide) (fun h18 => ?_) (fun h18 => ?_)
      · have h18 := za_bF h18
        have hm : za_Dok Mv w x0 v = false := by first | (simp [za_Dok, h4]; done) | (simp [za_Dok, h11]; done) | (simp [za_Dok, h18]; done) | simp [za_Dok, hw, hx9, hv9, za_clS hs0, za_clL hl0, za_clS ht0, h28]
        refine lv_iconst (v := nI 0) hx hb zd_M_drop_31 (by decide) ?_
        have e1 : za_Dct Mv mn w x0 v = mn := by first | with_reducible rfl | (first | (simp [za_DvT, za_Dct, hm]; done) | (unfold za_DvT; rw [if_pos hm, hw, hx9, hv9, za_clS hs0, za_clL hl0, za_clS ht0]))
        have e2 : za_bi (kn && !za_Dok Mv w x0 v) = za_bi kn := by first | with_reducible rfl | (first | (simp [za_DvT, za_Dct, hm]; done) | (unfold za_DvT; rw [if_pos hm, hw, hx9, hv9, za_clS hs0, za_clL hl0, za_clS ht0]))
        have e3 : za_DvT Mv w x0 v = Mv := by first | with_reducible rfl | (first | (simp [za_DvT, za_Dct, hm]; done) | (unfold za_DvT; rw [if_pos hm, hw, hx9, hv9, za_clS hs0, za_clL hl0, za_clS ht0]))
        have hP9 : va_P D vwCl [(aO, .inr (5, [.ref aMv, .int (za_Dct Mv mn w x0 v), .ref aMc, .int (za_bi (kn && !za_Dok Mv w x0 v)), .ref aBr, .ref aCd, .ref aNx, .int (nI mkc), .ref aMk, .int (nI mpl), .ref aAt, .ref aAs])), (aMv, .inl (cZ, 2304, .inl (fun j => za_bi (za_DvT Mv w x0 v j))))] H0 := by rw [e1, e2, e3]; exact hP
        have hD9 : va_D A [(aO, .inr (5, [.ref aMv, .int (za_Dct Mv mn w x0 v), .ref aMc, .int (za_bi (kn && !za_Dok Mv w x0 v)), .ref aBr, .ref aCd, .ref aNx, .int (nI mkc), .ref aMk, .int (nI mpl), .ref aAt, .ref aAs])), (aMv, .inl (cZ, 2304, .inl (fun j => za_bi (za_DvT Mv w x0 v j))))] := by rw [e1, e2, e3]; exact hD
        exact hret _ () _ _ _ _ (za_b0 (by exact hm)) hP9 hD9 hS zd_M_drop_32
      · have h18 := za_bT h18
        obtain ⟨t, ht0, hv9⟩ := za_isS_of h18
        have hl : lv_has ls 4 [(0, .ref aO), (1, .int (nI s)), (2, .int (nI l)), (3, .int (nI t))] := by rw [← hv9]; exact hl
        refine lv_aload_n hx hb zd_M_drop_21 rfl (lv_at hl 0 rfl) ?_
        refine lv_iload_n hx hb zd_M_drop_22 rfl (lv_at hl 1 rfl) ?_
        refine lv_iload_n hx hb zd_M_drop_23 rfl (lv_at hl 2 rfl) ?_
        refine lv_iload_n hx hb zd_M_drop_24 rfl (lv_at hl 3 rfl) ?_
        refine za_cV (As := [.int (nI s), .int (nI l), .int (nI t)]) (rest := []) ⟨hx, hb, hml, hown, hts⟩ (zc_M_has ln D cI cZ aO aMv aMc aBr aCd aNx aMk aAt aAs mkc mpl mn kn Mv s l t (by omega) (by omega) (by omega)) (za_gV 3 hts zw_491 zw_493 zw_19 zw_40 zw_494 (by decide +kernel) ⟨Nat.le_of_ble_eq_true rfl, Nat.le_of_ble_eq_true rfl⟩) hK hN hP [0, 1] rfl (q0 := 0) rfl rfl hl rfl rfl (Nat.le_of_ble_eq_true rfl) zd_M_drop_25 ⟨Nat.le_of_ble_eq_true rfl, Nat.le_of_ble_eq_true rfl⟩ ?_
        refine lv_if_ne hx hb (tgt := 33) zd_M_drop_28 (by decide) (fun h28 => ?_) (fun h28 => ?_)
        · have h28 := za_bT h28
          have hm : za_Dok Mv w x0 v = true := by unfold za_Dok; rw [h4, h11, h18, hw, hx9, hv9, za_clS hs0, za_clL hl0, za_clS ht0, h28]; rfl
          refine lv_aload_n hx hb zd_M_drop_33 rfl (lv_at hl 0 rfl) ?_
          refine va_get (D := D) (ci := 5) (v := .ref aMv) (C := zs_M) (T := zt_M) (N := 12) hx hb hts zi_M hown hK hP 0 rfl rfl 0 (by decide) hf7 (fun _ h9 => h9) rfl zd_M_drop_34 ?_
          refine lv_bipush (v := nI 96) hx hb zd_M_drop_37 (by decide) ?_
          refine lv_iload_n hx hb zd_M_drop_39 rfl (lv_at hl 1 rfl) ?_
          refine za_mulN hx hb zd_M_drop_40 ?_
          refine lv_bipush (v := nI 24) hx hb zd_M_drop_41 (by decide) ?_
          refine lv_iload_n hx hb zd_M_drop_43 rfl (lv_at hl 2 rfl) ?_
          refine za_mulN hx hb zd_M_drop_44 ?_
          refine za_addN hx hb zd_M_drop_45 ?_
          refine lv_iload_n hx hb zd_M_drop_46 rfl (lv_at hl 3 rfl) ?_
          refine za_addN hx hb zd_M_drop_47 ?_
          refine lv_iconst (v := nI 0) hx hb zd_M_drop_48 (by decide) ?_
          refine za_eqi (y := za_bi false) rfl ?_
          refine za_zst hx hb hK hP hD hS 1 1 rfl rfl (k := ((96 * s) + (24 * l)) + t) (b := false) (by omega) (by decide) zd_M_drop_49 (fun H locs hP hD hS => ?_)
          have hP : va_P D vwCl [(aO, .inr (5, [.ref aMv, .int mn, .ref aMc, .int (za_bi kn), .ref aBr, .ref aCd, .ref aNx, .int (nI mkc), .ref aMk, .int (nI mpl), .ref aAt, .ref aAs])), (aMv, .inl (cZ, 2304, .inl (fun j => za_bi (za_ub Mv (((96 * s) + (24 * l)) + t) false j))))] H := hP
          have hD : va_D A [(aO, .inr (5, [.ref aMv, .int mn, .ref aMc, .int (za_bi kn), .ref aBr, .ref aCd, .ref aNx, .int (nI mkc), .ref aMk, .int (nI mpl), .ref aAt, .ref aAs])), (aMv, .inl (cZ, 2304, .inl (fun j => za_bi (za_ub Mv (((96 * s) + (24 * l)) + t) false j))))] := hD
          refine lv_aload_n hx hb zd_M_drop_50 rfl (lv_at hl 0 rfl) ?_
          refine lv_aload_n hx hb zd_M_drop_51 rfl (lv_at hl 0 rfl) ?_
          refine va_get (D := D) (ci := 5) (v := .int mn) (C := zs_M) (T := zt_M) (N := 12) hx hb hts zi_M hown hK hP 0 rfl rfl 1 (by decide) hf46 (fun _ h9 => h9) rfl zd_M_drop_52 ?_
          refine lv_iconst (v := nI 1) hx hb zd_M_drop_55 (by decide) ?_
          refine lv_isub hx hb zd_M_drop_56 ?_
          refine va_put (D := D) (ci := 5) (v := .int (mn - (nI 1))) (ty := .int) (C := zs_M) (T := zt_M) (N := 12) hx hb hts zi_M zy_M zk_M zn_M hown hK hP hD hS 0 rfl rfl 1 (by decide) hf46 (fun _ h9 => h9) rfl (by decide +kernel) rfl rfl (Nat.le_of_ble_eq_true rfl) zd_M_drop_57 (fun H locs hP hD hS => ?_)
          have hP : va_P D vwCl [(aO, .inr (5, [.ref aMv, .int (mn - (nI 1)), .ref aMc, .int (za_bi kn), .ref aBr, .ref aCd, .ref aNx, .int (nI mkc), .ref aMk, .int (nI mpl), .ref aAt, .ref aAs])), (aMv, .inl (cZ, 2304, .inl (fun j => za_bi (za_ub Mv (((96 * s) + (24 * l)) + t) false j))))] H := hP
          have hD : va_D A [(aO, .inr (5, [.ref aMv, .int (mn - (nI 1)), .ref aMc, .int (za_bi kn), .ref aBr, .ref aCd, .ref aNx, .int (nI mkc), .ref aMk, .int (nI mpl), .ref aAt, .ref aAs])), (aMv, .inl (cZ, 2304, .inl (fun j => za_bi (za_ub Mv (((96 * s) + (24 * l)) + t) false j))))] := hD
          refine lv_aload_n hx hb zd_M_drop_60 rfl (lv_at hl 0 rfl) ?_
          refine lv_iconst (v := nI 0) hx hb zd_M_drop_61 (by decide) ?_
          refine za_eqi (y := za_bi false) rfl ?_
          refine va_put (D := D) (ci := 5) (v := .int (za_bi false)) (ty := .boolean) (C := zs_M) (T := zt_M) (N := 12) hx hb hts zi_M zy_M zk_M zn_M hown hK hP hD hS 0 rfl rfl 3 (by decide) hf50 (fun _ h9 => h9) rfl (by decide +kernel) (za_nar _) (za_fit _) (Nat.le_of_ble_eq_true rfl) zd_M_drop_62 (fun H locs hP hD hS => ?_)
          have hP : va_P D vwCl [(aO, .inr (5, [.ref aMv, .int (mn - (nI 1)), .ref aMc, .int (za_bi false), .ref aBr, .ref aCd, .ref aNx, .int (nI mkc), .ref aMk, .int (nI mpl), .ref aAt, .ref aAs])), (aMv, .inl (cZ, 2304, .inl (fun j => za_bi (za_ub Mv (((96 * s) + (24 * l)) + t) false j))))] H := hP
          have hD : va_D A [(aO, .inr (5, [.ref aMv, .int (mn - (nI 1)), .ref aMc, .int (za_bi false), .ref aBr, .ref aCd, .ref aNx, .int (nI mkc), .ref aMk, .int (nI mpl), .ref aAt, .ref aAs])), (aMv, .inl (cZ, 2304, .inl (fun j => za_bi (za_ub Mv (((96 * s) + (24 * l)) + t) false j))))] := hD
          refine lv_iconst (v := nI 1) hx hb zd_M_drop_65 (by decide) ?_
          have e1 : za_Dct Mv mn w x0 v = (mn - (nI 1)) := by first | with_reducible rfl | (first | (simp [za_DvT, za_Dct, hm]; done) | (unfold za_DvT; rw [if_pos hm, hw, hx9, hv9, za_clS hs0, za_clL hl0, za_clS ht0]))
          have e2 : za_bi (kn && !za_Dok Mv w x0 v) = za_bi false := by first | with_reducible rfl | (first | (simp [za_DvT, za_Dct, hm]; done) | (unfold za_DvT; rw [if_pos hm, hw, hx9, hv9, za_clS hs0, za_clL hl0, za_clS ht0]))
          have e3 : za_DvT Mv w x0 v = za_ub Mv (((96 * s) + (24 * l)) + t) false := by first | with_reducible rfl | (first | (simp [za_DvT, za_Dct, hm]; done) | (unfold za_DvT; rw [if_pos hm, hw, hx9, hv9, za_clS hs0, za_clL hl0, za_clS ht0]))
          have hP9 : va_P D vwCl [(aO, .inr (5, [.ref aMv, .int (za_Dct Mv mn w x0 v), .ref aMc, .int (za_bi (kn && !za_Dok Mv w x0 v)), .ref aBr, .ref aCd, .ref aNx, .int (nI mkc), .ref aMk, .int (nI mpl), .ref aAt, .ref aAs])), (aMv, .inl (cZ, 2304, .inl (fun j => za_bi (za_DvT Mv w x0 v j))))] H := by rw [e1, e2, e3]; exact hP
          have hD9 : va_D A [(aO, .inr (5, [.ref aMv, .int (za_Dct Mv mn w x0 v), .ref aMc, .int (za_bi (kn && !za_Dok Mv w x0 v)), .ref aBr, .ref aCd, .ref aNx, .int (nI mkc), .ref aMk, .int (nI mpl), .ref aAt, .ref aAs])), (aMv, .inl (cZ, 2304, .inl (fun j => za_bi (za_DvT Mv w x0 v j))))] := by rw [e1, e2, e3]; exact hD
          exact hret _ () _ _ _ _ (za_b1 (by exact hm)) hP9 hD9 hS zd_M_drop_66
        · have h28 := za_bF h28
          have hm : za_Dok Mv w x0 v = false := by first | (simp [za_Dok, h4]; done) | (simp [za_Dok, h11]; done) | (simp [za_Dok, h18]; done) | simp [za_Dok, hw, hx9, hv9, za_clS hs0, za_clL hl0, za_clS ht0, h28]
          refine lv_iconst (v := nI 0) hx hb zd_M_drop_31 (by decide) ?_
          have e1 : za_Dct Mv mn w x0 v = mn := by first | with_reducible rfl | (first | (simp [za_DvT, za_Dct, hm]; done) | (unfold za_DvT; rw [if_pos hm, hw, hx9, hv9, za_clS hs0, za_clL hl0, za_clS ht0]))
          have e2 : za_bi (kn && !za_Dok Mv w x0 v) = za_bi kn := by first | with_reducible rfl | (first | (simp [za_DvT, za_Dct, hm]; done) | (unfold za_DvT; rw [if_pos hm, hw, hx9, hv9, za_clS hs0, za_clL hl0, za_clS ht0]))
          have e3 : za_DvT Mv w x0 v = Mv := by first | with_reducible rfl | (first | (simp [za_DvT, za_Dct, hm]; done) | (unfold za_DvT; rw [if_pos hm, hw, hx9, hv9, za_clS hs0, za_clL hl0, za_clS ht0]))
          have hP9 : va_P D vwCl [(aO, .inr (5, [.ref aMv, .int (za_Dct Mv mn w x0 v), .ref aMc, .int (za_bi (kn && !za_Dok Mv w x0 v)), .ref aBr, .ref aCd, .ref aNx, .int (nI mkc), .ref aMk, .int (nI mpl), .ref aAt, .ref aAs])), (aMv, .inl (cZ, 2304, .inl (fun j => za_bi (za_DvT Mv w x0 v j))))] H0 := by rw [e1, e2, e3]; exact hP
          have hD9 : va_D A [(aO, .inr (5, [.ref aMv, .int (za_Dct Mv mn w x0 v), .ref aMc, .int (za_bi (kn && !za_Dok Mv w x0 v)), .ref aBr, .ref aCd, .ref aNx, .int (nI mkc), .ref aMk, .int (nI mpl), .ref aAt, .ref aAs])), (aMv, .inl (cZ, 2304, .inl (fun j => za_bi (za_DvT Mv w x0 v j))))] := by rw [e1, e2, e3]; exact hD
          exact hret _ () _ _ _ _ (za_b0 (by exact hm)) hP9 hD9 hS zd_M_drop_32
def zr_M_colour : Room := { frames := 1, cells := 0, slots := 0, locals := 20 }
set_option maxHeartbeats 4000000 in
set_option maxRecDepth 100000 in
theorem zc_M_colour (ln : Launch) (D : va_G) (cI cZ : ClassId) (sz : Nat) (aO : Nat) (aMv : Nat) (aMc : Nat) (aBr : Nat) (aCd : Nat) (aNx : Nat) (aMk : Nat) (aAt : Nat) (aAs : Nat) (mkc : Nat) (mpl : Nat) (mn : Int32) (kn : Bool) (Mc : Nat → Int32) (w : Int32) (x0 : Int32) : Met ln zm_M_colour (Cond.code zm_M_colour zo_M_colour 3 (some .boolean) :: zb_big) zr_M_colour (za_Pw D vwCl [(cI, .int), (cZ, .boolean)] [.ref aO, .int w, .int x0] [(aO, .inr (5, [.ref aMv, .int mn, .ref aMc, .int (za_bi kn), .ref aBr, .ref aCd, .ref aNx, .int (nI mkc), .ref aMk, .int (nI mpl), .ref aAt, .ref aAs])), (aMc, .inl (cI, 24, .inl Mc))] sz) (va_Qi (fun (r : Int32) (_u : Unit) => r = za_bi (za_isS w)) (za_B D vwCl [(aO, .inr (5, [.ref aMv, .int mn, .ref aMc, .int (za_bi kn), .ref aBr, .ref aCd, .ref aNx, .int (nI mkc), .ref aMk, .int (nI mpl), .ref aAt, .ref aAs])), (aMc, .inl (cI, 24, .inl Mc))] sz (fun (_u : Unit) => [(aO, .inr (5, [.ref aMv, .int mn, .ref aMc, .int (za_bi (kn && !za_isS w)), .ref aBr, .ref aCd, .ref aNx, .int (nI mkc), .ref aMk, .int (nI mpl), .ref aAt, .ref aAs])), (aMc, .inl (cI, 24, .inl (za_cvC Mc w x0)))])) (va_A [(aO, .inr (5, [.ref aMv, .int mn, .ref aMc, .int (za_bi kn), .ref aBr, .ref aCd, .ref aNx, .int (nI mkc), .ref aMk, .int (nI mpl), .ref aAt, .ref aAs])), (aMc, .inl (cI, 24, .inl Mc))] sz)) 0 0 (va_A [(aO, .inr (5, [.ref aMv, .int mn, .ref aMc, .int (za_bi kn), .ref aBr, .ref aCd, .ref aNx, .int (nI mkc), .ref aMk, .int (nI mpl), .ref aAt, .ref aAs])), (aMc, .inl (cI, 24, .inl Mc))] sz) := by
  refine za_wi (cc := zo_M_colour) (maxL := 3) (ty := .boolean) (by decide) (Nat.le_of_ble_eq_true rfl) (fun _ _ h => by rw [h]; exact za_nar _) ?_
  intro p e sg m args below meth c H0 A Q hx hb hml hts hown hmn hP hK hN hD hA hS hret ls hl
  have hP : va_P D vwCl [(aO, .inr (5, [.ref aMv, .int mn, .ref aMc, .int (za_bi kn), .ref aBr, .ref aCd, .ref aNx, .int (nI mkc), .ref aMk, .int (nI mpl), .ref aAt, .ref aAs])), (aMc, .inl (cI, 24, .inl Mc))] H0 := hP
  have hD : va_D A [(aO, .inr (5, [.ref aMv, .int mn, .ref aMc, .int (za_bi kn), .ref aBr, .ref aCd, .ref aNx, .int (nI mkc), .ref aMk, .int (nI mpl), .ref aAt, .ref aAs])), (aMc, .inl (cI, 24, .inl Mc))] := hD
  have hl : lv_has ls 3 [(0, .ref aO), (1, .int w), (2, .int x0)] := hl
  have hf13 := hts _ zw_445
  have hf50 := hts _ zw_446
  refine lv_iload_n hx hb zd_M_colour_0 rfl (lv_at hl 1 rfl) ?_
  refine za_cS (As := [.int w]) (rest := []) ⟨hx, hb, hml, hown, hts⟩ (zc_M_isState ln D cI cZ w ) (za_gS 1 hts zw_485 zw_486 zw_40 zw_487 (by decide +kernel) ⟨Nat.le_of_ble_eq_true rfl, Nat.le_of_ble_eq_true rfl⟩) hK hN hP [] rfl hl rfl rfl (Nat.le_of_ble_eq_true rfl) zd_M_colour_1 ⟨Nat.le_of_ble_eq_true rfl, Nat.le_of_ble_eq_true rfl⟩ ?_
  refine lv_if_ne hx hb (tgt := 9) zd_M_colour_4 (by decide) (fun h4 => ?_) (fun h4 => ?_)
  · have h4 := za_bT h4
    obtain ⟨s, hs0, hw⟩ := za_isS_of h4
    have hl : lv_has ls 3 [(0, .ref aO), (1, .int (nI s)), (2, .int x0)] := by rw [← hw]; exact hl
    refine lv_aload_n hx hb zd_M_colour_9 rfl (lv_at hl 0 rfl) ?_
    refine va_get (D := D) (ci := 5) (v := .ref aMc) (C := zs_M) (T := zt_M) (N := 12) hx hb hts zi_M hown hK hP 0 rfl rfl 2 (by decide) hf13 (fun _ h9 => h9) rfl zd_M_colour_10 ?_
    refine lv_iload_n hx hb zd_M_colour_13 rfl (lv_at hl 1 rfl) ?_
    refine lv_iload_n hx hb zd_M_colour_14 rfl (lv_at hl 2 rfl) ?_
    refine za_ist hx hb hK hP hD hS 1 0 rfl rfl (k := s) (by omega) (by decide) zd_M_colour_15 (fun H locs hP hD hS => ?_)
    have hP : va_P D vwCl [(aO, .inr (5, [.ref aMv, .int mn, .ref aMc, .int (za_bi kn), .ref aBr, .ref aCd, .ref aNx, .int (nI mkc), .ref aMk, .int (nI mpl), .ref aAt, .ref aAs])), (aMc, .inl (cI, 24, .inl (upd Mc s x0)))] H := hP
    have hD : va_D A [(aO, .inr (5, [.ref aMv, .int mn, .ref aMc, .int (za_bi kn), .ref aBr, .ref aCd, .ref aNx, .int (nI mkc), .ref aMk, .int (nI mpl), .ref aAt, .ref aAs])), (aMc, .inl (cI, 24, .inl (upd Mc s x0)))] := hD
    refine lv_aload_n hx hb zd_M_colour_16 rfl (lv_at hl 0 rfl) ?_
    refine lv_iconst (v := nI 0) hx hb zd_M_colour_17 (by decide) ?_
    refine za_eqi (y := za_bi false) rfl ?_
    refine va_put (D := D) (ci := 5) (v := .int (za_bi false)) (ty := .boolean) (C := zs_M) (T := zt_M) (N := 12) hx hb hts zi_M zy_M zk_M zn_M hown hK hP hD hS 0 rfl rfl 3 (by decide) hf50 (fun _ h9 => h9) rfl (by decide +kernel) (za_nar _) (za_fit _) (Nat.le_of_ble_eq_true rfl) zd_M_colour_18 (fun H locs hP hD hS => ?_)
    have hP : va_P D vwCl [(aO, .inr (5, [.ref aMv, .int mn, .ref aMc, .int (za_bi false), .ref aBr, .ref aCd, .ref aNx, .int (nI mkc), .ref aMk, .int (nI mpl), .ref aAt, .ref aAs])), (aMc, .inl (cI, 24, .inl (upd Mc s x0)))] H := hP
    have hD : va_D A [(aO, .inr (5, [.ref aMv, .int mn, .ref aMc, .int (za_bi false), .ref aBr, .ref aCd, .ref aNx, .int (nI mkc), .ref aMk, .int (nI mpl), .ref aAt, .ref aAs])), (aMc, .inl (cI, 24, .inl (upd Mc s x0)))] := hD
    refine lv_iconst (v := nI 1) hx hb zd_M_colour_21 (by decide) ?_
    have e1 : za_bi (kn && !za_isS w) = za_bi false := by first | with_reducible rfl | (first | (simp [za_cvC, h4]; done) | (unfold za_cvC; rw [if_pos h4, hw, za_clS hs0]))
    have e2 : za_cvC Mc w x0 = upd Mc s x0 := by first | with_reducible rfl | (first | (simp [za_cvC, h4]; done) | (unfold za_cvC; rw [if_pos h4, hw, za_clS hs0]))
    have hP9 : va_P D vwCl [(aO, .inr (5, [.ref aMv, .int mn, .ref aMc, .int (za_bi (kn && !za_isS w)), .ref aBr, .ref aCd, .ref aNx, .int (nI mkc), .ref aMk, .int (nI mpl), .ref aAt, .ref aAs])), (aMc, .inl (cI, 24, .inl (za_cvC Mc w x0)))] H := by rw [e1, e2]; exact hP
    have hD9 : va_D A [(aO, .inr (5, [.ref aMv, .int mn, .ref aMc, .int (za_bi (kn && !za_isS w)), .ref aBr, .ref aCd, .ref aNx, .int (nI mkc), .ref aMk, .int (nI mpl), .ref aAt, .ref aAs])), (aMc, .inl (cI, 24, .inl (za_cvC Mc w x0)))] := by rw [e1, e2]; exact hD
    exact hret _ () _ _ _ _ (za_b1 (by exact h4)) hP9 hD9 hS zd_M_colour_22
  · have h4 := za_bF h4
    refine lv_iconst (v := nI 0) hx hb zd_M_colour_7 (by decide) ?_
    have e1 : za_bi (kn && !za_isS w) = za_bi kn := by first | with_reducible rfl | (first | (simp [za_cvC, h4]; done) | (unfold za_cvC; rw [if_pos h4, hw, za_clS hs0]))
    have e2 : za_cvC Mc w x0 = Mc := by first | with_reducible rfl | (first | (simp [za_cvC, h4]; done) | (unfold za_cvC; rw [if_pos h4, hw, za_clS hs0]))
    have hP9 : va_P D vwCl [(aO, .inr (5, [.ref aMv, .int mn, .ref aMc, .int (za_bi (kn && !za_isS w)), .ref aBr, .ref aCd, .ref aNx, .int (nI mkc), .ref aMk, .int (nI mpl), .ref aAt, .ref aAs])), (aMc, .inl (cI, 24, .inl (za_cvC Mc w x0)))] H0 := by rw [e1, e2]; exact hP
    have hD9 : va_D A [(aO, .inr (5, [.ref aMv, .int mn, .ref aMc, .int (za_bi (kn && !za_isS w)), .ref aBr, .ref aCd, .ref aNx, .int (nI mkc), .ref aMk, .int (nI mpl), .ref aAt, .ref aAs])), (aMc, .inl (cI, 24, .inl (za_cvC Mc w x0)))] := by rw [e1, e2]; exact hD
    exact hret _ () _ _ _ _ (za_b0 (by exact h4)) hP9 hD9 hS zd_M_colour_8
def zr_M_clear : Room := { frames := 0, cells := 0, slots := 0, locals := 0 }
set_option maxHeartbeats 4000000 in
set_option maxRecDepth 100000 in
theorem zc_M_clear (ln : Launch) (D : va_G) (cI cZ : ClassId) (sz : Nat) (aO : Nat) (aMv : Nat) (aMc : Nat) (aBr : Nat) (aCd : Nat) (aNx : Nat) (aMk : Nat) (aAt : Nat) (aAs : Nat) (mkc : Nat) (mpl : Nat) (mn : Int32) (kn : Bool) (Mv : Nat → Bool) (Mc : Nat → Int32) : Met ln zm_M_clear (Cond.code zm_M_clear zo_M_clear 3 (some .int) :: zb_big) zr_M_clear (za_Pw D vwCl [(cI, .int), (cZ, .boolean)] [.ref aO] [(aO, .inr (5, [.ref aMv, .int mn, .ref aMc, .int (za_bi kn), .ref aBr, .ref aCd, .ref aNx, .int (nI mkc), .ref aMk, .int (nI mpl), .ref aAt, .ref aAs])), (aMv, .inl (cZ, 2304, .inl (fun j => za_bi (Mv j)))), (aMc, .inl (cI, 24, .inl Mc))] sz) (va_Qi (fun (r : Int32) (_u : Unit) => r = mn) (za_B D vwCl [(aO, .inr (5, [.ref aMv, .int mn, .ref aMc, .int (za_bi kn), .ref aBr, .ref aCd, .ref aNx, .int (nI mkc), .ref aMk, .int (nI mpl), .ref aAt, .ref aAs])), (aMv, .inl (cZ, 2304, .inl (fun j => za_bi (Mv j)))), (aMc, .inl (cI, 24, .inl Mc))] sz (fun (_u : Unit) => [(aO, .inr (5, [.ref aMv, .int (nI 0), .ref aMc, .int (za_bi false), .ref aBr, .ref aCd, .ref aNx, .int (nI mkc), .ref aMk, .int (nI mpl), .ref aAt, .ref aAs])), (aMv, .inl (cZ, 2304, .inl (fun j => za_bi ((za_fb (fun _ => false) Mv 2304) j)))), (aMc, .inl (cI, 24, .inl (za_fl (fun _ => nI 0) Mc 24)))])) (va_A [(aO, .inr (5, [.ref aMv, .int mn, .ref aMc, .int (za_bi kn), .ref aBr, .ref aCd, .ref aNx, .int (nI mkc), .ref aMk, .int (nI mpl), .ref aAt, .ref aAs])), (aMv, .inl (cZ, 2304, .inl (fun j => za_bi (Mv j)))), (aMc, .inl (cI, 24, .inl Mc))] sz)) 0 0 (va_A [(aO, .inr (5, [.ref aMv, .int mn, .ref aMc, .int (za_bi kn), .ref aBr, .ref aCd, .ref aNx, .int (nI mkc), .ref aMk, .int (nI mpl), .ref aAt, .ref aAs])), (aMv, .inl (cZ, 2304, .inl (fun j => za_bi (Mv j)))), (aMc, .inl (cI, 24, .inl Mc))] sz) := by
  refine za_wi (cc := zo_M_clear) (maxL := 3) (ty := .int) (by decide) (Nat.le_of_ble_eq_true rfl) (fun _ _ _ => rfl) ?_
  intro p e sg m args below meth c H0 A Q hx hb hml hts hown hmn hP hK hN hD hA hS hret ls hl
  have hP : va_P D vwCl [(aO, .inr (5, [.ref aMv, .int mn, .ref aMc, .int (za_bi kn), .ref aBr, .ref aCd, .ref aNx, .int (nI mkc), .ref aMk, .int (nI mpl), .ref aAt, .ref aAs])), (aMv, .inl (cZ, 2304, .inl (fun j => za_bi (Mv j)))), (aMc, .inl (cI, 24, .inl Mc))] H0 := hP
  have hD : va_D A [(aO, .inr (5, [.ref aMv, .int mn, .ref aMc, .int (za_bi kn), .ref aBr, .ref aCd, .ref aNx, .int (nI mkc), .ref aMk, .int (nI mpl), .ref aAt, .ref aAs])), (aMv, .inl (cZ, 2304, .inl (fun j => za_bi (Mv j)))), (aMc, .inl (cI, 24, .inl Mc))] := hD
  have hl : lv_has ls 3 [(0, .ref aO)] := hl
  have hf46 := hts _ zw_444
  have hf50 := hts _ zw_446
  have hf13 := hts _ zw_445
  have hf7 := hts _ zw_443
  refine lv_aload_n hx hb zd_M_clear_0 rfl (lv_at hl 0 rfl) ?_
  refine va_get (D := D) (ci := 5) (v := .int mn) (C := zs_M) (T := zt_M) (N := 12) hx hb hts zi_M hown hK hP 0 rfl rfl 1 (by decide) hf46 (fun _ h9 => h9) rfl zd_M_clear_1 ?_
  refine lv_istore_n (lv' := [(1, .int mn), (0, .ref aO)]) hx hb zd_M_clear_4 rfl hl (by decide) rfl (fun ls hl => ?_)
  refine lv_aload_n hx hb zd_M_clear_5 rfl (lv_at hl 1 rfl) ?_
  refine lv_iconst (v := nI 0) hx hb zd_M_clear_6 (by decide) ?_
  refine va_put (D := D) (ci := 5) (v := .int (nI 0)) (ty := .int) (C := zs_M) (T := zt_M) (N := 12) hx hb hts zi_M zy_M zk_M zn_M hown hK hP hD hS 0 rfl rfl 1 (by decide) hf46 (fun _ h9 => h9) rfl (by decide +kernel) rfl rfl (Nat.le_of_ble_eq_true rfl) zd_M_clear_7 (fun H locs hP hD hS => ?_)
  have hP : va_P D vwCl [(aO, .inr (5, [.ref aMv, .int (nI 0), .ref aMc, .int (za_bi kn), .ref aBr, .ref aCd, .ref aNx, .int (nI mkc), .ref aMk, .int (nI mpl), .ref aAt, .ref aAs])), (aMv, .inl (cZ, 2304, .inl (fun j => za_bi (Mv j)))), (aMc, .inl (cI, 24, .inl Mc))] H := hP
  have hD : va_D A [(aO, .inr (5, [.ref aMv, .int (nI 0), .ref aMc, .int (za_bi kn), .ref aBr, .ref aCd, .ref aNx, .int (nI mkc), .ref aMk, .int (nI mpl), .ref aAt, .ref aAs])), (aMv, .inl (cZ, 2304, .inl (fun j => za_bi (Mv j)))), (aMc, .inl (cI, 24, .inl Mc))] := hD
  refine lv_iconst (v := nI 0) hx hb zd_M_clear_10 (by decide) ?_
  refine lv_istore_n (lv' := [(2, .int (nI 0)), (1, .int mn), (0, .ref aO)]) hx hb zd_M_clear_11 rfl hl (by decide) rfl (fun ls hl => ?_)
  have hC12 : ∀ (n12 : Nat) (i : Nat) (ls : Array Slot) (H : Heap) (locs : List Loc), 2304 - i < n12 → i ≤ 2304 → lv_has ls 3 [(0, .ref aO), (1, .int mn), (2, .int (nI i))] → va_P D vwCl [(aO, .inr (5, [.ref aMv, .int (nI 0), .ref aMc, .int (za_bi kn), .ref aBr, .ref aCd, .ref aNx, .int (nI mkc), .ref aMk, .int (nI mpl), .ref aAt, .ref aAs])), (aMv, .inl (cZ, 2304, .inl (fun j => za_bi ((za_fb (fun _ => false) Mv i) j)))), (aMc, .inl (cI, 24, .inl Mc))] H → va_D A [(aO, .inr (5, [.ref aMv, .int (nI 0), .ref aMc, .int (za_bi kn), .ref aBr, .ref aCd, .ref aNx, .int (nI mkc), .ref aMk, .int (nI mpl), .ref aAt, .ref aAs])), (aMv, .inl (cZ, 2304, .inl (fun j => za_bi ((za_fb (fun _ => false) Mv i) j)))), (aMc, .inl (cI, 24, .inl Mc))] → va_S A H0 H locs → W p ln e zr_M_clear sg m args below meth c H locs 0 0 Q (F0 m 12 ls []) := by
    intro n12
    induction n12 with
    | zero => intro i ls H locs hn12 hi_i hl hP hD hS; exact absurd hn12 (Nat.not_lt_zero _)
    | succ n12 ih12 =>
      intro i ls H locs hn12 hi_i hl hP hD hS
      refine lv_iload_n hx hb zd_M_clear_12 rfl (lv_at hl 2 rfl) ?_
      refine lv_sipush (v := nI 2304) hx hb zd_M_clear_13 (by decide) ?_
      refine lv_icmp_ge hx hb (tgt := 32) zd_M_clear_16 (by decide) (fun h16 => ?_) (fun h16 => ?_)
      · have h16 := za_leN h16 (by omega) (by omega)
        refine lv_iconst (v := nI 0) hx hb zd_M_clear_32 (by decide) ?_
        refine lv_istore_n (lv' := [(2, .int (nI 0)), (0, .ref aO), (1, .int mn)]) hx hb zd_M_clear_33 rfl hl (by decide) rfl (fun ls hl => ?_)
        have hC34 : ∀ (n34 : Nat) (k : Nat) (ls : Array Slot) (H : Heap) (locs : List Loc), 24 - k < n34 → k ≤ 24 → lv_has ls 3 [(0, .ref aO), (1, .int mn), (2, .int (nI k))] → va_P D vwCl [(aO, .inr (5, [.ref aMv, .int (nI 0), .ref aMc, .int (za_bi kn), .ref aBr, .ref aCd, .ref aNx, .int (nI mkc), .ref aMk, .int (nI mpl), .ref aAt, .ref aAs])), (aMv, .inl (cZ, 2304, .inl (fun j => za_bi ((za_fb (fun _ => false) Mv i) j)))), (aMc, .inl (cI, 24, .inl (za_fl (fun _ => nI 0) Mc k)))] H → va_D A [(aO, .inr (5, [.ref aMv, .int (nI 0), .ref aMc, .int (za_bi kn), .ref aBr, .ref aCd, .ref aNx, .int (nI mkc), .ref aMk, .int (nI mpl), .ref aAt, .ref aAs])), (aMv, .inl (cZ, 2304, .inl (fun j => za_bi ((za_fb (fun _ => false) Mv i) j)))), (aMc, .inl (cI, 24, .inl (za_fl (fun _ => nI 0) Mc k)))] → va_S A H0 H locs → W p ln e zr_M_clear sg m args below meth c H locs 0 0 Q (F0 m 34 ls []) := by
          intro n34
          induction n34 with
          | zero => intro k ls H locs hn34 hi_k hl hP hD hS; exact absurd hn34 (Nat.not_lt_zero _)
          | succ n34 ih34 =>
            intro k ls H locs hn34 hi_k hl hP hD hS
            refine lv_iload_n hx hb zd_M_clear_34 rfl (lv_at hl 2 rfl) ?_
            refine lv_bipush (v := nI 24) hx hb zd_M_clear_35 (by decide) ?_
            refine lv_icmp_ge hx hb (tgt := 53) zd_M_clear_37 (by decide) (fun h37 => ?_) (fun h37 => ?_)
            · have h37 := za_leN h37 (by omega) (by omega)
              refine lv_aload_n hx hb zd_M_clear_53 rfl (lv_at hl 0 rfl) ?_
              refine lv_iconst (v := nI 0) hx hb zd_M_clear_54 (by decide) ?_
              refine za_eqi (y := za_bi false) rfl ?_
              refine va_put (D := D) (ci := 5) (v := .int (za_bi false)) (ty := .boolean) (C := zs_M) (T := zt_M) (N := 12) hx hb hts zi_M zy_M zk_M zn_M hown hK hP hD hS 0 rfl rfl 3 (by decide) hf50 (fun _ h9 => h9) rfl (by decide +kernel) (za_nar _) (za_fit _) (Nat.le_of_ble_eq_true rfl) zd_M_clear_55 (fun H locs hP hD hS => ?_)
              have hP : va_P D vwCl [(aO, .inr (5, [.ref aMv, .int (nI 0), .ref aMc, .int (za_bi false), .ref aBr, .ref aCd, .ref aNx, .int (nI mkc), .ref aMk, .int (nI mpl), .ref aAt, .ref aAs])), (aMv, .inl (cZ, 2304, .inl (fun j => za_bi ((za_fb (fun _ => false) Mv i) j)))), (aMc, .inl (cI, 24, .inl (za_fl (fun _ => nI 0) Mc k)))] H := hP
              have hD : va_D A [(aO, .inr (5, [.ref aMv, .int (nI 0), .ref aMc, .int (za_bi false), .ref aBr, .ref aCd, .ref aNx, .int (nI mkc), .ref aMk, .int (nI mpl), .ref aAt, .ref aAs])), (aMv, .inl (cZ, 2304, .inl (fun j => za_bi ((za_fb (fun _ => false) Mv i) j)))), (aMc, .inl (cI, 24, .inl (za_fl (fun _ => nI 0) Mc k)))] := hD
              refine lv_iload_n hx hb zd_M_clear_58 rfl (lv_at hl 1 rfl) ?_
              have e1 : (za_fb (fun _ => false) Mv 2304) = (za_fb (fun _ => false) Mv i) := by first | with_reducible rfl | (congr 1; omega)
              have e2 : za_fl (fun _ => nI 0) Mc 24 = za_fl (fun _ => nI 0) Mc k := by first | with_reducible rfl | (congr 1; omega)
              have hP9 : va_P D vwCl [(aO, .inr (5, [.ref aMv, .int (nI 0), .ref aMc, .int (za_bi false), .ref aBr, .ref aCd, .ref aNx, .int (nI mkc), .ref aMk, .int (nI mpl), .ref aAt, .ref aAs])), (aMv, .inl (cZ, 2304, .inl (fun j => za_bi ((za_fb (fun _ => false) Mv 2304) j)))), (aMc, .inl (cI, 24, .inl (za_fl (fun _ => nI 0) Mc 24)))] H := by rw [e1, e2]; exact hP
              have hD9 : va_D A [(aO, .inr (5, [.ref aMv, .int (nI 0), .ref aMc, .int (za_bi false), .ref aBr, .ref aCd, .ref aNx, .int (nI mkc), .ref aMk, .int (nI mpl), .ref aAt, .ref aAs])), (aMv, .inl (cZ, 2304, .inl (fun j => za_bi ((za_fb (fun _ => false) Mv 2304) j)))), (aMc, .inl (cI, 24, .inl (za_fl (fun _ => nI 0) Mc 24)))] := by rw [e1, e2]; exact hD
              exact hret _ () _ _ _ _ (rfl) hP9 hD9 hS zd_M_clear_59
            · have h37 := za_nleN h37 (by omega) (by omega)
              refine lv_aload_n hx hb zd_M_clear_40 rfl (lv_at hl 0 rfl) ?_
              refine va_get (D := D) (ci := 5) (v := .ref aMc) (C := zs_M) (T := zt_M) (N := 12) hx hb hts zi_M hown hK hP 0 rfl rfl 2 (by decide) hf13 (fun _ h9 => h9) rfl zd_M_clear_41 ?_
              refine lv_iload_n hx hb zd_M_clear_44 rfl (lv_at hl 2 rfl) ?_
              refine lv_iconst (v := nI 0) hx hb zd_M_clear_45 (by decide) ?_
              refine za_ist hx hb hK hP hD hS 2 0 rfl rfl (k := k) (by omega) (by decide) zd_M_clear_46 (fun H locs hP hD hS => ?_)
              have hP : va_P D vwCl [(aO, .inr (5, [.ref aMv, .int (nI 0), .ref aMc, .int (za_bi kn), .ref aBr, .ref aCd, .ref aNx, .int (nI mkc), .ref aMk, .int (nI mpl), .ref aAt, .ref aAs])), (aMv, .inl (cZ, 2304, .inl (fun j => za_bi ((za_fb (fun _ => false) Mv i) j)))), (aMc, .inl (cI, 24, .inl (upd (za_fl (fun _ => nI 0) Mc k) k (nI 0))))] H := hP
              have hD : va_D A [(aO, .inr (5, [.ref aMv, .int (nI 0), .ref aMc, .int (za_bi kn), .ref aBr, .ref aCd, .ref aNx, .int (nI mkc), .ref aMk, .int (nI mpl), .ref aAt, .ref aAs])), (aMv, .inl (cZ, 2304, .inl (fun j => za_bi ((za_fb (fun _ => false) Mv i) j)))), (aMc, .inl (cI, 24, .inl (upd (za_fl (fun _ => nI 0) Mc k) k (nI 0))))] := hD
              refine lv_iinc (k := 2) (v := nI (k + 1)) (lv' := [(2, .int (nI (k + 1))), (0, .ref aO), (1, .int mn)]) hx hb zd_M_clear_47 hl rfl (za_inc _) (by decide) rfl (fun ls hl => ?_)
              refine lv_goto hx hb (tgt := 34) zd_M_clear_50 (by decide) ?_
              have e1 : za_fl (fun _ => nI 0) Mc (k + 1) = upd (za_fl (fun _ => nI 0) Mc k) k (nI 0) := by first | with_reducible rfl | (exact za_flU rfl)
              exact ih34 (k + 1) ls H locs (by omega) (by omega) (lv_sub hl [1, 2, 0] rfl) (by rw [e1]; exact hP) (by rw [e1]; exact hD) hS
        have e1 : za_fl (fun _ => nI 0) Mc 0 = Mc := by first | with_reducible rfl | (exact za_fl0 _ _)
        exact hC34 (24 - 0 + 1) 0 ls H locs (Nat.lt_succ_self _) (by omega) (lv_sub hl [1, 2, 0] rfl) (by rw [e1]; exact hP) (by rw [e1]; exact hD) hS
      · have h16 := za_nleN h16 (by omega) (by omega)
        refine lv_aload_n hx hb zd_M_clear_19 rfl (lv_at hl 0 rfl) ?_
        refine va_get (D := D) (ci := 5) (v := .ref aMv) (C := zs_M) (T := zt_M) (N := 12) hx hb hts zi_M hown hK hP 0 rfl rfl 0 (by decide) hf7 (fun _ h9 => h9) rfl zd_M_clear_20 ?_
        refine lv_iload_n hx hb zd_M_clear_23 rfl (lv_at hl 2 rfl) ?_
        refine lv_iconst (v := nI 0) hx hb zd_M_clear_24 (by decide) ?_
        refine za_eqi (y := za_bi false) rfl ?_
        refine za_zst hx hb hK hP hD hS 1 1 rfl rfl (k := i) (b := false) (by omega) (by decide) zd_M_clear_25 (fun H locs hP hD hS => ?_)
        have hP : va_P D vwCl [(aO, .inr (5, [.ref aMv, .int (nI 0), .ref aMc, .int (za_bi kn), .ref aBr, .ref aCd, .ref aNx, .int (nI mkc), .ref aMk, .int (nI mpl), .ref aAt, .ref aAs])), (aMv, .inl (cZ, 2304, .inl (fun j => za_bi (za_ub (za_fb (fun _ => false) Mv i) i false j)))), (aMc, .inl (cI, 24, .inl Mc))] H := hP
        have hD : va_D A [(aO, .inr (5, [.ref aMv, .int (nI 0), .ref aMc, .int (za_bi kn), .ref aBr, .ref aCd, .ref aNx, .int (nI mkc), .ref aMk, .int (nI mpl), .ref aAt, .ref aAs])), (aMv, .inl (cZ, 2304, .inl (fun j => za_bi (za_ub (za_fb (fun _ => false) Mv i) i false j)))), (aMc, .inl (cI, 24, .inl Mc))] := hD
        refine lv_iinc (k := 2) (v := nI (i + 1)) (lv' := [(2, .int (nI (i + 1))), (0, .ref aO), (1, .int mn)]) hx hb zd_M_clear_26 hl rfl (za_inc _) (by decide) rfl (fun ls hl => ?_)
        refine lv_goto hx hb (tgt := 12) zd_M_clear_29 (by decide) ?_
        have e1 : (za_fb (fun _ => false) Mv (i + 1)) = za_ub (za_fb (fun _ => false) Mv i) i false := by first | with_reducible rfl | (exact za_fbU rfl)
        exact ih12 (i + 1) ls H locs (by omega) (by omega) (lv_sub hl [1, 2, 0] rfl) (by rw [e1]; exact hP) (by rw [e1]; exact hD) hS
  have e1 : (za_fb (fun _ => false) Mv 0) = Mv := by first | with_reducible rfl | (exact za_fb0 _ _)
  exact hC12 (2304 - 0 + 1) 0 ls H locs (Nat.lt_succ_self _) (by omega) (lv_sub hl [2, 1, 0] rfl) (by rw [e1]; exact hP) (by rw [e1]; exact hD) hS
