theorem za_asum_s {Tg Co : Nat → Int32} {w v : Int32} {s t i n : Nat} {a b : Bool} (h : za_isp Tg Co w v = true) (hw : w = nI s) (hv : v = nI t) (hs : s < 24) (ht : t < 24) (h1 : za_at Tg Co s t (za_bn Tg Co s t - 1) i = a) (h2 : za_at Tg Co t s (za_bn Tg Co s t - 1) i = b) (hn : n = za_asum Tg Co w v i + (if a = true then 1 else 0) + (if b = true then 1 else 0)) : za_asum Tg Co w v (i + 1) = n := by
  rw [hn, za_asum_at h hw hv hs ht, za_asum_at h hw hv hs ht, za_cn, za_cn, h1, h2]
  cases a <;> cases b <;> simp <;> omega
def zr_M_attacks : Room := { frames := 5, cells := 0, slots := 0, locals := 118 }
set_option maxHeartbeats 2000000 in
set_option maxRecDepth 100000 in
theorem zc_M_attacks (ln : Launch) (D : va_G) (cI cZ : ClassId) (sz : Nat) (aO : Nat) (aMv : Nat) (aMc : Nat) (aBr : Nat) (aCd : Nat) (aNx : Nat) (aMk : Nat) (aAt : Nat) (aAs : Nat) (mkc : Nat) (mpl : Nat) (mn : Int32) (kn : Bool) (Mv : Nat → Bool) (Mc : Nat → Int32) (Br : Nat → Int32) (Cd : Nat → Bool) (Nx : Nat → Bool) (Mk : Nat → Int32) (Tg : Nat → Int32) (Co : Nat → Int32) (w : Int32) (v : Int32) (hMv : za_rel Tg Mv) (hMc : (∀ s, s < 24 → Mc s = Co s)) (hkn : kn = true → (za_brs Tg Co Br ∧ za_cds Tg Co Cd ∧ (∀ x, x < 24 → Mk x = za_kd Tg Co x) ∧ mkc = za_kc Tg Co)) : Met ln zm_M_attacks (Cond.code zm_M_attacks zo_M_attacks 6 (some .int) :: zb_big) zr_M_attacks (za_Pw D vwCl [(cI, .int), (cZ, .boolean)] [.ref aO, .int w, .int v] [(aO, .inr (5, [.ref aMv, .int mn, .ref aMc, .int (za_bi kn), .ref aBr, .ref aCd, .ref aNx, .int (nI mkc), .ref aMk, .int (nI mpl), .ref aAt, .ref aAs])), (aMv, .inl (cZ, 2304, .inl (fun j => za_bi (Mv j)))), (aMc, .inl (cI, 24, .inl Mc)), (aBr, .inl (cI, 576, .inl Br)), (aCd, .inl (cZ, 576, .inl (fun j => za_bi (Cd j)))), (aNx, .inl (cZ, 576, .inl (fun j => za_bi (Nx j)))), (aMk, .inl (cI, 24, .inl Mk))] sz) (va_Qi (fun (r : Int32) (u : (Nat → Int32) × (Nat → Bool) × (Nat → Bool) × (Nat → Int32)) => r = (if (za_isS w && za_isS v) = true then za_ac Tg Co (za_clp w) (za_clp v) else nI 0) ∧ za_brs Tg Co u.1 ∧ za_cds Tg Co u.2.1 ∧ (∀ x, x < 24 → u.2.2.2 x = za_kd Tg Co x)) (za_B D vwCl [(aO, .inr (5, [.ref aMv, .int mn, .ref aMc, .int (za_bi kn), .ref aBr, .ref aCd, .ref aNx, .int (nI mkc), .ref aMk, .int (nI mpl), .ref aAt, .ref aAs])), (aMv, .inl (cZ, 2304, .inl (fun j => za_bi (Mv j)))), (aMc, .inl (cI, 24, .inl Mc)), (aBr, .inl (cI, 576, .inl Br)), (aCd, .inl (cZ, 576, .inl (fun j => za_bi (Cd j)))), (aNx, .inl (cZ, 576, .inl (fun j => za_bi (Nx j)))), (aMk, .inl (cI, 24, .inl Mk))] sz (fun (u : (Nat → Int32) × (Nat → Bool) × (Nat → Bool) × (Nat → Int32)) => [(aO, .inr (5, [.ref aMv, .int mn, .ref aMc, .int (za_bi true), .ref aBr, .ref aCd, .ref aNx, .int (nI (za_kc Tg Co)), .ref aMk, .int (nI mpl), .ref aAt, .ref aAs])), (aMv, .inl (cZ, 2304, .inl (fun j => za_bi (Mv j)))), (aMc, .inl (cI, 24, .inl Mc)), (aBr, .inl (cI, 576, .inl u.1)), (aCd, .inl (cZ, 576, .inl (fun j => za_bi (u.2.1 j)))), (aNx, .inl (cZ, 576, .inl (fun j => za_bi (u.2.2.1 j)))), (aMk, .inl (cI, 24, .inl u.2.2.2))])) (va_A [(aO, .inr (5, [.ref aMv, .int mn, .ref aMc, .int (za_bi kn), .ref aBr, .ref aCd, .ref aNx, .int (nI mkc), .ref aMk, .int (nI mpl), .ref aAt, .ref aAs])), (aMv, .inl (cZ, 2304, .inl (fun j => za_bi (Mv j)))), (aMc, .inl (cI, 24, .inl Mc)), (aBr, .inl (cI, 576, .inl Br)), (aCd, .inl (cZ, 576, .inl (fun j => za_bi (Cd j)))), (aNx, .inl (cZ, 576, .inl (fun j => za_bi (Nx j)))), (aMk, .inl (cI, 24, .inl Mk))] sz)) 0 0 (va_A [(aO, .inr (5, [.ref aMv, .int mn, .ref aMc, .int (za_bi kn), .ref aBr, .ref aCd, .ref aNx, .int (nI mkc), .ref aMk, .int (nI mpl), .ref aAt, .ref aAs])), (aMv, .inl (cZ, 2304, .inl (fun j => za_bi (Mv j)))), (aMc, .inl (cI, 24, .inl Mc)), (aBr, .inl (cI, 576, .inl Br)), (aCd, .inl (cZ, 576, .inl (fun j => za_bi (Cd j)))), (aNx, .inl (cZ, 576, .inl (fun j => za_bi (Nx j)))), (aMk, .inl (cI, 24, .inl Mk))] sz) := by
  refine za_wi (cc := zo_M_attacks) (maxL := 6) (ty := .int) (by decide) (Nat.le_of_ble_eq_true rfl) (fun _ _ _ => rfl) ?_
  intro p e sg m args below meth c H0 A Q hx hb hml hts hown hmn hP hK hN hD hA hS hret ls hl
  have hP : va_P D vwCl [(aO, .inr (5, [.ref aMv, .int mn, .ref aMc, .int (za_bi kn), .ref aBr, .ref aCd, .ref aNx, .int (nI mkc), .ref aMk, .int (nI mpl), .ref aAt, .ref aAs])), (aMv, .inl (cZ, 2304, .inl (fun j => za_bi (Mv j)))), (aMc, .inl (cI, 24, .inl Mc)), (aBr, .inl (cI, 576, .inl Br)), (aCd, .inl (cZ, 576, .inl (fun j => za_bi (Cd j)))), (aNx, .inl (cZ, 576, .inl (fun j => za_bi (Nx j)))), (aMk, .inl (cI, 24, .inl Mk))] H0 := hP
  have hD : va_D A [(aO, .inr (5, [.ref aMv, .int mn, .ref aMc, .int (za_bi kn), .ref aBr, .ref aCd, .ref aNx, .int (nI mkc), .ref aMk, .int (nI mpl), .ref aAt, .ref aAs])), (aMv, .inl (cZ, 2304, .inl (fun j => za_bi (Mv j)))), (aMc, .inl (cI, 24, .inl Mc)), (aBr, .inl (cI, 576, .inl Br)), (aCd, .inl (cZ, 576, .inl (fun j => za_bi (Cd j)))), (aNx, .inl (cZ, 576, .inl (fun j => za_bi (Nx j)))), (aMk, .inl (cI, 24, .inl Mk))] := hD
  have hl : lv_has ls 6 [(0, .ref aO), (1, .int w), (2, .int v)] := hl
  have hf17 := hts _ zw_447
  refine lv_aload_n hx hb zd_M_attacks_0 rfl (lv_at hl 0 rfl) ?_
  refine za_wVv (As := []) (rest := []) (wr := []) (wz := (fun u => [(aO, .inr (5, [.ref aMv, .int mn, .ref aMc, .int (za_bi true), .ref aBr, .ref aCd, .ref aNx, .int (nI (za_kc Tg Co)), .ref aMk, .int (nI mpl), .ref aAt, .ref aAs])), (aMv, .inl (cZ, 2304, .inl (fun j => za_bi (Mv j)))), (aMc, .inl (cI, 24, .inl Mc)), (aBr, .inl (cI, 576, .inl u.1)), (aCd, .inl (cZ, 576, .inl (fun j => za_bi (u.2.1 j)))), (aNx, .inl (cZ, 576, .inl (fun j => za_bi (u.2.2.1 j)))), (aMk, .inl (cI, 24, .inl u.2.2.2))])) ⟨hx, hb, hml, hown, hts⟩ (zc_M_look ln D cI cZ _ aO aMv aMc aBr aCd aNx aMk aAt aAs mkc mpl mn kn Mv Mc Br Cd Nx Mk Tg Co (by exact hMv) (by exact hMc) (by exact hkn)) (za_gV 0 hts zw_515 zw_517 zw_20 zw_40 zw_518 (by decide +kernel) ⟨Nat.le_of_ble_eq_true rfl, Nat.le_of_ble_eq_true rfl⟩) hK hN hP hD hS hA [0, 1, 2, 3, 4, 5, 6] [] [0, 1, 2, 3, 4, 5, 6] rfl rfl (by decide) (by decide) (by decide) (by decide) (fun _ => rfl) (q0 := 0) rfl rfl hl rfl rfl (Nat.le_of_ble_eq_true rfl) zd_M_attacks_1 ⟨Nat.le_of_ble_eq_true rfl, Nat.le_of_ble_eq_true rfl⟩ (fun u1 H locs hq1 hP hD hS => ?_)
  obtain ⟨Br1_1, Cd1_1, Nx1_1, Mk1_1⟩ := u1
  have hP : va_P D vwCl [(aO, .inr (5, [.ref aMv, .int mn, .ref aMc, .int (za_bi true), .ref aBr, .ref aCd, .ref aNx, .int (nI (za_kc Tg Co)), .ref aMk, .int (nI mpl), .ref aAt, .ref aAs])), (aMv, .inl (cZ, 2304, .inl (fun j => za_bi (Mv j)))), (aMc, .inl (cI, 24, .inl Mc)), (aBr, .inl (cI, 576, .inl Br1_1)), (aCd, .inl (cZ, 576, .inl (fun j => za_bi (Cd1_1 j)))), (aNx, .inl (cZ, 576, .inl (fun j => za_bi (Nx1_1 j)))), (aMk, .inl (cI, 24, .inl Mk1_1))] H := hP
  have hD : va_D A [(aO, .inr (5, [.ref aMv, .int mn, .ref aMc, .int (za_bi true), .ref aBr, .ref aCd, .ref aNx, .int (nI (za_kc Tg Co)), .ref aMk, .int (nI mpl), .ref aAt, .ref aAs])), (aMv, .inl (cZ, 2304, .inl (fun j => za_bi (Mv j)))), (aMc, .inl (cI, 24, .inl Mc)), (aBr, .inl (cI, 576, .inl Br1_1)), (aCd, .inl (cZ, 576, .inl (fun j => za_bi (Cd1_1 j)))), (aNx, .inl (cZ, 576, .inl (fun j => za_bi (Nx1_1 j)))), (aMk, .inl (cI, 24, .inl Mk1_1))] := hD
  have hq1 : za_brs Tg Co Br1_1 ∧ za_cds Tg Co Cd1_1 ∧ (∀ x, x < 24 → Mk1_1 x = za_kd Tg Co x) := hq1
  refine lv_iconst (v := nI 0) hx hb zd_M_attacks_4 (by decide) ?_
  refine lv_istore_n (lv' := [(3, .int (nI 0)), (0, .ref aO), (1, .int w), (2, .int v)]) hx hb zd_M_attacks_5 rfl hl (by decide) rfl (fun ls hl => ?_)
  refine lv_iconst (v := nI 0) hx hb zd_M_attacks_6 (by decide) ?_
  refine lv_istore (lv' := [(4, .int (nI 0)), (3, .int (nI 0)), (0, .ref aO), (1, .int w), (2, .int v)]) hx hb zd_M_attacks_7 hl (by decide) rfl (fun ls hl => ?_)
  have hC9 : ∀ (n9 : Nat) (i : Nat) (ls : Array Slot) (H : Heap) (locs : List Loc), 96 - i < n9 → i ≤ 96 → lv_has ls 6 [(0, .ref aO), (1, .int w), (2, .int v), (3, .int (nI (za_asum Tg Co w v i))), (4, .int (nI i))] → va_P D vwCl [(aO, .inr (5, [.ref aMv, .int mn, .ref aMc, .int (za_bi true), .ref aBr, .ref aCd, .ref aNx, .int (nI (za_kc Tg Co)), .ref aMk, .int (nI mpl), .ref aAt, .ref aAs])), (aMv, .inl (cZ, 2304, .inl (fun j => za_bi (Mv j)))), (aMc, .inl (cI, 24, .inl Mc)), (aBr, .inl (cI, 576, .inl Br1_1)), (aCd, .inl (cZ, 576, .inl (fun j => za_bi (Cd1_1 j)))), (aNx, .inl (cZ, 576, .inl (fun j => za_bi (Nx1_1 j)))), (aMk, .inl (cI, 24, .inl Mk1_1))] H → va_D A [(aO, .inr (5, [.ref aMv, .int mn, .ref aMc, .int (za_bi true), .ref aBr, .ref aCd, .ref aNx, .int (nI (za_kc Tg Co)), .ref aMk, .int (nI mpl), .ref aAt, .ref aAs])), (aMv, .inl (cZ, 2304, .inl (fun j => za_bi (Mv j)))), (aMc, .inl (cI, 24, .inl Mc)), (aBr, .inl (cI, 576, .inl Br1_1)), (aCd, .inl (cZ, 576, .inl (fun j => za_bi (Cd1_1 j)))), (aNx, .inl (cZ, 576, .inl (fun j => za_bi (Nx1_1 j)))), (aMk, .inl (cI, 24, .inl Mk1_1))] → va_S A H0 H locs → W p ln e zr_M_attacks sg m args below meth c H locs 0 0 Q (F0 m 9 ls []) := by
    intro n9
    induction n9 with
    | zero => intro i ls H locs hn9 hi_i hl hP hD hS; exact absurd hn9 (Nat.not_lt_zero _)
    | succ n9 ih9 =>
      intro i ls H locs hn9 hi_i hl hP hD hS
      refine lv_iload hx hb zd_M_attacks_9 (lv_at hl 4 rfl) ?_
      refine lv_bipush (v := nI 96) hx hb zd_M_attacks_11 (by decide) ?_
      refine lv_icmp_ge hx hb (tgt := 88) zd_M_attacks_13 (by decide) (fun h13 => ?_) (fun h13 => ?_)
      · have h13 := za_leN h13 (by omega) (by omega)
        refine lv_iload_n hx hb zd_M_attacks_88 rfl (lv_at hl 3 rfl) ?_
        have hP9 : va_P D vwCl [(aO, .inr (5, [.ref aMv, .int mn, .ref aMc, .int (za_bi true), .ref aBr, .ref aCd, .ref aNx, .int (nI (za_kc Tg Co)), .ref aMk, .int (nI mpl), .ref aAt, .ref aAs])), (aMv, .inl (cZ, 2304, .inl (fun j => za_bi (Mv j)))), (aMc, .inl (cI, 24, .inl Mc)), (aBr, .inl (cI, 576, .inl Br1_1)), (aCd, .inl (cZ, 576, .inl (fun j => za_bi (Cd1_1 j)))), (aNx, .inl (cZ, 576, .inl (fun j => za_bi (Nx1_1 j)))), (aMk, .inl (cI, 24, .inl Mk1_1))] H := hP
        have hD9 : va_D A [(aO, .inr (5, [.ref aMv, .int mn, .ref aMc, .int (za_bi true), .ref aBr, .ref aCd, .ref aNx, .int (nI (za_kc Tg Co)), .ref aMk, .int (nI mpl), .ref aAt, .ref aAs])), (aMv, .inl (cZ, 2304, .inl (fun j => za_bi (Mv j)))), (aMc, .inl (cI, 24, .inl Mc)), (aBr, .inl (cI, 576, .inl Br1_1)), (aCd, .inl (cZ, 576, .inl (fun j => za_bi (Cd1_1 j)))), (aNx, .inl (cZ, 576, .inl (fun j => za_bi (Nx1_1 j)))), (aMk, .inl (cI, 24, .inl Mk1_1))] := hD
        have hQ9 : (nI (za_asum Tg Co w v i)) = (if (za_isS w && za_isS v) = true then za_ac Tg Co (za_clp w) (za_clp v) else nI 0) ∧ za_brs Tg Co Br1_1 ∧ za_cds Tg Co Cd1_1 ∧ (∀ x, x < 24 → Mk1_1 x = za_kd Tg Co x) := by first | exact ⟨za_asum_f h22, hq1⟩ | exact ⟨za_asum_e (show i = 96 by omega), hq1⟩
        exact hret _ ⟨Br1_1, Cd1_1, Nx1_1, Mk1_1⟩ _ _ _ _ (hQ9) hP9 hD9 hS zd_M_attacks_89
      · have h13 := za_nleN h13 (by omega) (by omega)
        refine lv_aload_n hx hb zd_M_attacks_16 rfl (lv_at hl 0 rfl) ?_
        refine lv_iload_n hx hb zd_M_attacks_17 rfl (lv_at hl 1 rfl) ?_
        refine lv_iload_n hx hb zd_M_attacks_18 rfl (lv_at hl 2 rfl) ?_
        refine za_cV (As := [.int w, .int v]) (rest := []) ⟨hx, hb, hml, hown, hts⟩ (zc_M_isPlayed ln D cI cZ aO aMv aMc aBr aCd aNx aMk aAt aAs (za_kc Tg Co) mpl mn true Br1_1 Tg Co w v (by exact hq1.1)) (za_gV 2 hts zw_587 zw_589 zw_29 zw_40 zw_590 (by decide +kernel) ⟨Nat.le_of_ble_eq_true rfl, Nat.le_of_ble_eq_true rfl⟩) hK hN hP [0, 3] rfl (q0 := 0) rfl rfl hl rfl rfl (Nat.le_of_ble_eq_true rfl) zd_M_attacks_19 ⟨Nat.le_of_ble_eq_true rfl, Nat.le_of_ble_eq_true rfl⟩ ?_
        refine lv_if_eq hx hb (tgt := 88) zd_M_attacks_22 (by decide) (fun h22 => ?_) (fun h22 => ?_)
        · have h22 := za_bF h22
          refine lv_iload_n hx hb zd_M_attacks_88 rfl (lv_at hl 3 rfl) ?_
          have hP9 : va_P D vwCl [(aO, .inr (5, [.ref aMv, .int mn, .ref aMc, .int (za_bi true), .ref aBr, .ref aCd, .ref aNx, .int (nI (za_kc Tg Co)), .ref aMk, .int (nI mpl), .ref aAt, .ref aAs])), (aMv, .inl (cZ, 2304, .inl (fun j => za_bi (Mv j)))), (aMc, .inl (cI, 24, .inl Mc)), (aBr, .inl (cI, 576, .inl Br1_1)), (aCd, .inl (cZ, 576, .inl (fun j => za_bi (Cd1_1 j)))), (aNx, .inl (cZ, 576, .inl (fun j => za_bi (Nx1_1 j)))), (aMk, .inl (cI, 24, .inl Mk1_1))] H := hP
          have hD9 : va_D A [(aO, .inr (5, [.ref aMv, .int mn, .ref aMc, .int (za_bi true), .ref aBr, .ref aCd, .ref aNx, .int (nI (za_kc Tg Co)), .ref aMk, .int (nI mpl), .ref aAt, .ref aAs])), (aMv, .inl (cZ, 2304, .inl (fun j => za_bi (Mv j)))), (aMc, .inl (cI, 24, .inl Mc)), (aBr, .inl (cI, 576, .inl Br1_1)), (aCd, .inl (cZ, 576, .inl (fun j => za_bi (Cd1_1 j)))), (aNx, .inl (cZ, 576, .inl (fun j => za_bi (Nx1_1 j)))), (aMk, .inl (cI, 24, .inl Mk1_1))] := hD
          have hQ9 : (nI (za_asum Tg Co w v i)) = (if (za_isS w && za_isS v) = true then za_ac Tg Co (za_clp w) (za_clp v) else nI 0) ∧ za_brs Tg Co Br1_1 ∧ za_cds Tg Co Cd1_1 ∧ (∀ x, x < 24 → Mk1_1 x = za_kd Tg Co x) := by first | exact ⟨za_asum_f h22, hq1⟩ | exact ⟨za_asum_e (show i = 96 by omega), hq1⟩
          exact hret _ ⟨Br1_1, Cd1_1, Nx1_1, Mk1_1⟩ _ _ _ _ (hQ9) hP9 hD9 hS zd_M_attacks_89
        · have h22 := za_bT h22
          obtain ⟨⟨s, hs0, hw⟩, ⟨t, ht0, hv9⟩, hpl⟩ := za_isp_of h22
          have hpl := za_isp_pl hpl hw hv9 hs0 ht0
          obtain ⟨hb24, hb0⟩ := za_pl_iff.mp hpl
          have hl : lv_has ls 6 [(0, .ref aO), (1, .int (nI s)), (2, .int v), (3, .int (nI (za_asum Tg Co w v i))), (4, .int (nI i))] := by rw [← hw]; exact hl
          have hl : lv_has ls 6 [(0, .ref aO), (1, .int (nI s)), (2, .int (nI t)), (3, .int (nI (za_asum Tg Co w v i))), (4, .int (nI i))] := by rw [← hv9]; exact hl
          refine lv_aload_n hx hb zd_M_attacks_25 rfl (lv_at hl 0 rfl) ?_
          refine va_get (D := D) (ci := 5) (v := .ref aBr) (C := zs_M) (T := zt_M) (N := 12) hx hb hts zi_M hown hK hP 0 rfl rfl 4 (by decide) hf17 (fun _ h9 => h9) rfl zd_M_attacks_26 ?_
          refine lv_bipush (v := nI 24) hx hb zd_M_attacks_29 (by decide) ?_
          refine lv_iload_n hx hb zd_M_attacks_31 rfl (lv_at hl 1 rfl) ?_
          refine za_mulN hx hb zd_M_attacks_32 ?_
          refine lv_iload_n hx hb zd_M_attacks_33 rfl (lv_at hl 2 rfl) ?_
          refine za_addN hx hb zd_M_attacks_34 ?_
          refine za_ild hx hb hK hP 3 0 rfl rfl (k := (24 * s) + t) (by omega) (by decide) zd_M_attacks_35 ?_
          refine za_eqi (y := nI (za_bn Tg Co s t)) (za_brs_bn hq1.1 hs0 ht0 hb24) ?_
          refine lv_iconst (v := nI 1) hx hb zd_M_attacks_36 (by decide) ?_
          refine za_subN hx hb (by omega) zd_M_attacks_37 ?_
          refine lv_istore (lv' := [(5, .int (nI ((za_bn Tg Co s t) - 1))), (0, .ref aO), (1, .int (nI s)), (2, .int (nI t)), (3, .int (nI (za_asum Tg Co w v i))), (4, .int (nI i))]) hx hb zd_M_attacks_38 hl (by decide) rfl (fun ls hl => ?_)
          refine lv_aload_n hx hb zd_M_attacks_40 rfl (lv_at hl 1 rfl) ?_
          refine lv_iload_n hx hb zd_M_attacks_41 rfl (lv_at hl 2 rfl) ?_
          refine lv_iload_n hx hb zd_M_attacks_42 rfl (lv_at hl 3 rfl) ?_
          refine lv_iload hx hb zd_M_attacks_43 (lv_at hl 5 rfl) ?_
          refine lv_iload hx hb zd_M_attacks_45 (lv_at hl 0 rfl) ?_
          refine za_cV (As := [.int (nI s), .int (nI t), .int (nI i), .int (nI ((za_bn Tg Co s t) - 1))]) (rest := []) ⟨hx, hb, hml, hown, hts⟩ (zc_M_isAttack ln D cI cZ aO aMv aMc aBr aCd aNx aMk aAt aAs (za_kc Tg Co) mpl mn true Mv Br1_1 s t i ((za_bn Tg Co s t) - 1) (by omega) (by omega) (by omega)) (za_gV 4 hts zw_591 zw_593 zw_30 zw_40 zw_594 (by decide +kernel) ⟨Nat.le_of_ble_eq_true rfl, Nat.le_of_ble_eq_true rfl⟩) hK hN hP [0, 1, 3] rfl (q0 := 0) rfl rfl hl rfl rfl (Nat.le_of_ble_eq_true rfl) zd_M_attacks_47 ⟨Nat.le_of_ble_eq_true rfl, Nat.le_of_ble_eq_true rfl⟩ ?_
          refine za_eqi (y := za_bi (za_at Tg Co s t (za_bn Tg Co s t - 1) i)) (by rw [za_mat_at hMv hq1.1 (by omega) hs0 ht0 (by omega)]) ?_
          refine lv_if_eq hx hb (tgt := 59) zd_M_attacks_50 (by decide) (fun h50 => ?_) (fun h50 => ?_)
          · have h50 := za_bF h50
            refine lv_iload_n hx hb zd_M_attacks_59 rfl (lv_at hl 4 rfl) ?_
            refine lv_istore_n (lv' := [(3, .int (nI (za_asum Tg Co w v i))), (5, .int (nI ((za_bn Tg Co s t) - 1))), (0, .ref aO), (1, .int (nI s)), (2, .int (nI t)), (4, .int (nI i))]) hx hb zd_M_attacks_60 rfl hl (by decide) rfl (fun ls hl => ?_)
            refine lv_aload_n hx hb zd_M_attacks_61 rfl (lv_at hl 2 rfl) ?_
            refine lv_iload_n hx hb zd_M_attacks_62 rfl (lv_at hl 4 rfl) ?_
            refine lv_iload_n hx hb zd_M_attacks_63 rfl (lv_at hl 3 rfl) ?_
            refine lv_iload hx hb zd_M_attacks_64 (lv_at hl 5 rfl) ?_
            refine lv_iload hx hb zd_M_attacks_66 (lv_at hl 1 rfl) ?_
            refine za_cV (As := [.int (nI t), .int (nI s), .int (nI i), .int (nI ((za_bn Tg Co s t) - 1))]) (rest := []) ⟨hx, hb, hml, hown, hts⟩ (zc_M_isAttack ln D cI cZ aO aMv aMc aBr aCd aNx aMk aAt aAs (za_kc Tg Co) mpl mn true Mv Br1_1 t s i ((za_bn Tg Co s t) - 1) (by omega) (by omega) (by omega)) (za_gV 4 hts zw_591 zw_593 zw_30 zw_40 zw_594 (by decide +kernel) ⟨Nat.le_of_ble_eq_true rfl, Nat.le_of_ble_eq_true rfl⟩) hK hN hP [0, 1, 3] rfl (q0 := 0) rfl rfl hl rfl rfl (Nat.le_of_ble_eq_true rfl) zd_M_attacks_68 ⟨Nat.le_of_ble_eq_true rfl, Nat.le_of_ble_eq_true rfl⟩ ?_
            refine za_eqi (y := za_bi (za_at Tg Co t s (za_bn Tg Co s t - 1) i)) (by rw [za_mat_at hMv hq1.1 (by omega) ht0 hs0 (by omega)]) ?_
            refine lv_if_eq hx hb (tgt := 80) zd_M_attacks_71 (by decide) (fun h71 => ?_) (fun h71 => ?_)
            · have h71 := za_bF h71
              refine lv_iload_n hx hb zd_M_attacks_80 rfl (lv_at hl 0 rfl) ?_
              refine lv_istore_n (lv' := [(3, .int (nI (za_asum Tg Co w v i))), (5, .int (nI ((za_bn Tg Co s t) - 1))), (0, .ref aO), (1, .int (nI s)), (2, .int (nI t)), (4, .int (nI i))]) hx hb zd_M_attacks_81 rfl hl (by decide) rfl (fun ls hl => ?_)
              refine lv_iinc (k := 5) (v := nI (i + 1)) (lv' := [(4, .int (nI (i + 1))), (3, .int (nI (za_asum Tg Co w v i))), (5, .int (nI ((za_bn Tg Co s t) - 1))), (0, .ref aO), (1, .int (nI s)), (2, .int (nI t))]) hx hb zd_M_attacks_82 hl rfl (za_inc _) (by decide) rfl (fun ls hl => ?_)
              refine lv_goto hx hb (tgt := 9) zd_M_attacks_85 (by decide) ?_
              have e1 : w = nI s := by first | with_reducible rfl | (first | exact hw | exact hv9 | exact congrArg nI (za_asum_s h22 hw hv9 hs0 ht0 h50 h71 (by simp only [if_true, if_false, Bool.false_eq_true, reduceIte] <;> omega)))
              have e2 : v = nI t := by first | with_reducible rfl | (first | exact hw | exact hv9 | exact congrArg nI (za_asum_s h22 hw hv9 hs0 ht0 h50 h71 (by simp only [if_true, if_false, Bool.false_eq_true, reduceIte] <;> omega)))
              have e3 : nI (za_asum Tg Co w v (i + 1)) = nI (za_asum Tg Co w v i) := by first | with_reducible rfl | (first | exact hw | exact hv9 | exact congrArg nI (za_asum_s h22 hw hv9 hs0 ht0 h50 h71 (by simp only [if_true, if_false, Bool.false_eq_true, reduceIte] <;> omega)))
              rw [← e1, ← e2] at hl
              exact ih9 (i + 1) ls H locs (by omega) (by omega) (by rw [e3]; exact lv_sub hl [3, 4, 5, 1, 0] rfl) hP hD hS
            · have h71 := za_bT h71
              refine lv_iload_n hx hb zd_M_attacks_74 rfl (lv_at hl 0 rfl) ?_
              refine lv_iconst (v := nI 1) hx hb zd_M_attacks_75 (by decide) ?_
              refine za_addN hx hb zd_M_attacks_76 ?_
              refine lv_goto hx hb (tgt := 81) zd_M_attacks_77 (by decide) ?_
              refine lv_istore_n (lv' := [(3, .int (nI ((za_asum Tg Co w v i) + 1))), (5, .int (nI ((za_bn Tg Co s t) - 1))), (0, .ref aO), (1, .int (nI s)), (2, .int (nI t)), (4, .int (nI i))]) hx hb zd_M_attacks_81 rfl hl (by decide) rfl (fun ls hl => ?_)
              refine lv_iinc (k := 5) (v := nI (i + 1)) (lv' := [(4, .int (nI (i + 1))), (3, .int (nI ((za_asum Tg Co w v i) + 1))), (5, .int (nI ((za_bn Tg Co s t) - 1))), (0, .ref aO), (1, .int (nI s)), (2, .int (nI t))]) hx hb zd_M_attacks_82 hl rfl (za_inc _) (by decide) rfl (fun ls hl => ?_)
              refine lv_goto hx hb (tgt := 9) zd_M_attacks_85 (by decide) ?_
              have e1 : w = nI s := by first | with_reducible rfl | (first | exact hw | exact hv9 | exact congrArg nI (za_asum_s h22 hw hv9 hs0 ht0 h50 h71 (by simp only [if_true, if_false, Bool.false_eq_true, reduceIte] <;> omega)))
              have e2 : v = nI t := by first | with_reducible rfl | (first | exact hw | exact hv9 | exact congrArg nI (za_asum_s h22 hw hv9 hs0 ht0 h50 h71 (by simp only [if_true, if_false, Bool.false_eq_true, reduceIte] <;> omega)))
              have e3 : nI (za_asum Tg Co w v (i + 1)) = nI ((za_asum Tg Co w v i) + 1) := by first | with_reducible rfl | (first | exact hw | exact hv9 | exact congrArg nI (za_asum_s h22 hw hv9 hs0 ht0 h50 h71 (by simp only [if_true, if_false, Bool.false_eq_true, reduceIte] <;> omega)))
              rw [← e1, ← e2] at hl
              exact ih9 (i + 1) ls H locs (by omega) (by omega) (by rw [e3]; exact lv_sub hl [3, 4, 5, 1, 0] rfl) hP hD hS
          · have h50 := za_bT h50
            refine lv_iload_n hx hb zd_M_attacks_53 rfl (lv_at hl 4 rfl) ?_
            refine lv_iconst (v := nI 1) hx hb zd_M_attacks_54 (by decide) ?_
            refine za_addN hx hb zd_M_attacks_55 ?_
            refine lv_goto hx hb (tgt := 60) zd_M_attacks_56 (by decide) ?_
            refine lv_istore_n (lv' := [(3, .int (nI ((za_asum Tg Co w v i) + 1))), (5, .int (nI ((za_bn Tg Co s t) - 1))), (0, .ref aO), (1, .int (nI s)), (2, .int (nI t)), (4, .int (nI i))]) hx hb zd_M_attacks_60 rfl hl (by decide) rfl (fun ls hl => ?_)
            refine lv_aload_n hx hb zd_M_attacks_61 rfl (lv_at hl 2 rfl) ?_
            refine lv_iload_n hx hb zd_M_attacks_62 rfl (lv_at hl 4 rfl) ?_
            refine lv_iload_n hx hb zd_M_attacks_63 rfl (lv_at hl 3 rfl) ?_
            refine lv_iload hx hb zd_M_attacks_64 (lv_at hl 5 rfl) ?_
            refine lv_iload hx hb zd_M_attacks_66 (lv_at hl 1 rfl) ?_
            refine za_cV (As := [.int (nI t), .int (nI s), .int (nI i), .int (nI ((za_bn Tg Co s t) - 1))]) (rest := []) ⟨hx, hb, hml, hown, hts⟩ (zc_M_isAttack ln D cI cZ aO aMv aMc aBr aCd aNx aMk aAt aAs (za_kc Tg Co) mpl mn true Mv Br1_1 t s i ((za_bn Tg Co s t) - 1) (by omega) (by omega) (by omega)) (za_gV 4 hts zw_591 zw_593 zw_30 zw_40 zw_594 (by decide +kernel) ⟨Nat.le_of_ble_eq_true rfl, Nat.le_of_ble_eq_true rfl⟩) hK hN hP [0, 1, 3] rfl (q0 := 0) rfl rfl hl rfl rfl (Nat.le_of_ble_eq_true rfl) zd_M_attacks_68 ⟨Nat.le_of_ble_eq_true rfl, Nat.le_of_ble_eq_true rfl⟩ ?_
            refine za_eqi (y := za_bi (za_at Tg Co t s (za_bn Tg Co s t - 1) i)) (by rw [za_mat_at hMv hq1.1 (by omega) ht0 hs0 (by omega)]) ?_
            refine lv_if_eq hx hb (tgt := 80) zd_M_attacks_71 (by decide) (fun h71 => ?_) (fun h71 => ?_)
            · have h71 := za_bF h71
              refine lv_iload_n hx hb zd_M_attacks_80 rfl (lv_at hl 0 rfl) ?_
              refine lv_istore_n (lv' := [(3, .int (nI ((za_asum Tg Co w v i) + 1))), (5, .int (nI ((za_bn Tg Co s t) - 1))), (0, .ref aO), (1, .int (nI s)), (2, .int (nI t)), (4, .int (nI i))]) hx hb zd_M_attacks_81 rfl hl (by decide) rfl (fun ls hl => ?_)
              refine lv_iinc (k := 5) (v := nI (i + 1)) (lv' := [(4, .int (nI (i + 1))), (3, .int (nI ((za_asum Tg Co w v i) + 1))), (5, .int (nI ((za_bn Tg Co s t) - 1))), (0, .ref aO), (1, .int (nI s)), (2, .int (nI t))]) hx hb zd_M_attacks_82 hl rfl (za_inc _) (by decide) rfl (fun ls hl => ?_)
              refine lv_goto hx hb (tgt := 9) zd_M_attacks_85 (by decide) ?_
              have e1 : w = nI s := by first | with_reducible rfl | (first | exact hw | exact hv9 | exact congrArg nI (za_asum_s h22 hw hv9 hs0 ht0 h50 h71 (by simp only [if_true, if_false, Bool.false_eq_true, reduceIte] <;> omega)))
              have e2 : v = nI t := by first | with_reducible rfl | (first | exact hw | exact hv9 | exact congrArg nI (za_asum_s h22 hw hv9 hs0 ht0 h50 h71 (by simp only [if_true, if_false, Bool.false_eq_true, reduceIte] <;> omega)))
              have e3 : nI (za_asum Tg Co w v (i + 1)) = nI ((za_asum Tg Co w v i) + 1) := by first | with_reducible rfl | (first | exact hw | exact hv9 | exact congrArg nI (za_asum_s h22 hw hv9 hs0 ht0 h50 h71 (by simp only [if_true, if_false, Bool.false_eq_true, reduceIte] <;> omega)))
              rw [← e1, ← e2] at hl
              exact ih9 (i + 1) ls H locs (by omega) (by omega) (by rw [e3]; exact lv_sub hl [3, 4, 5, 1, 0] rfl) hP hD hS
            · have h71 := za_bT h71
              refine lv_iload_n hx hb zd_M_attacks_74 rfl (lv_at hl 0 rfl) ?_
              refine lv_iconst (v := nI 1) hx hb zd_M_attacks_75 (by decide) ?_
              refine za_addN hx hb zd_M_attacks_76 ?_
              refine lv_goto hx hb (tgt := 81) zd_M_attacks_77 (by decide) ?_
              refine lv_istore_n (lv' := [(3, .int (nI (((za_asum Tg Co w v i) + 1) + 1))), (5, .int (nI ((za_bn Tg Co s t) - 1))), (0, .ref aO), (1, .int (nI s)), (2, .int (nI t)), (4, .int (nI i))]) hx hb zd_M_attacks_81 rfl hl (by decide) rfl (fun ls hl => ?_)
              refine lv_iinc (k := 5) (v := nI (i + 1)) (lv' := [(4, .int (nI (i + 1))), (3, .int (nI (((za_asum Tg Co w v i) + 1) + 1))), (5, .int (nI ((za_bn Tg Co s t) - 1))), (0, .ref aO), (1, .int (nI s)), (2, .int (nI t))]) hx hb zd_M_attacks_82 hl rfl (za_inc _) (by decide) rfl (fun ls hl => ?_)
              refine lv_goto hx hb (tgt := 9) zd_M_attacks_85 (by decide) ?_
              have e1 : w = nI s := by first | with_reducible rfl | (first | exact hw | exact hv9 | exact congrArg nI (za_asum_s h22 hw hv9 hs0 ht0 h50 h71 (by simp only [if_true, if_false, Bool.false_eq_true, reduceIte] <;> omega)))
              have e2 : v = nI t := by first | with_reducible rfl | (first | exact hw | exact hv9 | exact congrArg nI (za_asum_s h22 hw hv9 hs0 ht0 h50 h71 (by simp only [if_true, if_false, Bool.false_eq_true, reduceIte] <;> omega)))
              have e3 : nI (za_asum Tg Co w v (i + 1)) = nI (((za_asum Tg Co w v i) + 1) + 1) := by first | with_reducible rfl | (first | exact hw | exact hv9 | exact congrArg nI (za_asum_s h22 hw hv9 hs0 ht0 h50 h71 (by simp only [if_true, if_false, Bool.false_eq_true, reduceIte] <;> omega)))
              rw [← e1, ← e2] at hl
              exact ih9 (i + 1) ls H locs (by omega) (by omega) (by rw [e3]; exact lv_sub hl [3, 4, 5, 1, 0] rfl) hP hD hS
  have e1 : nI (za_asum Tg Co w v 0) = nI 0 := by first | with_reducible rfl | (unfold za_asum; split <;> rfl)
  exact hC9 (96 - 0 + 1) 0 ls H locs (Nat.lt_succ_self _) (by omega) (by rw [e1]; exact lv_sub hl [2, 3, 4, 1, 0] rfl) hP hD hS
