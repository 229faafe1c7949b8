def zr_M_firstAttack : Room := { frames := 3, cells := 0, slots := 0, locals := 73 }
set_option maxHeartbeats 2000000 in
set_option maxRecDepth 100000 in
theorem zc_M_firstAttack (ln : Launch) (D : va_G) (cI cZ : ClassId) (aO : Nat) (aMv : Nat) (aMc : Nat) (aBr : Nat) (aCd : Nat) (aNx : Nat) (aMk : Nat) (aAt : Nat) (aAs : Nat) (mkc : Nat) (mpl : Nat) (mn : Int32) (kn : Bool) (Mv : Nat → Bool) (Br : Nat → Int32) (Tg : Nat → Int32) (Co : Nat → Int32) (s : Nat) (t : Nat) (hMv : za_rel Tg Mv) (hBr : za_brs Tg Co Br) (hs0 : s < 24) (ht0 : t < 24) (hpl : za_pl Tg Co s t = true) : Met ln zm_M_firstAttack (Cond.code zm_M_firstAttack zo_M_firstAttack 5 (some .int) :: zb_big) zr_M_firstAttack (za_Pr D vwCl [(cI, .int), (cZ, .boolean)] [.ref aO, .int (nI s), .int (nI t)] [(aO, .inr (5, [.ref aMv, .int mn, .ref aMc, .int (za_bi kn), .ref aBr, .ref aCd, .ref aNx, .int (nI mkc), .ref aMk, .int (nI mpl), .ref aAt, .ref aAs])), (aMv, .inl (cZ, 2304, .inl (fun j => za_bi (Mv j)))), (aBr, .inl (cI, 576, .inl Br))]) (vp_Si (fun r => r = nI (za_fa Tg Co s t))) 0 0 (fun _ => False) := by
  refine za_reader (cc := zo_M_firstAttack) (maxL := 5) (ty := .int) (by decide) (Nat.le_of_ble_eq_true rfl) (fun _ _ => rfl) ?_
  intro p e sg m args below meth c H Q hx hb hml hts hown hP hK hN hret ls hl
  have hP : va_P D vwCl [(aO, .inr (5, [.ref aMv, .int mn, .ref aMc, .int (za_bi kn), .ref aBr, .ref aCd, .ref aNx, .int (nI mkc), .ref aMk, .int (nI mpl), .ref aAt, .ref aAs])), (aMv, .inl (cZ, 2304, .inl (fun j => za_bi (Mv j)))), (aBr, .inl (cI, 576, .inl Br))] H := hP
  have hl : lv_has ls 5 [(0, .ref aO), (1, .int (nI s)), (2, .int (nI t))] := hl
  have hf17 := hts _ zw_447
  obtain ⟨hb24, hb0⟩ := za_pl_iff.mp hpl
  refine lv_aload_n hx hb zd_M_firstAttack_0 rfl (lv_at hl 0 rfl) ?_
  refine va_get (D := D) (ci := 5) (v := .ref aBr) (C := zs_M) (T := zt_M) (N := 12) hx hb hts zi_M hown hK hP 0 rfl rfl 4 (by decide) hf17 (fun _ h9 => h9) rfl zd_M_firstAttack_1 ?_
  refine lv_bipush (v := nI 24) hx hb zd_M_firstAttack_4 (by decide) ?_
  refine lv_iload_n hx hb zd_M_firstAttack_6 rfl (lv_at hl 1 rfl) ?_
  refine za_mulN hx hb zd_M_firstAttack_7 ?_
  refine lv_iload_n hx hb zd_M_firstAttack_8 rfl (lv_at hl 2 rfl) ?_
  refine za_addN hx hb zd_M_firstAttack_9 ?_
  refine za_ild hx hb hK hP 2 0 rfl rfl (k := (24 * s) + t) (by omega) (by decide) zd_M_firstAttack_10 ?_
  refine za_eqi (y := nI (za_bn Tg Co s t)) (za_brs_bn hBr hs0 ht0 hb24) ?_
  refine lv_iconst (v := nI 1) hx hb zd_M_firstAttack_11 (by decide) ?_
  refine za_subN hx hb (by omega) zd_M_firstAttack_12 ?_
  refine lv_istore_n (lv' := [(3, .int (nI ((za_bn Tg Co s t) - 1))), (0, .ref aO), (1, .int (nI s)), (2, .int (nI t))]) hx hb zd_M_firstAttack_13 rfl hl (by decide) rfl (fun ls hl => ?_)
  refine lv_iconst (v := nI 0) hx hb zd_M_firstAttack_14 (by decide) ?_
  refine lv_istore (lv' := [(4, .int (nI 0)), (3, .int (nI ((za_bn Tg Co s t) - 1))), (0, .ref aO), (1, .int (nI s)), (2, .int (nI t))]) hx hb zd_M_firstAttack_15 hl (by decide) rfl (fun ls hl => ?_)
  have hC71 : ∀  (i3 : Nat) (ls : Array Slot), i3 = za_fa Tg Co s t → lv_has ls 5 [(0, .ref aO), (1, .int (nI s)), (2, .int (nI t)), (3, .int (nI ((za_bn Tg Co s t) - 1))), (4, .int (nI i3))] → W p ln e zr_M_firstAttack sg m args below meth c H [] 0 0 Q (F0 m 71 ls []) := by
    intro i3 ls he hl
    refine lv_iload hx hb zd_M_firstAttack_71 (lv_at hl 4 rfl) ?_
    exact hret _ _ _ (by first | with_reducible rfl | (rw [he])) zd_M_firstAttack_73
  have hC17 : ∀ (n17 : Nat) (i : Nat) (ls : Array Slot), 192 - i < n17 → i ≤ 192 → (∀ z, z < i → (fun z => !za_fq Tg Co s t z) z = true) → lv_has ls 5 [(0, .ref aO), (1, .int (nI s)), (2, .int (nI t)), (3, .int (nI ((za_bn Tg Co s t) - 1))), (4, .int (nI i))] → W p ln e zr_M_firstAttack sg m args below meth c H [] 0 0 Q (F0 m 17 ls []) := by
    intro n17
    induction n17 with
    | zero => intro i ls hn17 hi_i hq hl; exact absurd hn17 (Nat.not_lt_zero _)
    | succ n17 ih17 =>
      intro i ls hn17 hi_i hq hl
      refine lv_iload hx hb zd_M_firstAttack_17 (lv_at hl 4 rfl) ?_
      refine lv_sipush (v := nI 192) hx hb zd_M_firstAttack_19 (by decide) ?_
      refine lv_icmp_ge hx hb (tgt := 71) zd_M_firstAttack_22 (by decide) (fun h22 => ?_) (fun h22 => ?_)
      · have h22 := za_leN h22 (by omega) (by omega)
        exact hC71 i ls (by exact za_fq3 (show i = 192 by omega) hq) (lv_sub hl [0, 1, 2, 3, 4] rfl)
      · have h22 := za_nleN h22 (by omega) (by omega)
        refine lv_iload hx hb zd_M_firstAttack_25 (lv_at hl 4 rfl) ?_
        refine lv_bipush (v := nI 96) hx hb zd_M_firstAttack_27 (by decide) ?_
        refine lv_icmp_ge hx hb (tgt := 47) zd_M_firstAttack_29 (by decide) (fun h29 => ?_) (fun h29 => ?_)
        · have h29 := za_leN h29 (by omega) (by omega)
          refine lv_aload_n hx hb zd_M_firstAttack_47 rfl (lv_at hl 0 rfl) ?_
          refine lv_iload_n hx hb zd_M_firstAttack_48 rfl (lv_at hl 2 rfl) ?_
          refine lv_iload_n hx hb zd_M_firstAttack_49 rfl (lv_at hl 1 rfl) ?_
          refine lv_iload hx hb zd_M_firstAttack_50 (lv_at hl 4 rfl) ?_
          refine lv_bipush (v := nI 96) hx hb zd_M_firstAttack_52 (by decide) ?_
          refine za_subN hx hb (by omega) zd_M_firstAttack_54 ?_
          refine lv_iload_n hx hb zd_M_firstAttack_55 rfl (lv_at hl 3 rfl) ?_
          refine za_cV (As := [.int (nI t), .int (nI s), .int (nI (i - 96)), .int (nI ((za_bn Tg Co s t) - 1))]) (rest := []) ⟨hx, hb, hml, hown, hts⟩ (zc_M_isAttack ln D cI cZ aO aMv aMc aBr aCd aNx aMk aAt aAs mkc mpl mn kn Mv Br t s (i - 96) ((za_bn Tg Co s t) - 1) (by omega) (by omega) (by omega)) (za_gV 4 hts zw_591 zw_593 zw_30 zw_40 zw_594 (by decide +kernel) ⟨Nat.le_of_ble_eq_true rfl, Nat.le_of_ble_eq_true rfl⟩) hK hN hP [0, 1, 2] rfl (q0 := 0) rfl rfl hl rfl rfl (Nat.le_of_ble_eq_true rfl) zd_M_firstAttack_56 ⟨Nat.le_of_ble_eq_true rfl, Nat.le_of_ble_eq_true rfl⟩ ?_
          refine za_eqi (y := za_bi (za_at Tg Co t s (za_bn Tg Co s t - 1) (i - 96))) (by rw [za_mat_at hMv hBr (by omega) ht0 hs0 (by omega)]) ?_
          refine lv_if_ne hx hb (tgt := 71) zd_M_firstAttack_59 (by decide) (fun h59 => ?_) (fun h59 => ?_)
          · have h59 := za_bT h59
            exact hC71 i ls (by exact za_fq5 (by omega) (by omega) hq h59) (lv_sub hl [0, 1, 2, 3, 4] rfl)
          · have h59 := za_bF h59
            refine lv_iload hx hb zd_M_firstAttack_62 (lv_at hl 4 rfl) ?_
            refine lv_iconst (v := nI 1) hx hb zd_M_firstAttack_64 (by decide) ?_
            refine za_addN hx hb zd_M_firstAttack_65 ?_
            refine lv_istore (lv' := [(4, .int (nI (i + 1))), (0, .ref aO), (1, .int (nI s)), (2, .int (nI t)), (3, .int (nI ((za_bn Tg Co s t) - 1)))]) hx hb zd_M_firstAttack_66 hl (by decide) rfl (fun ls hl => ?_)
            refine lv_goto hx hb (tgt := 17) zd_M_firstAttack_68 (by decide) ?_
            exact ih17 (i + 1) ls (by omega) (by omega) (by exact za_all_s (p := (fun z => !za_fq Tg Co s t z)) hq (by first | exact za_fq1 (by omega) h41 | exact za_fq2 (by omega) h59)) (lv_sub hl [1, 2, 3, 4, 0] rfl)
        · have h29 := za_nleN h29 (by omega) (by omega)
          refine lv_aload_n hx hb zd_M_firstAttack_32 rfl (lv_at hl 0 rfl) ?_
          refine lv_iload_n hx hb zd_M_firstAttack_33 rfl (lv_at hl 1 rfl) ?_
          refine lv_iload_n hx hb zd_M_firstAttack_34 rfl (lv_at hl 2 rfl) ?_
          refine lv_iload hx hb zd_M_firstAttack_35 (lv_at hl 4 rfl) ?_
          refine lv_iload_n hx hb zd_M_firstAttack_37 rfl (lv_at hl 3 rfl) ?_
          refine za_cV (As := [.int (nI s), .int (nI t), .int (nI i), .int (nI ((za_bn Tg Co s t) - 1))]) (rest := []) ⟨hx, hb, hml, hown, hts⟩ (zc_M_isAttack ln D cI cZ aO aMv aMc aBr aCd aNx aMk aAt aAs mkc mpl mn kn Mv Br s t i ((za_bn Tg Co s t) - 1) (by omega) (by omega) (by omega)) (za_gV 4 hts zw_591 zw_593 zw_30 zw_40 zw_594 (by decide +kernel) ⟨Nat.le_of_ble_eq_true rfl, Nat.le_of_ble_eq_true rfl⟩) hK hN hP [0, 1, 2] rfl (q0 := 0) rfl rfl hl rfl rfl (Nat.le_of_ble_eq_true rfl) zd_M_firstAttack_38 ⟨Nat.le_of_ble_eq_true rfl, Nat.le_of_ble_eq_true rfl⟩ ?_
          refine za_eqi (y := za_bi (za_at Tg Co s t (za_bn Tg Co s t - 1) i)) (by rw [za_mat_at hMv hBr (by omega) hs0 ht0 (by omega)]) ?_
          refine lv_if_eq hx hb (tgt := 62) zd_M_firstAttack_41 (by decide) (fun h41 => ?_) (fun h41 => ?_)
          · have h41 := za_bF h41
            refine lv_iload hx hb zd_M_firstAttack_62 (lv_at hl 4 rfl) ?_
            refine lv_iconst (v := nI 1) hx hb zd_M_firstAttack_64 (by decide) ?_
            refine za_addN hx hb zd_M_firstAttack_65 ?_
            refine lv_istore (lv' := [(4, .int (nI (i + 1))), (0, .ref aO), (1, .int (nI s)), (2, .int (nI t)), (3, .int (nI ((za_bn Tg Co s t) - 1)))]) hx hb zd_M_firstAttack_66 hl (by decide) rfl (fun ls hl => ?_)
            refine lv_goto hx hb (tgt := 17) zd_M_firstAttack_68 (by decide) ?_
            exact ih17 (i + 1) ls (by omega) (by omega) (by exact za_all_s (p := (fun z => !za_fq Tg Co s t z)) hq (by first | exact za_fq1 (by omega) h41 | exact za_fq2 (by omega) h59)) (lv_sub hl [1, 2, 3, 4, 0] rfl)
          · have h41 := za_bT h41
            refine lv_goto hx hb (tgt := 71) zd_M_firstAttack_44 (by decide) ?_
            exact hC71 i ls (by exact za_fq4 (by omega) hq h41) (lv_sub hl [0, 1, 2, 3, 4] rfl)
  exact hC17 (192 - 0 + 1) 0 ls (Nat.lt_succ_self _) (by omega) (by exact fun z hz => absurd hz (Nat.not_lt_zero _)) (lv_sub hl [2, 3, 4, 1, 0] rfl)
