def zr_M_answerOf : Room := { frames := 1, cells := 0, slots := 0, locals := 23 }
set_option maxHeartbeats 2000000 in
set_option maxRecDepth 100000 in
theorem zc_M_answerOf (ln : Launch) (D : va_G) (cI cZ : ClassId) (aO : Nat) (aMv : Nat) (aMc : Nat) (aBr : Nat) (aCd : Nat) (aNx : Nat) (aMk : Nat) (aAt : Nat) (aAs : Nat) (mkc : Nat) (mpl : Nat) (mn : Int32) (kn : Bool) (Mv : Nat → Bool) (Br : Nat → Int32) (Tg : Nat → Int32) (Co : Nat → Int32) (t : Nat) (l : Nat) (u : Nat) (hMv : za_rel Tg Mv) (hBr : za_brs Tg Co Br) (ht0 : t < 24) (hl0 : l < 4) (hu0 : u < 24) (han : (∀ v, v < 24 → bt (Tg (t * 4 + l)) v = true → za_bn Tg Co u v < 24)) : Met ln zm_M_answerOf (Cond.code zm_M_answerOf zo_M_answerOf 7 (some .int) :: zb_big) zr_M_answerOf (za_Pr D vwCl [(cI, .int), (cZ, .boolean)] [.ref aO, .int (nI t), .int (nI l), .int (nI u)] [(aO, .inr (5, [.ref aMv, .int mn, .ref aMc, .int (za_bi kn), .ref aBr, .ref aCd, .ref aNx, .int (nI mkc), .ref aMk, .int (nI mpl), .ref aAt, .ref aAs])), (aMv, .inl (cZ, 2304, .inl (fun j => za_bi (Mv j)))), (aBr, .inl (cI, 576, .inl Br))]) (vp_Si (fun r => r = za_ai (za_bs (Tg (t * 4 + l)) (za_bn Tg Co u) 24))) 0 0 (fun _ => False) := by
  refine za_reader (cc := zo_M_answerOf) (maxL := 7) (ty := .int) (by decide) (Nat.le_of_ble_eq_true rfl) (fun _ _ => rfl) ?_
  intro p e sg m args below meth c H Q hx hb hml hts hown hP hK hN hret ls hl
  have hP : va_P D vwCl [(aO, .inr (5, [.ref aMv, .int mn, .ref aMc, .int (za_bi kn), .ref aBr, .ref aCd, .ref aNx, .int (nI mkc), .ref aMk, .int (nI mpl), .ref aAt, .ref aAs])), (aMv, .inl (cZ, 2304, .inl (fun j => za_bi (Mv j)))), (aBr, .inl (cI, 576, .inl Br))] H := hP
  have hl : lv_has ls 7 [(0, .ref aO), (1, .int (nI t)), (2, .int (nI l)), (3, .int (nI u))] := hl
  have hf17 := hts _ zw_447
  refine lv_iconst (v := (-1)) hx hb zd_M_answerOf_0 (by decide) ?_
  refine lv_istore (lv' := [(4, .int (-1)), (0, .ref aO), (1, .int (nI t)), (2, .int (nI l)), (3, .int (nI u))]) hx hb zd_M_answerOf_1 hl (by decide) rfl (fun ls hl => ?_)
  refine lv_iconst (v := nI 0) hx hb zd_M_answerOf_3 (by decide) ?_
  refine lv_istore (lv' := [(5, .int (nI 0)), (4, .int (-1)), (0, .ref aO), (1, .int (nI t)), (2, .int (nI l)), (3, .int (nI u))]) hx hb zd_M_answerOf_4 hl (by decide) rfl (fun ls hl => ?_)
  have hC6 : ∀ (n6 : Nat) (i : Nat) (ls : Array Slot), 24 - i < n6 → i ≤ 24 → lv_has ls 7 [(0, .ref aO), (1, .int (nI t)), (2, .int (nI l)), (3, .int (nI u)), (4, .int (za_ai (za_bs (Tg (t * 4 + l)) (za_bn Tg Co u) i))), (5, .int (nI i))] → W p ln e zr_M_answerOf sg m args below meth c H [] 0 0 Q (F0 m 6 ls []) := by
    intro n6
    induction n6 with
    | zero => intro i ls hn6 hi_i hl; exact absurd hn6 (Nat.not_lt_zero _)
    | succ n6 ih6 =>
      intro i ls hn6 hi_i hl
      refine lv_iload hx hb zd_M_answerOf_6 (lv_at hl 5 rfl) ?_
      refine lv_bipush (v := nI 24) hx hb zd_M_answerOf_8 (by decide) ?_
      refine lv_icmp_ge hx hb (tgt := 83) zd_M_answerOf_10 (by decide) (fun h10 => ?_) (fun h10 => ?_)
      · have h10 := za_leN h10 (by omega) (by omega)
        refine lv_iload hx hb zd_M_answerOf_83 (lv_at hl 4 rfl) ?_
        exact hret _ _ _ (by first | with_reducible rfl | (rw [show i = 24 by omega])) zd_M_answerOf_85
      · have h10 := za_nleN h10 (by omega) (by omega)
        refine lv_aload_n hx hb zd_M_answerOf_13 rfl (lv_at hl 0 rfl) ?_
        refine lv_iload_n hx hb zd_M_answerOf_14 rfl (lv_at hl 1 rfl) ?_
        refine lv_iload_n hx hb zd_M_answerOf_15 rfl (lv_at hl 2 rfl) ?_
        refine lv_iload hx hb zd_M_answerOf_16 (lv_at hl 5 rfl) ?_
        refine za_cV (As := [.int (nI t), .int (nI l), .int (nI i)]) (rest := []) ⟨hx, hb, hml, hown, hts⟩ (zc_M_has ln D cI cZ aO aMv aMc aBr aCd aNx aMk aAt aAs mkc mpl mn kn Mv t l i (by omega) (by omega) (by omega)) (za_gV 3 hts zw_491 zw_493 zw_19 zw_40 zw_494 (by decide +kernel) ⟨Nat.le_of_ble_eq_true rfl, Nat.le_of_ble_eq_true rfl⟩) hK hN hP [0, 1] rfl (q0 := 0) rfl rfl hl rfl rfl (Nat.le_of_ble_eq_true rfl) zd_M_answerOf_18 ⟨Nat.le_of_ble_eq_true rfl, Nat.le_of_ble_eq_true rfl⟩ ?_
        refine za_eqi (y := za_bi (bt (Tg (t * 4 + l)) i)) (by rw [hMv t l i ht0 hl0 (by omega)]) ?_
        have hJ61 : ∀ v : Int32, v = za_bi (za_bt9 (Tg (t * 4 + l)) (za_bn Tg Co u) i) → W p ln e zr_M_answerOf sg m args below meth c H [] 0 0 Q (F0 m 61 ls [.int v]) := by
          intro v hv
          subst hv
          refine lv_istore (lv' := [(6, .int (za_bi (za_bt9 (Tg (t * 4 + l)) (za_bn Tg Co u) i))), (0, .ref aO), (1, .int (nI t)), (2, .int (nI l)), (3, .int (nI u)), (4, .int (za_ai (za_bs (Tg (t * 4 + l)) (za_bn Tg Co u) i))), (5, .int (nI i))]) hx hb zd_M_answerOf_61 hl (by decide) rfl (fun ls hl => ?_)
          refine lv_iload hx hb zd_M_answerOf_63 (lv_at hl 0 rfl) ?_
          refine lv_if_eq hx hb (tgt := 73) zd_M_answerOf_65 (by decide) (fun h65 => ?_) (fun h65 => ?_)
          · have h65 := za_bF h65
            refine lv_iload hx hb zd_M_answerOf_73 (lv_at hl 5 rfl) ?_
            refine lv_istore (lv' := [(4, .int (za_ai (za_bs (Tg (t * 4 + l)) (za_bn Tg Co u) i))), (6, .int (za_bi (za_bt9 (Tg (t * 4 + l)) (za_bn Tg Co u) i))), (0, .ref aO), (1, .int (nI t)), (2, .int (nI l)), (3, .int (nI u)), (5, .int (nI i))]) hx hb zd_M_answerOf_75 hl (by decide) rfl (fun ls hl => ?_)
            refine lv_iinc (k := 6) (v := nI (i + 1)) (lv' := [(5, .int (nI (i + 1))), (4, .int (za_ai (za_bs (Tg (t * 4 + l)) (za_bn Tg Co u) i))), (6, .int (za_bi (za_bt9 (Tg (t * 4 + l)) (za_bn Tg Co u) i))), (0, .ref aO), (1, .int (nI t)), (2, .int (nI l)), (3, .int (nI u))]) hx hb zd_M_answerOf_77 hl rfl (za_inc _) (by decide) rfl (fun ls hl => ?_)
            refine lv_goto hx hb (tgt := 6) zd_M_answerOf_80 (by decide) ?_
            have e1 : za_ai (za_bs (Tg (t * 4 + l)) (za_bn Tg Co u) (i + 1)) = za_ai (za_bs (Tg (t * 4 + l)) (za_bn Tg Co u) i) := by first | with_reducible rfl | (exact za_bs_f h65)
            exact ih6 (i + 1) ls (by omega) (by omega) (by rw [e1]; exact lv_sub hl [3, 4, 5, 6, 1, 0] rfl)
          · have h65 := za_bT h65
            refine lv_iload hx hb zd_M_answerOf_68 (lv_at hl 6 rfl) ?_
            refine lv_goto hx hb (tgt := 75) zd_M_answerOf_70 (by decide) ?_
            refine lv_istore (lv' := [(4, .int (nI i)), (6, .int (za_bi (za_bt9 (Tg (t * 4 + l)) (za_bn Tg Co u) i))), (0, .ref aO), (1, .int (nI t)), (2, .int (nI l)), (3, .int (nI u)), (5, .int (nI i))]) hx hb zd_M_answerOf_75 hl (by decide) rfl (fun ls hl => ?_)
            refine lv_iinc (k := 6) (v := nI (i + 1)) (lv' := [(5, .int (nI (i + 1))), (4, .int (nI i)), (6, .int (za_bi (za_bt9 (Tg (t * 4 + l)) (za_bn Tg Co u) i))), (0, .ref aO), (1, .int (nI t)), (2, .int (nI l)), (3, .int (nI u))]) hx hb zd_M_answerOf_77 hl rfl (za_inc _) (by decide) rfl (fun ls hl => ?_)
            refine lv_goto hx hb (tgt := 6) zd_M_answerOf_80 (by decide) ?_
            have e1 : za_ai (za_bs (Tg (t * 4 + l)) (za_bn Tg Co u) (i + 1)) = nI i := by first | with_reducible rfl | (exact za_bs_t (by omega) h65)
            exact ih6 (i + 1) ls (by omega) (by omega) (by rw [e1]; exact lv_sub hl [3, 4, 5, 6, 1, 0] rfl)
        refine lv_if_eq hx hb (tgt := 60) zd_M_answerOf_21 (by decide) (fun h21 => ?_) (fun h21 => ?_)
        · have h21 := za_bF h21
          refine lv_iconst (v := nI 0) hx hb zd_M_answerOf_60 (by decide) ?_
          exact hJ61 _ (za_b0 (by exact za_bt1 h21))
        · have h21 := za_bT h21
          refine lv_iload hx hb zd_M_answerOf_24 (lv_at hl 4 rfl) ?_
          refine lv_if_lt hx hb (tgt := 56) zd_M_answerOf_26 (by decide) (fun h26 => ?_) (fun h26 => ?_)
          · skip
            refine lv_iconst (v := nI 1) hx hb zd_M_answerOf_56 (by decide) ?_
            refine lv_goto hx hb (tgt := 61) zd_M_answerOf_57 (by decide) ?_
            exact hJ61 _ (za_b1 (by exact za_bt2 (by omega) h21 h26))
          · skip
            obtain ⟨hb1, hbl, hbb⟩ := za_ai_of (show i ≤ 24 by omega) h26
            have hbn1 := han i (by omega) h21
            have hbn2 := han _ hbl hbb
            have hl : lv_has ls 7 [(0, .ref aO), (1, .int (nI t)), (2, .int (nI l)), (3, .int (nI u)), (4, .int (nI (za_bs (Tg (t * 4 + l)) (za_bn Tg Co u) i))), (5, .int (nI i))] := by rw [← hb1]; exact hl
            refine lv_aload_n hx hb zd_M_answerOf_29 rfl (lv_at hl 0 rfl) ?_
            refine va_get (D := D) (ci := 5) (v := .ref aBr) (C := zs_M) (T := zt_M) (N := 12) hx hb hts zi_M hown hK hP 0 rfl rfl 4 (by decide) hf17 (fun _ h9 => h9) rfl zd_M_answerOf_30 ?_
            refine lv_bipush (v := nI 24) hx hb zd_M_answerOf_33 (by decide) ?_
            refine lv_iload_n hx hb zd_M_answerOf_35 rfl (lv_at hl 3 rfl) ?_
            refine za_mulN hx hb zd_M_answerOf_36 ?_
            refine lv_iload hx hb zd_M_answerOf_37 (lv_at hl 5 rfl) ?_
            refine za_addN hx hb zd_M_answerOf_39 ?_
            refine za_ild hx hb hK hP 2 0 rfl rfl (k := (24 * u) + i) (by omega) (by decide) zd_M_answerOf_40 ?_
            refine za_eqi (y := nI (za_bn Tg Co u i)) (za_brs_bn hBr hu0 (by omega) (han i (by omega) h21)) ?_
            refine lv_aload_n hx hb zd_M_answerOf_41 rfl (lv_at hl 0 rfl) ?_
            refine va_get (D := D) (ci := 5) (v := .ref aBr) (C := zs_M) (T := zt_M) (N := 12) hx hb hts zi_M hown hK hP 0 rfl rfl 4 (by decide) hf17 (fun _ h9 => h9) rfl zd_M_answerOf_42 ?_
            refine lv_bipush (v := nI 24) hx hb zd_M_answerOf_45 (by decide) ?_
            refine lv_iload_n hx hb zd_M_answerOf_47 rfl (lv_at hl 3 rfl) ?_
            refine za_mulN hx hb zd_M_answerOf_48 ?_
            refine lv_iload hx hb zd_M_answerOf_49 (lv_at hl 4 rfl) ?_
            refine za_addN hx hb zd_M_answerOf_51 ?_
            refine za_ild hx hb hK hP 2 0 rfl rfl (k := (24 * u) + (za_bs (Tg (t * 4 + l)) (za_bn Tg Co u) i)) (by omega) (by decide) zd_M_answerOf_52 ?_
            refine za_eqi (y := nI (za_bn Tg Co u (za_bs (Tg (t * 4 + l)) (za_bn Tg Co u) i))) (za_brs_bn hBr hu0 hbl (han _ hbl hbb)) ?_
            refine lv_icmp_le hx hb (tgt := 60) zd_M_answerOf_53 (by decide) (fun h53 => ?_) (fun h53 => ?_)
            · have h53 := za_leN h53 (by omega) (by omega)
              refine lv_iconst (v := nI 0) hx hb zd_M_answerOf_60 (by decide) ?_
              exact hJ61 _ (za_b0 (by exact za_bt3 hbl h53))
            · have h53 := za_nleN h53 (by omega) (by omega)
              refine lv_iconst (v := nI 1) hx hb zd_M_answerOf_56 (by decide) ?_
              refine lv_goto hx hb (tgt := 61) zd_M_answerOf_57 (by decide) ?_
              exact hJ61 _ (za_b1 (by exact za_bt4 h21 h53))
  have e1 : za_ai (za_bs (Tg (t * 4 + l)) (za_bn Tg Co u) 0) = (-1) := by first | with_reducible rfl | (rfl)
  exact hC6 (24 - 0 + 1) 0 ls (Nat.lt_succ_self _) (by omega) (by rw [e1]; exact lv_sub hl [2, 3, 4, 5, 1, 0] rfl)
