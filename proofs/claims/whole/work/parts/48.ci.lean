def zr_M_isState : Room := { frames := 0, cells := 0, slots := 0, locals := 0 }
set_option maxHeartbeats 4000000 in
set_option maxRecDepth 100000 in
theorem zc_M_isState (ln : Launch) (D : va_G) (cI cZ : ClassId) (w : Int32) : Met ln zm_M_isState (Cond.code zm_M_isState zo_M_isState 1 (some .boolean) :: zb_big) zr_M_isState (za_Pr D vwCl [(cI, .int), (cZ, .boolean)] [.int w] []) (vp_Si (fun r => r = za_bi (za_isS w))) 0 0 (fun _ => False) := by
  refine za_reader (cc := zo_M_isState) (maxL := 1) (ty := .boolean) (by decide) (Nat.le_of_ble_eq_true rfl) (fun _ h => by rw [h]; exact za_nar _) ?_
  intro p e sg m args below meth c H Q hx hb hml hts hown hP hK hN hret ls hl
  have hP : va_P D vwCl [] H := hP
  have hl : lv_has ls 1 [(0, .int w)] := hl
  refine lv_iload_n hx hb zd_M_isState_0 rfl (lv_at hl 0 rfl) ?_
  refine lv_if_lt hx hb (tgt := 14) zd_M_isState_1 (by decide) (fun h1 => ?_) (fun h1 => ?_)
  · skip
    refine lv_iconst (v := nI 0) hx hb zd_M_isState_14 (by decide) ?_
    exact hret _ _ _ (za_b0 (by first | exact za_isS1 h1 h7 | exact za_isS2 h1 | exact za_isS3 h7)) zd_M_isState_15
  · skip
    refine lv_iload_n hx hb zd_M_isState_4 rfl (lv_at hl 0 rfl) ?_
    refine lv_bipush (v := nI 24) hx hb zd_M_isState_5 (by decide) ?_
    refine lv_icmp_ge hx hb (tgt := 14) zd_M_isState_7 (by decide) (fun h7 => ?_) (fun h7 => ?_)
    · skip
      refine lv_iconst (v := nI 0) hx hb zd_M_isState_14 (by decide) ?_
      exact hret _ _ _ (za_b0 (by first | exact za_isS1 h1 h7 | exact za_isS2 h1 | exact za_isS3 h7)) zd_M_isState_15
    · skip
      refine lv_iconst (v := nI 1) hx hb zd_M_isState_10 (by decide) ?_
      refine lv_goto hx hb (tgt := 15) zd_M_isState_11 (by decide) ?_
      exact hret _ _ _ (za_b1 (by first | exact za_isS1 h1 h7 | exact za_isS2 h1 | exact za_isS3 h7)) zd_M_isState_15
def zr_M_isLabel : Room := { frames := 0, cells := 0, slots := 0, locals := 0 }
set_option maxHeartbeats 4000000 in
set_option maxRecDepth 100000 in
theorem zc_M_isLabel (ln : Launch) (D : va_G) (cI cZ : ClassId) (w : Int32) : Met ln zm_M_isLabel (Cond.code zm_M_isLabel zo_M_isLabel 1 (some .boolean) :: zb_big) zr_M_isLabel (za_Pr D vwCl [(cI, .int), (cZ, .boolean)] [.int w] []) (vp_Si (fun r => r = za_bi (za_isL w))) 0 0 (fun _ => False) := by
  refine za_reader (cc := zo_M_isLabel) (maxL := 1) (ty := .boolean) (by decide) (Nat.le_of_ble_eq_true rfl) (fun _ h => by rw [h]; exact za_nar _) ?_
  intro p e sg m args below meth c H Q hx hb hml hts hown hP hK hN hret ls hl
  have hP : va_P D vwCl [] H := hP
  have hl : lv_has ls 1 [(0, .int w)] := hl
  refine lv_iload_n hx hb zd_M_isLabel_0 rfl (lv_at hl 0 rfl) ?_
  refine lv_if_lt hx hb (tgt := 13) zd_M_isLabel_1 (by decide) (fun h1 => ?_) (fun h1 => ?_)
  · skip
    refine lv_iconst (v := nI 0) hx hb zd_M_isLabel_13 (by decide) ?_
    exact hret _ _ _ (za_b0 (by first | exact za_isL1 h1 h6 | exact za_isL2 h1 | exact za_isL3 h6)) zd_M_isLabel_14
  · skip
    refine lv_iload_n hx hb zd_M_isLabel_4 rfl (lv_at hl 0 rfl) ?_
    refine lv_iconst (v := nI 4) hx hb zd_M_isLabel_5 (by decide) ?_
    refine lv_icmp_ge hx hb (tgt := 13) zd_M_isLabel_6 (by decide) (fun h6 => ?_) (fun h6 => ?_)
    · skip
      refine lv_iconst (v := nI 0) hx hb zd_M_isLabel_13 (by decide) ?_
      exact hret _ _ _ (za_b0 (by first | exact za_isL1 h1 h6 | exact za_isL2 h1 | exact za_isL3 h6)) zd_M_isLabel_14
    · skip
      refine lv_iconst (v := nI 1) hx hb zd_M_isLabel_9 (by decide) ?_
      refine lv_goto hx hb (tgt := 14) zd_M_isLabel_10 (by decide) ?_
      exact hret _ _ _ (za_b1 (by first | exact za_isL1 h1 h6 | exact za_isL2 h1 | exact za_isL3 h6)) zd_M_isLabel_14
def zr_M_has : Room := { frames := 0, cells := 0, slots := 0, locals := 0 }
set_option maxHeartbeats 4000000 in
set_option maxRecDepth 100000 in
theorem zc_M_has (ln : Launch) (D : va_G) (cI cZ : ClassId) (aO : Nat) (aMv : Nat) (aMc : Nat) (aBr : Nat) (aCd : Nat) (aNx : Nat) (aMk : Nat) (aAt : Nat) (aAs : Nat) (mkc : Nat) (mpl : Nat) (mn : Int32) (kn : Bool) (Mv : Nat → Bool) (s : Nat) (l : Nat) (t : Nat) (hs0 : s < 24) (hl0 : l < 4) (ht0 : t < 24) : Met ln zm_M_has (Cond.code zm_M_has zo_M_has 4 (some .boolean) :: zb_big) zr_M_has (za_Pr D vwCl [(cI, .int), (cZ, .boolean)] [.ref aO, .int (nI s), .int (nI l), .int (nI t)] [(aO, .inr (5, [.ref aMv, .int mn, .ref aMc, .int (za_bi kn), .ref aBr, .ref aCd, .ref aNx, .int (nI mkc), .ref aMk, .int (nI mpl), .ref aAt, .ref aAs])), (aMv, .inl (cZ, 2304, .inl (fun j => za_bi (Mv j))))]) (vp_Si (fun r => r = za_bi (Mv (96 * s + 24 * l + t)))) 0 0 (fun _ => False) := by
  refine za_reader (cc := zo_M_has) (maxL := 4) (ty := .boolean) (by decide) (Nat.le_of_ble_eq_true rfl) (fun _ h => by rw [h]; exact za_nar _) ?_
  intro p e sg m args below meth c H Q hx hb hml hts hown hP hK hN hret ls hl
  have hP : va_P D vwCl [(aO, .inr (5, [.ref aMv, .int mn, .ref aMc, .int (za_bi kn), .ref aBr, .ref aCd, .ref aNx, .int (nI mkc), .ref aMk, .int (nI mpl), .ref aAt, .ref aAs])), (aMv, .inl (cZ, 2304, .inl (fun j => za_bi (Mv j))))] H := hP
  have hl : lv_has ls 4 [(0, .ref aO), (1, .int (nI s)), (2, .int (nI l)), (3, .int (nI t))] := hl
  have hf7 := hts _ zw_443
  refine lv_aload_n hx hb zd_M_has_0 rfl (lv_at hl 0 rfl) ?_
  refine va_get (D := D) (ci := 5) (v := .ref aMv) (C := zs_M) (T := zt_M) (N := 12) hx hb hts zi_M hown hK hP 0 rfl rfl 0 (by decide) hf7 (fun _ h9 => h9) rfl zd_M_has_1 ?_
  refine lv_bipush (v := nI 96) hx hb zd_M_has_4 (by decide) ?_
  refine lv_iload_n hx hb zd_M_has_6 rfl (lv_at hl 1 rfl) ?_
  refine za_mulN hx hb zd_M_has_7 ?_
  refine lv_bipush (v := nI 24) hx hb zd_M_has_8 (by decide) ?_
  refine lv_iload_n hx hb zd_M_has_10 rfl (lv_at hl 2 rfl) ?_
  refine za_mulN hx hb zd_M_has_11 ?_
  refine za_addN hx hb zd_M_has_12 ?_
  refine lv_iload_n hx hb zd_M_has_13 rfl (lv_at hl 3 rfl) ?_
  refine za_addN hx hb zd_M_has_14 ?_
  refine za_zld hx hb hK hP 1 1 rfl rfl (k := ((96 * s) + (24 * l)) + t) (by omega) (by decide) zd_M_has_15 ?_
  exact hret _ _ _ (by first | with_reducible rfl | (simp [])) zd_M_has_16
def zr_M_answers : Room := { frames := 1, cells := 0, slots := 0, locals := 23 }
set_option maxHeartbeats 4000000 in
set_option maxRecDepth 100000 in
theorem zc_M_answers (ln : Launch) (D : va_G) (cI cZ : ClassId) (aO : Nat) (aMv : Nat) (aMc : Nat) (aBr : Nat) (aCd : Nat) (aNx : Nat) (aMk : Nat) (aAt : Nat) (aAs : Nat) (mkc : Nat) (mpl : Nat) (mn : Int32) (kn : Bool) (Mv : Nat → Bool) (Br : Nat → Int32) (t : Nat) (l : Nat) (u : Nat) (k : Nat) (ht0 : t < 24) (hl0 : l < 4) (hu0 : u < 24) : Met ln zm_M_answers (Cond.code zm_M_answers zo_M_answers 7 (some .boolean) :: zb_big) zr_M_answers (za_Pr D vwCl [(cI, .int), (cZ, .boolean)] [.ref aO, .int (nI t), .int (nI l), .int (nI u), .int (nI k)] [(aO, .inr (5, [.ref aMv, .int mn, .ref aMc, .int (za_bi kn), .ref aBr, .ref aCd, .ref aNx, .int (nI mkc), .ref aMk, .int (nI mpl), .ref aAt, .ref aAs])), (aMv, .inl (cZ, 2304, .inl (fun j => za_bi (Mv j)))), (aBr, .inl (cI, 576, .inl Br))]) (vp_Si (fun r => r = za_bi (za_mans Mv Br t l u k))) 0 0 (fun _ => False) := by
  refine za_reader (cc := zo_M_answers) (maxL := 7) (ty := .boolean) (by decide) (Nat.le_of_ble_eq_true rfl) (fun _ h => by rw [h]; exact za_nar _) ?_
  intro p e sg m args below meth c H Q hx hb hml hts hown hP hK hN hret ls hl
  have hP : va_P D vwCl [(aO, .inr (5, [.ref aMv, .int mn, .ref aMc, .int (za_bi kn), .ref aBr, .ref aCd, .ref aNx, .int (nI mkc), .ref aMk, .int (nI mpl), .ref aAt, .ref aAs])), (aMv, .inl (cZ, 2304, .inl (fun j => za_bi (Mv j)))), (aBr, .inl (cI, 576, .inl Br))] H := hP
  have hl : lv_has ls 7 [(0, .ref aO), (1, .int (nI t)), (2, .int (nI l)), (3, .int (nI u)), (4, .int (nI k))] := hl
  have hf17 := hts _ zw_447
  refine lv_iconst (v := nI 0) hx hb zd_M_answers_0 (by decide) ?_
  refine lv_istore (lv' := [(5, .int (nI 0)), (0, .ref aO), (1, .int (nI t)), (2, .int (nI l)), (3, .int (nI u)), (4, .int (nI k))]) hx hb zd_M_answers_1 hl (by decide) rfl (fun ls hl => ?_)
  refine lv_iconst (v := nI 0) hx hb zd_M_answers_3 (by decide) ?_
  refine lv_istore (lv' := [(6, .int (nI 0)), (5, .int (nI 0)), (0, .ref aO), (1, .int (nI t)), (2, .int (nI l)), (3, .int (nI u)), (4, .int (nI k))]) hx hb zd_M_answers_4 hl (by decide) rfl (fun ls hl => ?_)
  have hC6 : ∀ (n6 : Nat) (i : Nat) (ls : Array Slot), 24 - i < n6 → i ≤ 24 → lv_has ls 7 [(0, .ref aO), (1, .int (nI t)), (2, .int (nI l)), (3, .int (nI u)), (4, .int (nI k)), (5, .int (za_bi (za_ex (fun x => Mv (96 * t + 24 * l + x) && !decide (Br (24 * u + x) ≤ nI k)) i))), (6, .int (nI i))] → W p ln e zr_M_answers sg m args below meth c H [] 0 0 Q (F0 m 6 ls []) := by
    intro n6
    induction n6 with
    | zero => intro i ls hn6 hi_i hl; exact absurd hn6 (Nat.not_lt_zero _)
    | succ n6 ih6 =>
      intro i ls hn6 hi_i hl
      refine lv_iload hx hb zd_M_answers_6 (lv_at hl 6 rfl) ?_
      refine lv_bipush (v := nI 24) hx hb zd_M_answers_8 (by decide) ?_
      refine lv_icmp_ge hx hb (tgt := 59) zd_M_answers_10 (by decide) (fun h10 => ?_) (fun h10 => ?_)
      · have h10 := za_leN h10 (by omega) (by omega)
        refine lv_iload hx hb zd_M_answers_59 (lv_at hl 5 rfl) ?_
        exact hret _ _ _ (by first | with_reducible rfl | (unfold za_mans; rw [show i = 24 by omega])) zd_M_answers_61
      · have h10 := za_nleN h10 (by omega) (by omega)
        refine lv_iload hx hb zd_M_answers_13 (lv_at hl 5 rfl) ?_
        refine lv_if_ne hx hb (tgt := 46) zd_M_answers_15 (by decide) (fun h15 => ?_) (fun h15 => ?_)
        · have h15 := za_bT h15
          refine lv_iconst (v := nI 1) hx hb zd_M_answers_46 (by decide) ?_
          refine lv_goto hx hb (tgt := 51) zd_M_answers_47 (by decide) ?_
          refine lv_istore (lv' := [(5, .int (nI 1)), (0, .ref aO), (1, .int (nI t)), (2, .int (nI l)), (3, .int (nI u)), (4, .int (nI k)), (6, .int (nI i))]) hx hb zd_M_answers_51 hl (by decide) rfl (fun ls hl => ?_)
          refine lv_iinc (k := 6) (v := nI (i + 1)) (lv' := [(6, .int (nI (i + 1))), (5, .int (nI 1)), (0, .ref aO), (1, .int (nI t)), (2, .int (nI l)), (3, .int (nI u)), (4, .int (nI k))]) hx hb zd_M_answers_53 hl rfl (za_inc _) (by decide) rfl (fun ls hl => ?_)
          refine lv_goto hx hb (tgt := 6) zd_M_answers_56 (by decide) ?_
          have e1 : za_bi (za_ex (fun x => Mv (96 * t + 24 * l + x) && !decide (Br (24 * u + x) ≤ nI k)) (i + 1)) = nI 1 := by first | with_reducible rfl | (simp [za_ex, za_bi1, za_bi0, h10, h15])
          exact ih6 (i + 1) ls (by omega) (by omega) (by rw [e1]; exact lv_sub hl [2, 3, 4, 5, 6, 1, 0] rfl)
        · have h15 := za_bF h15
          refine lv_aload_n hx hb zd_M_answers_18 rfl (lv_at hl 0 rfl) ?_
          refine lv_iload_n hx hb zd_M_answers_19 rfl (lv_at hl 1 rfl) ?_
          refine lv_iload_n hx hb zd_M_answers_20 rfl (lv_at hl 2 rfl) ?_
          refine lv_iload hx hb zd_M_answers_21 (lv_at hl 6 rfl) ?_
          refine za_cV (As := [.int (nI t), .int (nI l), .int (nI i)]) (rest := []) ⟨hx, hb, hml, hown, hts⟩ (zc_M_has ln D cI cZ aO aMv aMc aBr aCd aNx aMk aAt aAs mkc mpl mn kn Mv t l i (by omega) (by omega) (by omega)) (za_gV 3 hts zw_491 zw_493 zw_19 zw_40 zw_494 (by decide +kernel) ⟨Nat.le_of_ble_eq_true rfl, Nat.le_of_ble_eq_true rfl⟩) hK hN hP [0, 1] rfl (q0 := 0) rfl rfl hl rfl rfl (Nat.le_of_ble_eq_true rfl) zd_M_answers_23 ⟨Nat.le_of_ble_eq_true rfl, Nat.le_of_ble_eq_true rfl⟩ ?_
          refine lv_if_eq hx hb (tgt := 50) zd_M_answers_26 (by decide) (fun h26 => ?_) (fun h26 => ?_)
          · have h26 := za_bF h26
            refine lv_iconst (v := nI 0) hx hb zd_M_answers_50 (by decide) ?_
            refine lv_istore (lv' := [(5, .int (nI 0)), (0, .ref aO), (1, .int (nI t)), (2, .int (nI l)), (3, .int (nI u)), (4, .int (nI k)), (6, .int (nI i))]) hx hb zd_M_answers_51 hl (by decide) rfl (fun ls hl => ?_)
            refine lv_iinc (k := 6) (v := nI (i + 1)) (lv' := [(6, .int (nI (i + 1))), (5, .int (nI 0)), (0, .ref aO), (1, .int (nI t)), (2, .int (nI l)), (3, .int (nI u)), (4, .int (nI k))]) hx hb zd_M_answers_53 hl rfl (za_inc _) (by decide) rfl (fun ls hl => ?_)
            refine lv_goto hx hb (tgt := 6) zd_M_answers_56 (by decide) ?_
            have e1 : za_bi (za_ex (fun x => Mv (96 * t + 24 * l + x) && !decide (Br (24 * u + x) ≤ nI k)) (i + 1)) = nI 0 := by first | with_reducible rfl | (simp [za_ex, za_bi1, za_bi0, h10, h15, h26])
            exact ih6 (i + 1) ls (by omega) (by omega) (by rw [e1]; exact lv_sub hl [2, 3, 4, 5, 6, 1, 0] rfl)
          · have h26 := za_bT h26
            refine lv_aload_n hx hb zd_M_answers_29 rfl (lv_at hl 0 rfl) ?_
            refine va_get (D := D) (ci := 5) (v := .ref aBr) (C := zs_M) (T := zt_M) (N := 12) hx hb hts zi_M hown hK hP 0 rfl rfl 4 (by decide) hf17 (fun _ h9 => h9) rfl zd_M_answers_30 ?_
            refine lv_bipush (v := nI 24) hx hb zd_M_answers_33 (by decide) ?_
            refine lv_iload_n hx hb zd_M_answers_35 rfl (lv_at hl 3 rfl) ?_
            refine za_mulN hx hb zd_M_answers_36 ?_
            refine lv_iload hx hb zd_M_answers_37 (lv_at hl 6 rfl) ?_
            refine za_addN hx hb zd_M_answers_39 ?_
            refine za_ild hx hb hK hP 2 0 rfl rfl (k := (24 * u) + i) (by omega) (by decide) zd_M_answers_40 ?_
            refine lv_iload hx hb zd_M_answers_41 (lv_at hl 4 rfl) ?_
            refine lv_icmp_le hx hb (tgt := 50) zd_M_answers_43 (by decide) (fun h43 => ?_) (fun h43 => ?_)
            · skip
              refine lv_iconst (v := nI 0) hx hb zd_M_answers_50 (by decide) ?_
              refine lv_istore (lv' := [(5, .int (nI 0)), (0, .ref aO), (1, .int (nI t)), (2, .int (nI l)), (3, .int (nI u)), (4, .int (nI k)), (6, .int (nI i))]) hx hb zd_M_answers_51 hl (by decide) rfl (fun ls hl => ?_)
              refine lv_iinc (k := 6) (v := nI (i + 1)) (lv' := [(6, .int (nI (i + 1))), (5, .int (nI 0)), (0, .ref aO), (1, .int (nI t)), (2, .int (nI l)), (3, .int (nI u)), (4, .int (nI k))]) hx hb zd_M_answers_53 hl rfl (za_inc _) (by decide) rfl (fun ls hl => ?_)
              refine lv_goto hx hb (tgt := 6) zd_M_answers_56 (by decide) ?_
              have e1 : za_bi (za_ex (fun x => Mv (96 * t + 24 * l + x) && !decide (Br (24 * u + x) ≤ nI k)) (i + 1)) = nI 0 := by first | with_reducible rfl | (simp [za_ex, za_bi1, za_bi0, h10, h15, h26, h43])
              exact ih6 (i + 1) ls (by omega) (by omega) (by rw [e1]; exact lv_sub hl [2, 3, 4, 5, 6, 1, 0] rfl)
            · skip
              refine lv_iconst (v := nI 1) hx hb zd_M_answers_46 (by decide) ?_
              refine lv_goto hx hb (tgt := 51) zd_M_answers_47 (by decide) ?_
              refine lv_istore (lv' := [(5, .int (nI 1)), (0, .ref aO), (1, .int (nI t)), (2, .int (nI l)), (3, .int (nI u)), (4, .int (nI k)), (6, .int (nI i))]) hx hb zd_M_answers_51 hl (by decide) rfl (fun ls hl => ?_)
              refine lv_iinc (k := 6) (v := nI (i + 1)) (lv' := [(6, .int (nI (i + 1))), (5, .int (nI 1)), (0, .ref aO), (1, .int (nI t)), (2, .int (nI l)), (3, .int (nI u)), (4, .int (nI k))]) hx hb zd_M_answers_53 hl rfl (za_inc _) (by decide) rfl (fun ls hl => ?_)
              refine lv_goto hx hb (tgt := 6) zd_M_answers_56 (by decide) ?_
              have e1 : za_bi (za_ex (fun x => Mv (96 * t + 24 * l + x) && !decide (Br (24 * u + x) ≤ nI k)) (i + 1)) = nI 1 := by first | with_reducible rfl | (simp [za_ex, za_bi1, za_bi0, h10, h15, h26, h43])
              exact ih6 (i + 1) ls (by omega) (by omega) (by rw [e1]; exact lv_sub hl [2, 3, 4, 5, 6, 1, 0] rfl)
  have e1 : za_bi (za_ex (fun x => Mv (96 * t + 24 * l + x) && !decide (Br (24 * u + x) ≤ nI k)) 0) = nI 0 := by first | with_reducible rfl | (rfl)
  exact hC6 (24 - 0 + 1) 0 ls (Nat.lt_succ_self _) (by omega) (by rw [e1]; exact lv_sub hl [2, 3, 4, 5, 6, 1, 0] rfl)
def zr_M_follows : Room := { frames := 2, cells := 0, slots := 0, locals := 49 }
set_option maxHeartbeats 4000000 in
set_option maxRecDepth 100000 in
theorem zc_M_follows (ln : Launch) (D : va_G) (cI cZ : ClassId) (aO : Nat) (aMv : Nat) (aMc : Nat) (aBr : Nat) (aCd : Nat) (aNx : Nat) (aMk : Nat) (aAt : Nat) (aAs : Nat) (mkc : Nat) (mpl : Nat) (mn : Int32) (kn : Bool) (Mv : Nat → Bool) (Br : Nat → Int32) (s : Nat) (t : Nat) (k : Nat) (hs0 : s < 24) (ht0 : t < 24) : Met ln zm_M_follows (Cond.code zm_M_follows zo_M_follows 6 (some .boolean) :: zb_big) zr_M_follows (za_Pr D vwCl [(cI, .int), (cZ, .boolean)] [.ref aO, .int (nI s), .int (nI t), .int (nI k)] [(aO, .inr (5, [.ref aMv, .int mn, .ref aMc, .int (za_bi kn), .ref aBr, .ref aCd, .ref aNx, .int (nI mkc), .ref aMk, .int (nI mpl), .ref aAt, .ref aAs])), (aMv, .inl (cZ, 2304, .inl (fun j => za_bi (Mv j)))), (aBr, .inl (cI, 576, .inl Br))]) (vp_Si (fun r => r = za_bi (za_mfol Mv Br s t k))) 0 0 (fun _ => False) := by
  refine za_reader (cc := zo_M_follows) (maxL := 6) (ty := .boolean) (by decide) (Nat.le_of_ble_eq_true rfl) (fun _ h => by rw [h]; exact za_nar _) ?_
  intro p e sg m args below meth c H Q hx hb hml hts hown hP hK hN hret ls hl
  have hP : va_P D vwCl [(aO, .inr (5, [.ref aMv, .int mn, .ref aMc, .int (za_bi kn), .ref aBr, .ref aCd, .ref aNx, .int (nI mkc), .ref aMk, .int (nI mpl), .ref aAt, .ref aAs])), (aMv, .inl (cZ, 2304, .inl (fun j => za_bi (Mv j)))), (aBr, .inl (cI, 576, .inl Br))] H := hP
  have hl : lv_has ls 6 [(0, .ref aO), (1, .int (nI s)), (2, .int (nI t)), (3, .int (nI k))] := hl
  have hf7 := hts _ zw_443
  refine lv_iconst (v := nI 1) hx hb zd_M_follows_0 (by decide) ?_
  refine lv_istore (lv' := [(4, .int (nI 1)), (0, .ref aO), (1, .int (nI s)), (2, .int (nI t)), (3, .int (nI k))]) hx hb zd_M_follows_1 hl (by decide) rfl (fun ls hl => ?_)
  refine lv_iconst (v := nI 0) hx hb zd_M_follows_3 (by decide) ?_
  refine lv_istore (lv' := [(5, .int (nI 0)), (4, .int (nI 1)), (0, .ref aO), (1, .int (nI s)), (2, .int (nI t)), (3, .int (nI k))]) hx hb zd_M_follows_4 hl (by decide) rfl (fun ls hl => ?_)
  have hC6 : ∀ (n6 : Nat) (i : Nat) (ls : Array Slot), 96 - i < n6 → i ≤ 96 → lv_has ls 6 [(0, .ref aO), (1, .int (nI s)), (2, .int (nI t)), (3, .int (nI k)), (4, .int (za_bi (za_al (fun x => !Mv (96 * s + x) || za_mans Mv Br t (x / 24) (x % 24) k) i))), (5, .int (nI i))] → W p ln e zr_M_follows sg m args below meth c H [] 0 0 Q (F0 m 6 ls []) := by
    intro n6
    induction n6 with
    | zero => intro i ls hn6 hi_i hl; exact absurd hn6 (Nat.not_lt_zero _)
    | succ n6 ih6 =>
      intro i ls hn6 hi_i hl
      refine lv_iload hx hb zd_M_follows_6 (lv_at hl 5 rfl) ?_
      refine lv_bipush (v := nI 96) hx hb zd_M_follows_8 (by decide) ?_
      refine lv_icmp_ge hx hb (tgt := 65) zd_M_follows_10 (by decide) (fun h10 => ?_) (fun h10 => ?_)
      · have h10 := za_leN h10 (by omega) (by omega)
        refine lv_iload hx hb zd_M_follows_65 (lv_at hl 4 rfl) ?_
        exact hret _ _ _ (by first | with_reducible rfl | (unfold za_mfol; rw [show i = 96 by omega])) zd_M_follows_67
      · have h10 := za_nleN h10 (by omega) (by omega)
        refine lv_iload hx hb zd_M_follows_13 (lv_at hl 4 rfl) ?_
        refine lv_if_eq hx hb (tgt := 56) zd_M_follows_15 (by decide) (fun h15 => ?_) (fun h15 => ?_)
        · have h15 := za_bF h15
          refine lv_iconst (v := nI 0) hx hb zd_M_follows_56 (by decide) ?_
          refine lv_istore (lv' := [(4, .int (nI 0)), (0, .ref aO), (1, .int (nI s)), (2, .int (nI t)), (3, .int (nI k)), (5, .int (nI i))]) hx hb zd_M_follows_57 hl (by decide) rfl (fun ls hl => ?_)
          refine lv_iinc (k := 5) (v := nI (i + 1)) (lv' := [(5, .int (nI (i + 1))), (4, .int (nI 0)), (0, .ref aO), (1, .int (nI s)), (2, .int (nI t)), (3, .int (nI k))]) hx hb zd_M_follows_59 hl rfl (za_inc _) (by decide) rfl (fun ls hl => ?_)
          refine lv_goto hx hb (tgt := 6) zd_M_follows_62 (by decide) ?_
          have e1 : za_bi (za_al (fun x => !Mv (96 * s + x) || za_mans Mv Br t (x / 24) (x % 24) k) (i + 1)) = nI 0 := by first | with_reducible rfl | (simp [za_al, za_bi1, za_bi0, h10, h15])
          exact ih6 (i + 1) ls (by omega) (by omega) (by rw [e1]; exact lv_sub hl [2, 3, 4, 5, 1, 0] rfl)
        · have h15 := za_bT h15
          refine lv_aload_n hx hb zd_M_follows_18 rfl (lv_at hl 0 rfl) ?_
          refine va_get (D := D) (ci := 5) (v := .ref aMv) (C := zs_M) (T := zt_M) (N := 12) hx hb hts zi_M hown hK hP 0 rfl rfl 0 (by decide) hf7 (fun _ h9 => h9) rfl zd_M_follows_19 ?_
          refine lv_bipush (v := nI 96) hx hb zd_M_follows_22 (by decide) ?_
          refine lv_iload_n hx hb zd_M_follows_24 rfl (lv_at hl 1 rfl) ?_
          refine za_mulN hx hb zd_M_follows_25 ?_
          refine lv_iload hx hb zd_M_follows_26 (lv_at hl 5 rfl) ?_
          refine za_addN hx hb zd_M_follows_28 ?_
          refine za_zld hx hb hK hP 1 1 rfl rfl (k := (96 * s) + i) (by omega) (by decide) zd_M_follows_29 ?_
          refine lv_if_eq hx hb (tgt := 52) zd_M_follows_30 (by decide) (fun h30 => ?_) (fun h30 => ?_)
          · have h30 := za_bF h30
            refine lv_iconst (v := nI 1) hx hb zd_M_follows_52 (by decide) ?_
            refine lv_goto hx hb (tgt := 57) zd_M_follows_53 (by decide) ?_
            refine lv_istore (lv' := [(4, .int (nI 1)), (0, .ref aO), (1, .int (nI s)), (2, .int (nI t)), (3, .int (nI k)), (5, .int (nI i))]) hx hb zd_M_follows_57 hl (by decide) rfl (fun ls hl => ?_)
            refine lv_iinc (k := 5) (v := nI (i + 1)) (lv' := [(5, .int (nI (i + 1))), (4, .int (nI 1)), (0, .ref aO), (1, .int (nI s)), (2, .int (nI t)), (3, .int (nI k))]) hx hb zd_M_follows_59 hl rfl (za_inc _) (by decide) rfl (fun ls hl => ?_)
            refine lv_goto hx hb (tgt := 6) zd_M_follows_62 (by decide) ?_
            have e1 : za_bi (za_al (fun x => !Mv (96 * s + x) || za_mans Mv Br t (x / 24) (x % 24) k) (i + 1)) = nI 1 := by first | with_reducible rfl | (simp [za_al, za_bi1, za_bi0, h10, h15, h30])
            exact ih6 (i + 1) ls (by omega) (by omega) (by rw [e1]; exact lv_sub hl [2, 3, 4, 5, 1, 0] rfl)
          · have h30 := za_bT h30
            refine lv_aload_n hx hb zd_M_follows_33 rfl (lv_at hl 0 rfl) ?_
            refine lv_iload_n hx hb zd_M_follows_34 rfl (lv_at hl 2 rfl) ?_
            refine lv_iload hx hb zd_M_follows_35 (lv_at hl 5 rfl) ?_
            refine lv_bipush (v := nI 24) hx hb zd_M_follows_37 (by decide) ?_
            refine za_divN hx hb (by omega) (by decide) (by decide) zd_M_follows_39 ?_
            refine lv_iload hx hb zd_M_follows_40 (lv_at hl 5 rfl) ?_
            refine lv_bipush (v := nI 24) hx hb zd_M_follows_42 (by decide) ?_
            refine za_remN hx hb (by omega) (by decide) (by decide) zd_M_follows_44 ?_
            refine lv_iload_n hx hb zd_M_follows_45 rfl (lv_at hl 3 rfl) ?_
            refine za_cV (As := [.int (nI t), .int (nI (i / 24)), .int (nI (i % 24)), .int (nI k)]) (rest := []) ⟨hx, hb, hml, hown, hts⟩ (zc_M_answers ln D cI cZ aO aMv aMc aBr aCd aNx aMk aAt aAs mkc mpl mn kn Mv Br t (i / 24) (i % 24) k (by omega) (by omega) (by omega)) (za_gV 4 hts zw_527 zw_529 zw_23 zw_40 zw_530 (by decide +kernel) ⟨Nat.le_of_ble_eq_true rfl, Nat.le_of_ble_eq_true rfl⟩) hK hN hP [0, 1, 2] rfl (q0 := 0) rfl rfl hl rfl rfl (Nat.le_of_ble_eq_true rfl) zd_M_follows_46 ⟨Nat.le_of_ble_eq_true rfl, Nat.le_of_ble_eq_true rfl⟩ ?_
            refine lv_if_eq hx hb (tgt := 56) zd_M_follows_49 (by decide) (fun h49 => ?_) (fun h49 => ?_)
            · have h49 := za_bF h49
              refine lv_iconst (v := nI 0) hx hb zd_M_follows_56 (by decide) ?_
              refine lv_istore (lv' := [(4, .int (nI 0)), (0, .ref aO), (1, .int (nI s)), (2, .int (nI t)), (3, .int (nI k)), (5, .int (nI i))]) hx hb zd_M_follows_57 hl (by decide) rfl (fun ls hl => ?_)
              refine lv_iinc (k := 5) (v := nI (i + 1)) (lv' := [(5, .int (nI (i + 1))), (4, .int (nI 0)), (0, .ref aO), (1, .int (nI s)), (2, .int (nI t)), (3, .int (nI k))]) hx hb zd_M_follows_59 hl rfl (za_inc _) (by decide) rfl (fun ls hl => ?_)
              refine lv_goto hx hb (tgt := 6) zd_M_follows_62 (by decide) ?_
              have e1 : za_bi (za_al (fun x => !Mv (96 * s + x) || za_mans Mv Br t (x / 24) (x % 24) k) (i + 1)) = nI 0 := by first | with_reducible rfl | (simp [za_al, za_bi1, za_bi0, h10, h15, h30, h49])
              exact ih6 (i + 1) ls (by omega) (by omega) (by rw [e1]; exact lv_sub hl [2, 3, 4, 5, 1, 0] rfl)
            · have h49 := za_bT h49
              refine lv_iconst (v := nI 1) hx hb zd_M_follows_52 (by decide) ?_
              refine lv_goto hx hb (tgt := 57) zd_M_follows_53 (by decide) ?_
              refine lv_istore (lv' := [(4, .int (nI 1)), (0, .ref aO), (1, .int (nI s)), (2, .int (nI t)), (3, .int (nI k)), (5, .int (nI i))]) hx hb zd_M_follows_57 hl (by decide) rfl (fun ls hl => ?_)
              refine lv_iinc (k := 5) (v := nI (i + 1)) (lv' := [(5, .int (nI (i + 1))), (4, .int (nI 1)), (0, .ref aO), (1, .int (nI s)), (2, .int (nI t)), (3, .int (nI k))]) hx hb zd_M_follows_59 hl rfl (za_inc _) (by decide) rfl (fun ls hl => ?_)
              refine lv_goto hx hb (tgt := 6) zd_M_follows_62 (by decide) ?_
              have e1 : za_bi (za_al (fun x => !Mv (96 * s + x) || za_mans Mv Br t (x / 24) (x % 24) k) (i + 1)) = nI 1 := by first | with_reducible rfl | (simp [za_al, za_bi1, za_bi0, h10, h15, h30, h49])
              exact ih6 (i + 1) ls (by omega) (by omega) (by rw [e1]; exact lv_sub hl [2, 3, 4, 5, 1, 0] rfl)
  have e1 : za_bi (za_al (fun x => !Mv (96 * s + x) || za_mans Mv Br t (x / 24) (x % 24) k) 0) = nI 1 := by first | with_reducible rfl | (rfl)
  exact hC6 (96 - 0 + 1) 0 ls (Nat.lt_succ_self _) (by omega) (by rw [e1]; exact lv_sub hl [2, 3, 4, 5, 1, 0] rfl)
def zr_M_matches : Room := { frames := 1, cells := 0, slots := 0, locals := 23 }
set_option maxHeartbeats 4000000 in
set_option maxRecDepth 100000 in
theorem zc_M_matches (ln : Launch) (D : va_G) (cI cZ : ClassId) (aO : Nat) (aMv : Nat) (aMc : Nat) (aBr : Nat) (aCd : Nat) (aNx : Nat) (aMk : Nat) (aAt : Nat) (aAs : Nat) (mkc : Nat) (mpl : Nat) (mn : Int32) (kn : Bool) (Mv : Nat → Bool) (Cd : Nat → Bool) (s : Nat) (t : Nat) (hs0 : s < 24) (ht0 : t < 24) : Met ln zm_M_matches (Cond.code zm_M_matches zo_M_matches 7 (some .boolean) :: zb_big) zr_M_matches (za_Pr D vwCl [(cI, .int), (cZ, .boolean)] [.ref aO, .int (nI s), .int (nI t)] [(aO, .inr (5, [.ref aMv, .int mn, .ref aMc, .int (za_bi kn), .ref aBr, .ref aCd, .ref aNx, .int (nI mkc), .ref aMk, .int (nI mpl), .ref aAt, .ref aAs])), (aMv, .inl (cZ, 2304, .inl (fun j => za_bi (Mv j)))), (aCd, .inl (cZ, 576, .inl (fun j => za_bi (Cd j))))]) (vp_Si (fun r => r = za_bi (za_mmat Mv Cd s t))) 0 0 (fun _ => False) := by
  refine za_reader (cc := zo_M_matches) (maxL := 7) (ty := .boolean) (by decide) (Nat.le_of_ble_eq_true rfl) (fun _ h => by rw [h]; exact za_nar _) ?_
  intro p e sg m args below meth c H Q hx hb hml hts hown hP hK hN hret ls hl
  have hP : va_P D vwCl [(aO, .inr (5, [.ref aMv, .int mn, .ref aMc, .int (za_bi kn), .ref aBr, .ref aCd, .ref aNx, .int (nI mkc), .ref aMk, .int (nI mpl), .ref aAt, .ref aAs])), (aMv, .inl (cZ, 2304, .inl (fun j => za_bi (Mv j)))), (aCd, .inl (cZ, 576, .inl (fun j => za_bi (Cd j))))] H := hP
  have hl : lv_has ls 7 [(0, .ref aO), (1, .int (nI s)), (2, .int (nI t))] := hl
  have hf7 := hts _ zw_443
  have hf20 := hts _ zw_448
  refine lv_iconst (v := nI 1) hx hb zd_M_matches_0 (by decide) ?_
  refine lv_istore_n (lv' := [(3, .int (nI 1)), (0, .ref aO), (1, .int (nI s)), (2, .int (nI t))]) hx hb zd_M_matches_1 rfl hl (by decide) rfl (fun ls hl => ?_)
  refine lv_iconst (v := nI 0) hx hb zd_M_matches_2 (by decide) ?_
  refine lv_istore (lv' := [(4, .int (nI 0)), (3, .int (nI 1)), (0, .ref aO), (1, .int (nI s)), (2, .int (nI t))]) hx hb zd_M_matches_3 hl (by decide) rfl (fun ls hl => ?_)
  have hC5 : ∀ (n5 : Nat) (i : Nat) (ls : Array Slot), 96 - i < n5 → i ≤ 96 → lv_has ls 7 [(0, .ref aO), (1, .int (nI s)), (2, .int (nI t)), (3, .int (za_bi (za_al (za_mm1 Mv Cd s t) i))), (4, .int (nI i))] → W p ln e zr_M_matches sg m args below meth c H [] 0 0 Q (F0 m 5 ls []) := by
    intro n5
    induction n5 with
    | zero => intro i ls hn5 hi_i hl; exact absurd hn5 (Nat.not_lt_zero _)
    | succ n5 ih5 =>
      intro i ls hn5 hi_i hl
      refine lv_iload hx hb zd_M_matches_5 (lv_at hl 4 rfl) ?_
      refine lv_bipush (v := nI 96) hx hb zd_M_matches_7 (by decide) ?_
      refine lv_icmp_ge hx hb (tgt := 117) zd_M_matches_9 (by decide) (fun h9 => ?_) (fun h9 => ?_)
      · have h9 := za_leN h9 (by omega) (by omega)
        refine lv_iload_n hx hb zd_M_matches_117 rfl (lv_at hl 3 rfl) ?_
        exact hret _ _ _ (by first | with_reducible rfl | (unfold za_mmat; rw [show i = 96 by omega])) zd_M_matches_118
      · have h9 := za_nleN h9 (by omega) (by omega)
        refine lv_aload_n hx hb zd_M_matches_12 rfl (lv_at hl 0 rfl) ?_
        refine va_get (D := D) (ci := 5) (v := .ref aMv) (C := zs_M) (T := zt_M) (N := 12) hx hb hts zi_M hown hK hP 0 rfl rfl 0 (by decide) hf7 (fun _ h9 => h9) rfl zd_M_matches_13 ?_
        refine lv_bipush (v := nI 96) hx hb zd_M_matches_16 (by decide) ?_
        refine lv_iload_n hx hb zd_M_matches_18 rfl (lv_at hl 2 rfl) ?_
        refine za_mulN hx hb zd_M_matches_19 ?_
        refine lv_iload hx hb zd_M_matches_20 (lv_at hl 4 rfl) ?_
        refine za_addN hx hb zd_M_matches_22 ?_
        refine za_zld hx hb hK hP 1 1 rfl rfl (k := (96 * t) + i) (by omega) (by decide) zd_M_matches_23 ?_
        have hJ32 : ∀ v : Int32, v = za_bi (!Mv (96 * t + i)) → W p ln e zr_M_matches sg m args below meth c H [] 0 0 Q (F0 m 32 ls [.int v]) := by
          intro v hv
          subst hv
          refine lv_istore (lv' := [(5, .int (za_bi (!Mv (96 * t + i)))), (0, .ref aO), (1, .int (nI s)), (2, .int (nI t)), (3, .int (za_bi (za_al (za_mm1 Mv Cd s t) i))), (4, .int (nI i))]) hx hb zd_M_matches_32 hl (by decide) rfl (fun ls hl => ?_)
          refine lv_iconst (v := nI 0) hx hb zd_M_matches_34 (by decide) ?_
          refine lv_istore (lv' := [(6, .int (nI 0)), (5, .int (za_bi (!Mv (96 * t + i)))), (0, .ref aO), (1, .int (nI s)), (2, .int (nI t)), (3, .int (za_bi (za_al (za_mm1 Mv Cd s t) i))), (4, .int (nI i))]) hx hb zd_M_matches_35 hl (by decide) rfl (fun ls hl => ?_)
          have hC96 : ∀  (sn : Bool) (ls : Array Slot), za_mm1 Mv Cd s t i = sn → lv_has ls 7 [(0, .ref aO), (1, .int (nI s)), (2, .int (nI t)), (3, .int (za_bi (za_al (za_mm1 Mv Cd s t) i))), (4, .int (nI i)), (5, .int (za_bi sn))] → W p ln e zr_M_matches sg m args below meth c H [] 0 0 Q (F0 m 96 ls []) := by
            intro sn ls hz hl
            refine lv_iload_n hx hb zd_M_matches_96 rfl (lv_at hl 3 rfl) ?_
            refine lv_if_eq hx hb (tgt := 109) zd_M_matches_97 (by decide) (fun h97 => ?_) (fun h97 => ?_)
            · have h97 := za_bF h97
              refine lv_iconst (v := nI 0) hx hb zd_M_matches_109 (by decide) ?_
              refine lv_istore_n (lv' := [(3, .int (nI 0)), (0, .ref aO), (1, .int (nI s)), (2, .int (nI t)), (4, .int (nI i)), (5, .int (za_bi sn))]) hx hb zd_M_matches_110 rfl hl (by decide) rfl (fun ls hl => ?_)
              refine lv_iinc (k := 4) (v := nI (i + 1)) (lv' := [(4, .int (nI (i + 1))), (3, .int (nI 0)), (0, .ref aO), (1, .int (nI s)), (2, .int (nI t)), (5, .int (za_bi sn))]) hx hb zd_M_matches_111 hl rfl (za_inc _) (by decide) rfl (fun ls hl => ?_)
              refine lv_goto hx hb (tgt := 5) zd_M_matches_114 (by decide) ?_
              have e1 : za_bi (za_al (za_mm1 Mv Cd s t) (i + 1)) = nI 0 := by first | with_reducible rfl | (simp only [za_al, hz, h9, h97, Bool.and_true, Bool.and_false, Bool.true_and, Bool.false_and, za_bi1, za_bi0])
              exact ih5 (i + 1) ls (by omega) (by omega) (by rw [e1]; exact lv_sub hl [2, 3, 4, 1, 0] rfl)
            · have h97 := za_bT h97
              refine lv_iload hx hb zd_M_matches_100 (lv_at hl 5 rfl) ?_
              refine lv_if_eq hx hb (tgt := 109) zd_M_matches_102 (by decide) (fun h102 => ?_) (fun h102 => ?_)
              · have h102 := za_bF h102
                refine lv_iconst (v := nI 0) hx hb zd_M_matches_109 (by decide) ?_
                refine lv_istore_n (lv' := [(3, .int (nI 0)), (0, .ref aO), (1, .int (nI s)), (2, .int (nI t)), (4, .int (nI i)), (5, .int (za_bi sn))]) hx hb zd_M_matches_110 rfl hl (by decide) rfl (fun ls hl => ?_)
                refine lv_iinc (k := 4) (v := nI (i + 1)) (lv' := [(4, .int (nI (i + 1))), (3, .int (nI 0)), (0, .ref aO), (1, .int (nI s)), (2, .int (nI t)), (5, .int (za_bi sn))]) hx hb zd_M_matches_111 hl rfl (za_inc _) (by decide) rfl (fun ls hl => ?_)
                refine lv_goto hx hb (tgt := 5) zd_M_matches_114 (by decide) ?_
                have e1 : za_bi (za_al (za_mm1 Mv Cd s t) (i + 1)) = nI 0 := by first | with_reducible rfl | (simp only [za_al, hz, h9, h97, h102, Bool.and_true, Bool.and_false, Bool.true_and, Bool.false_and, za_bi1, za_bi0])
                exact ih5 (i + 1) ls (by omega) (by omega) (by rw [e1]; exact lv_sub hl [2, 3, 4, 1, 0] rfl)
              · have h102 := za_bT h102
                refine lv_iconst (v := nI 1) hx hb zd_M_matches_105 (by decide) ?_
                refine lv_goto hx hb (tgt := 110) zd_M_matches_106 (by decide) ?_
                refine lv_istore_n (lv' := [(3, .int (nI 1)), (0, .ref aO), (1, .int (nI s)), (2, .int (nI t)), (4, .int (nI i)), (5, .int (za_bi sn))]) hx hb zd_M_matches_110 rfl hl (by decide) rfl (fun ls hl => ?_)
                refine lv_iinc (k := 4) (v := nI (i + 1)) (lv' := [(4, .int (nI (i + 1))), (3, .int (nI 1)), (0, .ref aO), (1, .int (nI s)), (2, .int (nI t)), (5, .int (za_bi sn))]) hx hb zd_M_matches_111 hl rfl (za_inc _) (by decide) rfl (fun ls hl => ?_)
                refine lv_goto hx hb (tgt := 5) zd_M_matches_114 (by decide) ?_
                have e1 : za_bi (za_al (za_mm1 Mv Cd s t) (i + 1)) = nI 1 := by first | with_reducible rfl | (simp only [za_al, hz, h9, h97, h102, Bool.and_true, Bool.and_false, Bool.true_and, Bool.false_and, za_bi1, za_bi0])
                exact ih5 (i + 1) ls (by omega) (by omega) (by rw [e1]; exact lv_sub hl [2, 3, 4, 1, 0] rfl)
          have hC37 : ∀ (n37 : Nat) (j : Nat) (sm : Bool) (ls : Array Slot), 24 - j < n37 → j ≤ 24 → sm = (!Mv (96 * t + i) || za_ex (za_mm2 Mv Cd s i) j) → lv_has ls 7 [(0, .ref aO), (1, .int (nI s)), (2, .int (nI t)), (3, .int (za_bi (za_al (za_mm1 Mv Cd s t) i))), (4, .int (nI i)), (5, .int (za_bi sm)), (6, .int (nI j))] → W p ln e zr_M_matches sg m args below meth c H [] 0 0 Q (F0 m 37 ls []) := by
            intro n37
            induction n37 with
            | zero => intro j sm ls hn37 hi_j hsm hl; exact absurd hn37 (Nat.not_lt_zero _)
            | succ n37 ih37 =>
              intro j sm ls hn37 hi_j hsm hl
              refine lv_iload hx hb zd_M_matches_37 (lv_at hl 6 rfl) ?_
              refine lv_bipush (v := nI 24) hx hb zd_M_matches_39 (by decide) ?_
              refine lv_icmp_ge hx hb (tgt := 96) zd_M_matches_41 (by decide) (fun h41 => ?_) (fun h41 => ?_)
              · have h41 := za_leN h41 (by omega) (by omega)
                exact hC96 sm ls (by unfold za_mm1; rw [hsm, show j = 24 by omega]) (lv_sub hl [0, 1, 2, 3, 4, 5] rfl)
              · have h41 := za_nleN h41 (by omega) (by omega)
                refine lv_iload hx hb zd_M_matches_44 (lv_at hl 5 rfl) ?_
                refine lv_if_ne hx hb (tgt := 96) zd_M_matches_46 (by decide) (fun h46 => ?_) (fun h46 => ?_)
                · have h46 := za_bT h46
                  exact hC96 sm ls (by unfold za_mm1; exact za_mm3 hsm h46 (by omega)) (lv_sub hl [0, 1, 2, 3, 4, 5] rfl)
                · have h46 := za_bF h46
                  have hsm44 := hsm.symm.trans h46
                  refine lv_aload_n hx hb zd_M_matches_49 rfl (lv_at hl 0 rfl) ?_
                  refine lv_iload_n hx hb zd_M_matches_50 rfl (lv_at hl 1 rfl) ?_
                  refine lv_iload hx hb zd_M_matches_51 (lv_at hl 4 rfl) ?_
                  refine lv_bipush (v := nI 24) hx hb zd_M_matches_53 (by decide) ?_
                  refine za_divN hx hb (by omega) (by decide) (by decide) zd_M_matches_55 ?_
                  refine lv_iload hx hb zd_M_matches_56 (lv_at hl 6 rfl) ?_
                  refine za_cV (As := [.int (nI s), .int (nI (i / 24)), .int (nI j)]) (rest := []) ⟨hx, hb, hml, hown, hts⟩ (zc_M_has ln D cI cZ aO aMv aMc aBr aCd aNx aMk aAt aAs mkc mpl mn kn Mv s (i / 24) j (by omega) (by omega) (by omega)) (za_gV 3 hts zw_491 zw_493 zw_19 zw_40 zw_494 (by decide +kernel) ⟨Nat.le_of_ble_eq_true rfl, Nat.le_of_ble_eq_true rfl⟩) hK hN hP [0, 1] rfl (q0 := 0) rfl rfl hl rfl rfl (Nat.le_of_ble_eq_true rfl) zd_M_matches_58 ⟨Nat.le_of_ble_eq_true rfl, Nat.le_of_ble_eq_true rfl⟩ ?_
                  refine lv_if_eq hx hb (tgt := 87) zd_M_matches_61 (by decide) (fun h61 => ?_) (fun h61 => ?_)
                  · have h61 := za_bF h61
                    refine lv_iconst (v := nI 0) hx hb zd_M_matches_87 (by decide) ?_
                    refine lv_istore (lv' := [(5, .int (nI 0)), (0, .ref aO), (1, .int (nI s)), (2, .int (nI t)), (3, .int (za_bi (za_al (za_mm1 Mv Cd s t) i))), (4, .int (nI i)), (6, .int (nI j))]) hx hb zd_M_matches_88 hl (by decide) rfl (fun ls hl => ?_)
                    refine lv_iinc (k := 6) (v := nI (j + 1)) (lv' := [(6, .int (nI (j + 1))), (5, .int (nI 0)), (0, .ref aO), (1, .int (nI s)), (2, .int (nI t)), (3, .int (za_bi (za_al (za_mm1 Mv Cd s t) i))), (4, .int (nI i))]) hx hb zd_M_matches_90 hl rfl (za_inc _) (by decide) rfl (fun ls hl => ?_)
                    refine lv_goto hx hb (tgt := 37) zd_M_matches_93 (by decide) ?_
                    have e1 : za_bi false = nI 0 := by first | with_reducible rfl | (rfl)
                    exact ih37 (j + 1) false ls (by omega) (by omega) (by simp [za_ex, za_mm2, hsm44, h9, h41, h46, h61]) (by rw [e1]; exact lv_sub hl [2, 3, 4, 5, 6, 1, 0] rfl)
                  · have h61 := za_bT h61
                    refine lv_aload_n hx hb zd_M_matches_64 rfl (lv_at hl 0 rfl) ?_
                    refine va_get (D := D) (ci := 5) (v := .ref aCd) (C := zs_M) (T := zt_M) (N := 12) hx hb hts zi_M hown hK hP 0 rfl rfl 5 (by decide) hf20 (fun _ h9 => h9) rfl zd_M_matches_65 ?_
                    refine lv_bipush (v := nI 24) hx hb zd_M_matches_68 (by decide) ?_
                    refine lv_iload hx hb zd_M_matches_70 (lv_at hl 6 rfl) ?_
                    refine za_mulN hx hb zd_M_matches_72 ?_
                    refine lv_iload hx hb zd_M_matches_73 (lv_at hl 4 rfl) ?_
                    refine lv_bipush (v := nI 24) hx hb zd_M_matches_75 (by decide) ?_
                    refine za_remN hx hb (by omega) (by decide) (by decide) zd_M_matches_77 ?_
                    refine za_addN hx hb zd_M_matches_78 ?_
                    refine za_zld hx hb hK hP 2 1 rfl rfl (k := (24 * j) + (i % 24)) (by omega) (by decide) zd_M_matches_79 ?_
                    refine lv_if_eq hx hb (tgt := 87) zd_M_matches_80 (by decide) (fun h80 => ?_) (fun h80 => ?_)
                    · have h80 := za_bF h80
                      refine lv_iconst (v := nI 0) hx hb zd_M_matches_87 (by decide) ?_
                      refine lv_istore (lv' := [(5, .int (nI 0)), (0, .ref aO), (1, .int (nI s)), (2, .int (nI t)), (3, .int (za_bi (za_al (za_mm1 Mv Cd s t) i))), (4, .int (nI i)), (6, .int (nI j))]) hx hb zd_M_matches_88 hl (by decide) rfl (fun ls hl => ?_)
                      refine lv_iinc (k := 6) (v := nI (j + 1)) (lv' := [(6, .int (nI (j + 1))), (5, .int (nI 0)), (0, .ref aO), (1, .int (nI s)), (2, .int (nI t)), (3, .int (za_bi (za_al (za_mm1 Mv Cd s t) i))), (4, .int (nI i))]) hx hb zd_M_matches_90 hl rfl (za_inc _) (by decide) rfl (fun ls hl => ?_)
                      refine lv_goto hx hb (tgt := 37) zd_M_matches_93 (by decide) ?_
                      have e1 : za_bi false = nI 0 := by first | with_reducible rfl | (rfl)
                      exact ih37 (j + 1) false ls (by omega) (by omega) (by simp [za_ex, za_mm2, hsm44, h9, h41, h46, h61, h80]) (by rw [e1]; exact lv_sub hl [2, 3, 4, 5, 6, 1, 0] rfl)
                    · have h80 := za_bT h80
                      refine lv_iconst (v := nI 1) hx hb zd_M_matches_83 (by decide) ?_
                      refine lv_goto hx hb (tgt := 88) zd_M_matches_84 (by decide) ?_
                      refine lv_istore (lv' := [(5, .int (nI 1)), (0, .ref aO), (1, .int (nI s)), (2, .int (nI t)), (3, .int (za_bi (za_al (za_mm1 Mv Cd s t) i))), (4, .int (nI i)), (6, .int (nI j))]) hx hb zd_M_matches_88 hl (by decide) rfl (fun ls hl => ?_)
                      refine lv_iinc (k := 6) (v := nI (j + 1)) (lv' := [(6, .int (nI (j + 1))), (5, .int (nI 1)), (0, .ref aO), (1, .int (nI s)), (2, .int (nI t)), (3, .int (za_bi (za_al (za_mm1 Mv Cd s t) i))), (4, .int (nI i))]) hx hb zd_M_matches_90 hl rfl (za_inc _) (by decide) rfl (fun ls hl => ?_)
                      refine lv_goto hx hb (tgt := 37) zd_M_matches_93 (by decide) ?_
                      have e1 : za_bi true = nI 1 := by first | with_reducible rfl | (rfl)
                      exact ih37 (j + 1) true ls (by omega) (by omega) (by simp [za_ex, za_mm2, hsm44, h9, h41, h46, h61, h80]) (by rw [e1]; exact lv_sub hl [2, 3, 4, 5, 6, 1, 0] rfl)
          exact hC37 (24 - 0 + 1) 0 (!Mv (96 * t + i)) ls (Nat.lt_succ_self _) (by omega) (by simp [za_ex, h9]) (lv_sub hl [2, 3, 4, 5, 6, 1, 0] rfl)
        refine lv_if_ne hx hb (tgt := 31) zd_M_matches_24 (by decide) (fun h24 => ?_) (fun h24 => ?_)
        · have h24 := za_bT h24
          refine lv_iconst (v := nI 0) hx hb zd_M_matches_31 (by decide) ?_
          exact hJ32 _ (za_b0 (by simp [h9, h24]))
        · have h24 := za_bF h24
          refine lv_iconst (v := nI 1) hx hb zd_M_matches_27 (by decide) ?_
          refine lv_goto hx hb (tgt := 32) zd_M_matches_28 (by decide) ?_
          exact hJ32 _ (za_b1 (by simp [h9, h24]))
  have e1 : za_bi (za_al (za_mm1 Mv Cd s t) 0) = nI 1 := by first | with_reducible rfl | (rfl)
  exact hC5 (96 - 0 + 1) 0 ls (Nat.lt_succ_self _) (by omega) (by rw [e1]; exact lv_sub hl [2, 3, 4, 1, 0] rfl)
def zr_M_areAlike : Room := { frames := 0, cells := 0, slots := 0, locals := 0 }
set_option maxHeartbeats 4000000 in
set_option maxRecDepth 100000 in
theorem zc_M_areAlike (ln : Launch) (D : va_G) (cI cZ : ClassId) (aO : Nat) (aMv : Nat) (aMc : Nat) (aBr : Nat) (aCd : Nat) (aNx : Nat) (aMk : Nat) (aAt : Nat) (aAs : Nat) (mkc : Nat) (mpl : Nat) (mn : Int32) (kn : Bool) (Br : Nat → Int32) (s : Nat) (t : Nat) (hs0 : s < 24) (ht0 : t < 24) : Met ln zm_M_areAlike (Cond.code zm_M_areAlike zo_M_areAlike 3 (some .boolean) :: zb_big) zr_M_areAlike (za_Pr D vwCl [(cI, .int), (cZ, .boolean)] [.ref aO, .int (nI s), .int (nI t)] [(aO, .inr (5, [.ref aMv, .int mn, .ref aMc, .int (za_bi kn), .ref aBr, .ref aCd, .ref aNx, .int (nI mkc), .ref aMk, .int (nI mpl), .ref aAt, .ref aAs])), (aBr, .inl (cI, 576, .inl Br))]) (vp_Si (fun r => r = za_bi (decide (Br (24 * s + t) = nI 1000)))) 0 0 (fun _ => False) := by
  refine za_reader (cc := zo_M_areAlike) (maxL := 3) (ty := .boolean) (by decide) (Nat.le_of_ble_eq_true rfl) (fun _ h => by rw [h]; exact za_nar _) ?_
  intro p e sg m args below meth c H Q hx hb hml hts hown hP hK hN hret ls hl
  have hP : va_P D vwCl [(aO, .inr (5, [.ref aMv, .int mn, .ref aMc, .int (za_bi kn), .ref aBr, .ref aCd, .ref aNx, .int (nI mkc), .ref aMk, .int (nI mpl), .ref aAt, .ref aAs])), (aBr, .inl (cI, 576, .inl Br))] H := hP
  have hl : lv_has ls 3 [(0, .ref aO), (1, .int (nI s)), (2, .int (nI t))] := hl
  have hf17 := hts _ zw_447
  refine lv_aload_n hx hb zd_M_areAlike_0 rfl (lv_at hl 0 rfl) ?_
  refine va_get (D := D) (ci := 5) (v := .ref aBr) (C := zs_M) (T := zt_M) (N := 12) hx hb hts zi_M hown hK hP 0 rfl rfl 4 (by decide) hf17 (fun _ h9 => h9) rfl zd_M_areAlike_1 ?_
  refine lv_bipush (v := nI 24) hx hb zd_M_areAlike_4 (by decide) ?_
  refine lv_iload_n hx hb zd_M_areAlike_6 rfl (lv_at hl 1 rfl) ?_
  refine za_mulN hx hb zd_M_areAlike_7 ?_
  refine lv_iload_n hx hb zd_M_areAlike_8 rfl (lv_at hl 2 rfl) ?_
  refine za_addN hx hb zd_M_areAlike_9 ?_
  refine za_ild hx hb hK hP 1 0 rfl rfl (k := (24 * s) + t) (by omega) (by decide) zd_M_areAlike_10 ?_
  refine lv_sipush (v := nI 1000) hx hb zd_M_areAlike_11 (by decide) ?_
  refine lv_icmp_ne hx hb (tgt := 21) zd_M_areAlike_14 (by decide) (fun h14 => ?_) (fun h14 => ?_)
  · skip
    refine lv_iconst (v := nI 0) hx hb zd_M_areAlike_21 (by decide) ?_
    exact hret _ _ _ (za_b0 (by simp [h14])) zd_M_areAlike_22
  · skip
    refine lv_iconst (v := nI 1) hx hb zd_M_areAlike_17 (by decide) ?_
    refine lv_goto hx hb (tgt := 22) zd_M_areAlike_18 (by decide) ?_
    exact hret _ _ _ (za_b1 (by simp [h14])) zd_M_areAlike_22
def zr_M_moves : Room := { frames := 0, cells := 0, slots := 0, locals := 0 }
set_option maxHeartbeats 4000000 in
set_option maxRecDepth 100000 in
theorem zc_M_moves (ln : Launch) (D : va_G) (cI cZ : ClassId) (aO : Nat) (aMv : Nat) (aMc : Nat) (aBr : Nat) (aCd : Nat) (aNx : Nat) (aMk : Nat) (aAt : Nat) (aAs : Nat) (mkc : Nat) (mpl : Nat) (mn : Int32) (kn : Bool) : Met ln zm_M_moves (Cond.code zm_M_moves zo_M_moves 1 (some .int) :: zb_big) zr_M_moves (za_Pr D vwCl [(cI, .int), (cZ, .boolean)] [.ref aO] [(aO, .inr (5, [.ref aMv, .int mn, .ref aMc, .int (za_bi kn), .ref aBr, .ref aCd, .ref aNx, .int (nI mkc), .ref aMk, .int (nI mpl), .ref aAt, .ref aAs]))]) (vp_Si (fun r => r = mn)) 0 0 (fun _ => False) := by
  refine za_reader (cc := zo_M_moves) (maxL := 1) (ty := .int) (by decide) (Nat.le_of_ble_eq_true rfl) (fun _ _ => rfl) ?_
  intro p e sg m args below meth c H Q hx hb hml hts hown hP hK hN hret ls hl
  have hP : va_P D vwCl [(aO, .inr (5, [.ref aMv, .int mn, .ref aMc, .int (za_bi kn), .ref aBr, .ref aCd, .ref aNx, .int (nI mkc), .ref aMk, .int (nI mpl), .ref aAt, .ref aAs]))] H := hP
  have hl : lv_has ls 1 [(0, .ref aO)] := hl
  have hf46 := hts _ zw_444
  refine lv_aload_n hx hb zd_M_moves_0 rfl (lv_at hl 0 rfl) ?_
  refine va_get (D := D) (ci := 5) (v := .int mn) (C := zs_M) (T := zt_M) (N := 12) hx hb hts zi_M hown hK hP 0 rfl rfl 1 (by decide) hf46 (fun _ h9 => h9) rfl zd_M_moves_1 ?_
  exact hret _ _ _ (rfl) zd_M_moves_4
def zr_M_isAttack : Room := { frames := 2, cells := 0, slots := 0, locals := 49 }
set_option maxHeartbeats 4000000 in
set_option maxRecDepth 100000 in
theorem zc_M_isAttack (ln : Launch) (D : va_G) (cI cZ : ClassId) (aO : Nat) (aMv : Nat) (aMc : Nat) (aBr : Nat) (aCd : Nat) (aNx : Nat) (aMk : Nat) (aAt : Nat) (aAs : Nat) (mkc : Nat) (mpl : Nat) (mn : Int32) (kn : Bool) (Mv : Nat → Bool) (Br : Nat → Int32) (s : Nat) (t : Nat) (x0 : Nat) (k : Nat) (hs0 : s < 24) (ht0 : t < 24) (hx0 : x0 < 96) : Met ln zm_M_isAttack (Cond.code zm_M_isAttack zo_M_isAttack 5 (some .boolean) :: zb_big) zr_M_isAttack (za_Pr D vwCl [(cI, .int), (cZ, .boolean)] [.ref aO, .int (nI s), .int (nI t), .int (nI x0), .int (nI k)] [(aO, .inr (5, [.ref aMv, .int mn, .ref aMc, .int (za_bi kn), .ref aBr, .ref aCd, .ref aNx, .int (nI mkc), .ref aMk, .int (nI mpl), .ref aAt, .ref aAs])), (aMv, .inl (cZ, 2304, .inl (fun j => za_bi (Mv j)))), (aBr, .inl (cI, 576, .inl Br))]) (vp_Si (fun r => r = za_bi (za_mat Mv Br s t x0 k))) 0 0 (fun _ => False) := by
  refine za_reader (cc := zo_M_isAttack) (maxL := 5) (ty := .boolean) (by decide) (Nat.le_of_ble_eq_true rfl) (fun _ h => by rw [h]; exact za_nar _) ?_
  intro p e sg m args below meth c H Q hx hb hml hts hown hP hK hN hret ls hl
  have hP : va_P D vwCl [(aO, .inr (5, [.ref aMv, .int mn, .ref aMc, .int (za_bi kn), .ref aBr, .ref aCd, .ref aNx, .int (nI mkc), .ref aMk, .int (nI mpl), .ref aAt, .ref aAs])), (aMv, .inl (cZ, 2304, .inl (fun j => za_bi (Mv j)))), (aBr, .inl (cI, 576, .inl Br))] H := hP
  have hl : lv_has ls 5 [(0, .ref aO), (1, .int (nI s)), (2, .int (nI t)), (3, .int (nI x0)), (4, .int (nI k))] := hl
  have hf7 := hts _ zw_443
  refine lv_aload_n hx hb zd_M_isAttack_0 rfl (lv_at hl 0 rfl) ?_
  refine va_get (D := D) (ci := 5) (v := .ref aMv) (C := zs_M) (T := zt_M) (N := 12) hx hb hts zi_M hown hK hP 0 rfl rfl 0 (by decide) hf7 (fun _ h9 => h9) rfl zd_M_isAttack_1 ?_
  refine lv_bipush (v := nI 96) hx hb zd_M_isAttack_4 (by decide) ?_
  refine lv_iload_n hx hb zd_M_isAttack_6 rfl (lv_at hl 1 rfl) ?_
  refine za_mulN hx hb zd_M_isAttack_7 ?_
  refine lv_iload_n hx hb zd_M_isAttack_8 rfl (lv_at hl 3 rfl) ?_
  refine za_addN hx hb zd_M_isAttack_9 ?_
  refine za_zld hx hb hK hP 1 1 rfl rfl (k := (96 * s) + x0) (by omega) (by decide) zd_M_isAttack_10 ?_
  refine lv_if_eq hx hb (tgt := 36) zd_M_isAttack_11 (by decide) (fun h11 => ?_) (fun h11 => ?_)
  · have h11 := za_bF h11
    refine lv_iconst (v := nI 0) hx hb zd_M_isAttack_36 (by decide) ?_
    exact hret _ _ _ (za_b0 (by simp [za_mat, h11])) zd_M_isAttack_37
  · have h11 := za_bT h11
    refine lv_aload_n hx hb zd_M_isAttack_14 rfl (lv_at hl 0 rfl) ?_
    refine lv_iload_n hx hb zd_M_isAttack_15 rfl (lv_at hl 2 rfl) ?_
    refine lv_iload_n hx hb zd_M_isAttack_16 rfl (lv_at hl 3 rfl) ?_
    refine lv_bipush (v := nI 24) hx hb zd_M_isAttack_17 (by decide) ?_
    refine za_divN hx hb (by omega) (by decide) (by decide) zd_M_isAttack_19 ?_
    refine lv_iload_n hx hb zd_M_isAttack_20 rfl (lv_at hl 3 rfl) ?_
    refine lv_bipush (v := nI 24) hx hb zd_M_isAttack_21 (by decide) ?_
    refine za_remN hx hb (by omega) (by decide) (by decide) zd_M_isAttack_23 ?_
    refine lv_iload hx hb zd_M_isAttack_24 (lv_at hl 4 rfl) ?_
    refine za_cV (As := [.int (nI t), .int (nI (x0 / 24)), .int (nI (x0 % 24)), .int (nI k)]) (rest := []) ⟨hx, hb, hml, hown, hts⟩ (zc_M_answers ln D cI cZ aO aMv aMc aBr aCd aNx aMk aAt aAs mkc mpl mn kn Mv Br t (x0 / 24) (x0 % 24) k (by omega) (by omega) (by omega)) (za_gV 4 hts zw_527 zw_529 zw_23 zw_40 zw_530 (by decide +kernel) ⟨Nat.le_of_ble_eq_true rfl, Nat.le_of_ble_eq_true rfl⟩) hK hN hP [0, 1, 2] rfl (q0 := 0) rfl rfl hl rfl rfl (Nat.le_of_ble_eq_true rfl) zd_M_isAttack_26 ⟨Nat.le_of_ble_eq_true rfl, Nat.le_of_ble_eq_true rfl⟩ ?_
    refine lv_if_ne hx hb (tgt := 36) zd_M_isAttack_29 (by decide) (fun h29 => ?_) (fun h29 => ?_)
    · have h29 := za_bT h29
      refine lv_iconst (v := nI 0) hx hb zd_M_isAttack_36 (by decide) ?_
      exact hret _ _ _ (za_b0 (by simp [za_mat, h11, h29])) zd_M_isAttack_37
    · have h29 := za_bF h29
      refine lv_iconst (v := nI 1) hx hb zd_M_isAttack_32 (by decide) ?_
      refine lv_goto hx hb (tgt := 37) zd_M_isAttack_33 (by decide) ?_
      exact hret _ _ _ (za_b1 (by simp [za_mat, h11, h29])) zd_M_isAttack_37
def zr_M_reachOf : Room := { frames := 1, cells := 0, slots := 0, locals := 23 }
set_option maxHeartbeats 4000000 in
set_option maxRecDepth 100000 in
theorem zc_M_reachOf (ln : Launch) (D : va_G) (cI cZ : ClassId) (aO : Nat) (aMv : Nat) (aMc : Nat) (aBr : Nat) (aCd : Nat) (aNx : Nat) (aMk : Nat) (aAt : Nat) (aAs : Nat) (mkc : Nat) (mpl : Nat) (mn : Int32) (kn : Bool) (Mv : Nat → Bool) (Mk : Nat → Int32) (w : Int32) (l : Nat) (hl0 : l < 4) : Met ln zm_M_reachOf (Cond.code zm_M_reachOf zo_M_reachOf 6 (some .int) :: zb_big) zr_M_reachOf (za_Pr D vwCl [(cI, .int), (cZ, .boolean)] [.ref aO, .int w, .int (nI l)] [(aO, .inr (5, [.ref aMv, .int mn, .ref aMc, .int (za_bi kn), .ref aBr, .ref aCd, .ref aNx, .int (nI mkc), .ref aMk, .int (nI mpl), .ref aAt, .ref aAs])), (aMv, .inl (cZ, 2304, .inl (fun j => za_bi (Mv j)))), (aMk, .inl (cI, 24, .inl Mk))]) (vp_Si (fun r => r = za_ro w l Mv Mk 24)) 0 0 (fun _ => False) := by
  refine za_reader (cc := zo_M_reachOf) (maxL := 6) (ty := .int) (by decide) (Nat.le_of_ble_eq_true rfl) (fun _ _ => rfl) ?_
  intro p e sg m args below meth c H Q hx hb hml hts hown hP hK hN hret ls hl
  have hP : va_P D vwCl [(aO, .inr (5, [.ref aMv, .int mn, .ref aMc, .int (za_bi kn), .ref aBr, .ref aCd, .ref aNx, .int (nI mkc), .ref aMk, .int (nI mpl), .ref aAt, .ref aAs])), (aMv, .inl (cZ, 2304, .inl (fun j => za_bi (Mv j)))), (aMk, .inl (cI, 24, .inl Mk))] H := hP
  have hl : lv_has ls 6 [(0, .ref aO), (1, .int w), (2, .int (nI l))] := hl
  have hf26 := hts _ zw_451
  refine lv_iconst (v := nI 0) hx hb zd_M_reachOf_0 (by decide) ?_
  refine lv_istore_n (lv' := [(3, .int (nI 0)), (0, .ref aO), (1, .int w), (2, .int (nI l))]) hx hb zd_M_reachOf_1 rfl hl (by decide) rfl (fun ls hl => ?_)
  refine lv_iconst (v := nI 0) hx hb zd_M_reachOf_2 (by decide) ?_
  refine lv_istore (lv' := [(4, .int (nI 0)), (3, .int (nI 0)), (0, .ref aO), (1, .int w), (2, .int (nI l))]) hx hb zd_M_reachOf_3 hl (by decide) rfl (fun ls hl => ?_)
  have hC5 : ∀ (n5 : Nat) (s : Nat) (ls : Array Slot), 24 - s < n5 → s ≤ 24 → lv_has ls 6 [(0, .ref aO), (1, .int w), (2, .int (nI l)), (3, .int (za_ro w l Mv Mk s)), (4, .int (nI s))] → W p ln e zr_M_reachOf sg m args below meth c H [] 0 0 Q (F0 m 5 ls []) := by
    intro n5
    induction n5 with
    | zero => intro s ls hn5 hi_s hl; exact absurd hn5 (Nat.not_lt_zero _)
    | succ n5 ih5 =>
      intro s ls hn5 hi_s hl
      refine lv_iload hx hb zd_M_reachOf_5 (lv_at hl 4 rfl) ?_
      refine lv_bipush (v := nI 24) hx hb zd_M_reachOf_7 (by decide) ?_
      refine lv_icmp_ge hx hb (tgt := 73) zd_M_reachOf_9 (by decide) (fun h9 => ?_) (fun h9 => ?_)
      · have h9 := za_leN h9 (by omega) (by omega)
        refine lv_iload_n hx hb zd_M_reachOf_73 rfl (lv_at hl 3 rfl) ?_
        exact hret _ _ _ (by first | with_reducible rfl | (congr 1; omega)) zd_M_reachOf_74
      · have h9 := za_nleN h9 (by omega) (by omega)
        refine lv_iconst (v := nI 0) hx hb zd_M_reachOf_12 (by decide) ?_
        refine lv_istore (lv' := [(5, .int (nI 0)), (0, .ref aO), (1, .int w), (2, .int (nI l)), (3, .int (za_ro w l Mv Mk s)), (4, .int (nI s))]) hx hb zd_M_reachOf_13 hl (by decide) rfl (fun ls hl => ?_)
        have hC15 : ∀ (n15 : Nat) (t : Nat) (ls : Array Slot), 24 - t < n15 → t ≤ 24 → lv_has ls 6 [(0, .ref aO), (1, .int w), (2, .int (nI l)), (3, .int (za_ri w l Mv Mk s (za_ro w l Mv Mk s) t)), (4, .int (nI s)), (5, .int (nI t))] → W p ln e zr_M_reachOf sg m args below meth c H [] 0 0 Q (F0 m 15 ls []) := by
          intro n15
          induction n15 with
          | zero => intro t ls hn15 hi_t hl; exact absurd hn15 (Nat.not_lt_zero _)
          | succ n15 ih15 =>
            intro t ls hn15 hi_t hl
            refine lv_iload hx hb zd_M_reachOf_15 (lv_at hl 5 rfl) ?_
            refine lv_bipush (v := nI 24) hx hb zd_M_reachOf_17 (by decide) ?_
            refine lv_icmp_ge hx hb (tgt := 67) zd_M_reachOf_19 (by decide) (fun h19 => ?_) (fun h19 => ?_)
            · have h19 := za_leN h19 (by omega) (by omega)
              refine lv_iinc (k := 4) (v := nI (s + 1)) (lv' := [(4, .int (nI (s + 1))), (0, .ref aO), (1, .int w), (2, .int (nI l)), (3, .int (za_ri w l Mv Mk s (za_ro w l Mv Mk s) t)), (5, .int (nI t))]) hx hb zd_M_reachOf_67 hl rfl (za_inc _) (by decide) rfl (fun ls hl => ?_)
              refine lv_goto hx hb (tgt := 5) zd_M_reachOf_70 (by decide) ?_
              have e1 : za_ro w l Mv Mk (s + 1) = za_ri w l Mv Mk s (za_ro w l Mv Mk s) t := by first | with_reducible rfl | (rw [za_ro, show t = 24 by omega])
              exact ih5 (s + 1) ls (by omega) (by omega) (by rw [e1]; exact lv_sub hl [1, 2, 3, 4, 0] rfl)
            · have h19 := za_nleN h19 (by omega) (by omega)
              refine lv_aload_n hx hb zd_M_reachOf_22 rfl (lv_at hl 0 rfl) ?_
              refine va_get (D := D) (ci := 5) (v := .ref aMk) (C := zs_M) (T := zt_M) (N := 12) hx hb hts zi_M hown hK hP 0 rfl rfl 8 (by decide) hf26 (fun _ h9 => h9) rfl zd_M_reachOf_23 ?_
              refine lv_iload hx hb zd_M_reachOf_26 (lv_at hl 4 rfl) ?_
              refine za_ild hx hb hK hP 2 0 rfl rfl (k := s) (by omega) (by decide) zd_M_reachOf_28 ?_
              refine lv_iload_n hx hb zd_M_reachOf_29 rfl (lv_at hl 1 rfl) ?_
              refine lv_icmp_ne hx hb (tgt := 59) zd_M_reachOf_30 (by decide) (fun h30 => ?_) (fun h30 => ?_)
              · skip
                refine lv_iload_n hx hb zd_M_reachOf_59 rfl (lv_at hl 3 rfl) ?_
                refine lv_istore_n (lv' := [(3, .int (za_ri w l Mv Mk s (za_ro w l Mv Mk s) t)), (0, .ref aO), (1, .int w), (2, .int (nI l)), (4, .int (nI s)), (5, .int (nI t))]) hx hb zd_M_reachOf_60 rfl hl (by decide) rfl (fun ls hl => ?_)
                refine lv_iinc (k := 5) (v := nI (t + 1)) (lv' := [(5, .int (nI (t + 1))), (3, .int (za_ri w l Mv Mk s (za_ro w l Mv Mk s) t)), (0, .ref aO), (1, .int w), (2, .int (nI l)), (4, .int (nI s))]) hx hb zd_M_reachOf_61 hl rfl (za_inc _) (by decide) rfl (fun ls hl => ?_)
                refine lv_goto hx hb (tgt := 15) zd_M_reachOf_64 (by decide) ?_
                have e1 : za_ri w l Mv Mk s (za_ro w l Mv Mk s) (t + 1) = za_ri w l Mv Mk s (za_ro w l Mv Mk s) t := by first | with_reducible rfl | (simp [za_ri, h9, h19, h30])
                exact ih15 (t + 1) ls (by omega) (by omega) (by rw [e1]; exact lv_sub hl [2, 3, 4, 1, 5, 0] rfl)
              · skip
                refine lv_aload_n hx hb zd_M_reachOf_33 rfl (lv_at hl 0 rfl) ?_
                refine lv_iload hx hb zd_M_reachOf_34 (lv_at hl 4 rfl) ?_
                refine lv_iload_n hx hb zd_M_reachOf_36 rfl (lv_at hl 2 rfl) ?_
                refine lv_iload hx hb zd_M_reachOf_37 (lv_at hl 5 rfl) ?_
                refine za_cV (As := [.int (nI s), .int (nI l), .int (nI t)]) (rest := []) ⟨hx, hb, hml, hown, hts⟩ (zc_M_has ln D cI cZ aO aMv aMc aBr aCd aNx aMk aAt aAs mkc mpl mn kn Mv s l t (by omega) (by omega) (by omega)) (za_gV 3 hts zw_491 zw_493 zw_19 zw_40 zw_494 (by decide +kernel) ⟨Nat.le_of_ble_eq_true rfl, Nat.le_of_ble_eq_true rfl⟩) hK hN hP [0, 1] rfl (q0 := 0) rfl rfl hl rfl rfl (Nat.le_of_ble_eq_true rfl) zd_M_reachOf_39 ⟨Nat.le_of_ble_eq_true rfl, Nat.le_of_ble_eq_true rfl⟩ ?_
                refine lv_if_eq hx hb (tgt := 59) zd_M_reachOf_42 (by decide) (fun h42 => ?_) (fun h42 => ?_)
                · have h42 := za_bF h42
                  refine lv_iload_n hx hb zd_M_reachOf_59 rfl (lv_at hl 3 rfl) ?_
                  refine lv_istore_n (lv' := [(3, .int (za_ri w l Mv Mk s (za_ro w l Mv Mk s) t)), (0, .ref aO), (1, .int w), (2, .int (nI l)), (4, .int (nI s)), (5, .int (nI t))]) hx hb zd_M_reachOf_60 rfl hl (by decide) rfl (fun ls hl => ?_)
                  refine lv_iinc (k := 5) (v := nI (t + 1)) (lv' := [(5, .int (nI (t + 1))), (3, .int (za_ri w l Mv Mk s (za_ro w l Mv Mk s) t)), (0, .ref aO), (1, .int w), (2, .int (nI l)), (4, .int (nI s))]) hx hb zd_M_reachOf_61 hl rfl (za_inc _) (by decide) rfl (fun ls hl => ?_)
                  refine lv_goto hx hb (tgt := 15) zd_M_reachOf_64 (by decide) ?_
                  have e1 : za_ri w l Mv Mk s (za_ro w l Mv Mk s) (t + 1) = za_ri w l Mv Mk s (za_ro w l Mv Mk s) t := by first | with_reducible rfl | (simp [za_ri, h9, h19, h30, h42])
                  exact ih15 (t + 1) ls (by omega) (by omega) (by rw [e1]; exact lv_sub hl [2, 3, 4, 1, 5, 0] rfl)
                · have h42 := za_bT h42
                  refine lv_iload_n hx hb zd_M_reachOf_45 rfl (lv_at hl 3 rfl) ?_
                  refine lv_iconst (v := nI 1) hx hb zd_M_reachOf_46 (by decide) ?_
                  refine lv_aload_n hx hb zd_M_reachOf_47 rfl (lv_at hl 0 rfl) ?_
                  refine va_get (D := D) (ci := 5) (v := .ref aMk) (C := zs_M) (T := zt_M) (N := 12) hx hb hts zi_M hown hK hP 0 rfl rfl 8 (by decide) hf26 (fun _ h9 => h9) rfl zd_M_reachOf_48 ?_
                  refine lv_iload hx hb zd_M_reachOf_51 (lv_at hl 5 rfl) ?_
                  refine za_ild hx hb hK hP 2 0 rfl rfl (k := t) (by omega) (by decide) zd_M_reachOf_53 ?_
                  refine lv_ishl hx hb zd_M_reachOf_54 ?_
                  refine lv_ior hx hb zd_M_reachOf_55 ?_
                  refine lv_goto hx hb (tgt := 60) zd_M_reachOf_56 (by decide) ?_
                  refine lv_istore_n (lv' := [(3, .int ((za_ri w l Mv Mk s (za_ro w l Mv Mk s) t) ||| ((nI 1) <<< ((Mk t) &&& 31)))), (0, .ref aO), (1, .int w), (2, .int (nI l)), (4, .int (nI s)), (5, .int (nI t))]) hx hb zd_M_reachOf_60 rfl hl (by decide) rfl (fun ls hl => ?_)
                  refine lv_iinc (k := 5) (v := nI (t + 1)) (lv' := [(5, .int (nI (t + 1))), (3, .int ((za_ri w l Mv Mk s (za_ro w l Mv Mk s) t) ||| ((nI 1) <<< ((Mk t) &&& 31)))), (0, .ref aO), (1, .int w), (2, .int (nI l)), (4, .int (nI s))]) hx hb zd_M_reachOf_61 hl rfl (za_inc _) (by decide) rfl (fun ls hl => ?_)
                  refine lv_goto hx hb (tgt := 15) zd_M_reachOf_64 (by decide) ?_
                  have e1 : za_ri w l Mv Mk s (za_ro w l Mv Mk s) (t + 1) = ((za_ri w l Mv Mk s (za_ro w l Mv Mk s) t) ||| ((nI 1) <<< ((Mk t) &&& 31))) := by first | with_reducible rfl | (simp [za_ri, h9, h19, h30, h42])
                  exact ih15 (t + 1) ls (by omega) (by omega) (by rw [e1]; exact lv_sub hl [2, 3, 4, 1, 5, 0] rfl)
        have e1 : za_ri w l Mv Mk s (za_ro w l Mv Mk s) 0 = za_ro w l Mv Mk s := by first | with_reducible rfl | (rfl)
        exact hC15 (24 - 0 + 1) 0 ls (Nat.lt_succ_self _) (by omega) (by rw [e1]; exact lv_sub hl [1, 2, 3, 4, 5, 0] rfl)
  have e1 : za_ro w l Mv Mk 0 = nI 0 := by first | with_reducible rfl | (rfl)
  exact hC5 (24 - 0 + 1) 0 ls (Nat.lt_succ_self _) (by omega) (by rw [e1]; exact lv_sub hl [2, 3, 4, 1, 0] rfl)
def zr_M_init : Room := { frames := 1, cells := 8, slots := 5280, locals := 20 }
set_option maxHeartbeats 4000000 in
set_option maxRecDepth 100000 in
theorem zc_M_init (ln : Launch) (D : va_G) (cI cZ : ClassId) (sz : Nat) (aO : Nat) : Met ln zm_M_init (Cond.code zm_M_init zo_M_init 1 none :: zb_big) zr_M_init (za_Pw D vwCl [(cI, .int), (cZ, .boolean)] [.ref aO] [(aO, .inr (5, [.null, .int (nI 0), .null, .int (za_bi false), .null, .null, .null, .int (nI 0), .null, .int (nI 0), .null, .null]))] sz) (va_Qv (fun (u : Nat × Nat × Nat × Nat × Nat × Nat × Nat × Nat) => True) (za_B D vwCl [(aO, .inr (5, [.null, .int (nI 0), .null, .int (za_bi false), .null, .null, .null, .int (nI 0), .null, .int (nI 0), .null, .null]))] sz (fun (u : Nat × Nat × Nat × Nat × Nat × Nat × Nat × Nat) => [(aO, .inr (5, [.ref u.1, .int (nI 0), .ref u.2.1, .int (za_bi false), .ref u.2.2.1, .ref u.2.2.2.1, .ref u.2.2.2.2.1, .int (nI 0), .ref u.2.2.2.2.2.1, .int (nI 0), .ref u.2.2.2.2.2.2.1, .ref u.2.2.2.2.2.2.2])), (u.1, .inl (cZ, 2304, .inl (fun j => za_bi ((fun _ => false) j)))), (u.2.1, .inl (cI, 24, .inl (fun _ => nI 0))), (u.2.2.1, .inl (cI, 576, .inl (fun _ => nI 0))), (u.2.2.2.1, .inl (cZ, 576, .inl (fun j => za_bi ((fun _ => false) j)))), (u.2.2.2.2.1, .inl (cZ, 576, .inl (fun j => za_bi ((fun _ => false) j)))), (u.2.2.2.2.2.1, .inl (cI, 24, .inl (fun _ => nI 0))), (u.2.2.2.2.2.2.1, .inl (cI, 600, .inl (fun _ => nI 0))), (u.2.2.2.2.2.2.2, .inl (cI, 600, .inl (fun _ => nI 0)))])) (va_A [(aO, .inr (5, [.null, .int (nI 0), .null, .int (za_bi false), .null, .null, .null, .int (nI 0), .null, .int (nI 0), .null, .null]))] sz)) 8 5280 (va_A [(aO, .inr (5, [.null, .int (nI 0), .null, .int (za_bi false), .null, .null, .null, .int (nI 0), .null, .int (nI 0), .null, .null]))] sz) := by
  refine za_wv (cc := zo_M_init) (maxL := 1) (by decide) (Nat.le_of_ble_eq_true rfl) ?_
  intro p e sg m args below meth c H0 A Q hx hb hml hts hown hmn hP hK hN hD hA hS hret ls hl
  have hP : va_P D vwCl [(aO, .inr (5, [.null, .int (nI 0), .null, .int (za_bi false), .null, .null, .null, .int (nI 0), .null, .int (nI 0), .null, .null]))] H0 := hP
  have hD : va_D A [(aO, .inr (5, [.null, .int (nI 0), .null, .int (za_bi false), .null, .null, .null, .int (nI 0), .null, .int (nI 0), .null, .null]))] := hD
  have hl : lv_has ls 1 [(0, .ref aO)] := hl
  have ha_bool := hts _ zw_480
  have hf7 := hts _ zw_443
  have ha_int := hts _ zw_66
  have hf13 := hts _ zw_445
  have hf17 := hts _ zw_447
  have hf20 := hts _ zw_448
  have hf23 := hts _ zw_449
  have hf26 := hts _ zw_451
  have hf29 := hts _ zw_453
  have hf32 := hts _ zw_454
  refine lv_aload_n hx hb zd_M_init_0 rfl (lv_at hl 0 rfl) ?_
  refine W.objInit hx hb hown (hts _ zw_442) (hts _ zw_48) (hts _ zw_49) rfl (by rw [hml]; exact hl.1) rfl zd_M_init_1 (Nat.le_of_ble_eq_true rfl) (Nat.le_of_ble_eq_true rfl) ?_
  refine W.eq (g2 := F0 m 4 ls []) rfl ?_
  refine lv_aload_n hx hb zd_M_init_4 rfl (lv_at hl 0 rfl) ?_
  refine lv_sipush (v := nI 2304) hx hb zd_M_init_5 (by decide) ?_
  refine za_newZ hx hb ha_bool hK hP hD hS hA (N := 2304) (by decide) (by decide) (Nat.le_of_ble_eq_true rfl) (Nat.le_of_ble_eq_true rfl) zd_M_init_8 (fun q8 H hP hD hS => ?_)
  refine W.widen (k := 1) (n := 2304) (by omega) (by omega) ?_
  have hP : va_P D vwCl [(aO, .inr (5, [.null, .int (nI 0), .null, .int (za_bi false), .null, .null, .null, .int (nI 0), .null, .int (nI 0), .null, .null])), (q8, .inl (cZ, 2304, .inl (fun j => za_bi ((fun _ => false) j))))] H := hP
  have hD : va_D A [(aO, .inr (5, [.null, .int (nI 0), .null, .int (za_bi false), .null, .null, .null, .int (nI 0), .null, .int (nI 0), .null, .null])), (q8, .inl (cZ, 2304, .inl (fun j => za_bi ((fun _ => false) j))))] := hD
  refine va_putF (D := D) (ci := 5) (v := .ref q8) (ty := .array .boolean) (C := zs_M) (T := zt_M) (N := 12) hx hb hts zi_M zy_M zk_M zn_M hown hK hP hD hS 0 rfl rfl 0 (by decide) hf7 (fun _ h9 => h9) rfl hmn rfl (by decide +kernel) rfl rfl (Nat.le_of_ble_eq_true rfl) zd_M_init_10 (fun H locs hP hD hS => ?_)
  have hP : va_P D vwCl [(aO, .inr (5, [.ref q8, .int (nI 0), .null, .int (za_bi false), .null, .null, .null, .int (nI 0), .null, .int (nI 0), .null, .null])), (q8, .inl (cZ, 2304, .inl (fun j => za_bi ((fun _ => false) j))))] H := hP
  have hD : va_D A [(aO, .inr (5, [.ref q8, .int (nI 0), .null, .int (za_bi false), .null, .null, .null, .int (nI 0), .null, .int (nI 0), .null, .null])), (q8, .inl (cZ, 2304, .inl (fun j => za_bi ((fun _ => false) j))))] := hD
  refine lv_aload_n hx hb zd_M_init_13 rfl (lv_at hl 0 rfl) ?_
  refine lv_bipush (v := nI 24) hx hb zd_M_init_14 (by decide) ?_
  refine za_newI hx hb ha_int hK hP hD hS hA (N := 24) (by decide) (by decide) (Nat.le_of_ble_eq_true rfl) (Nat.le_of_ble_eq_true rfl) zd_M_init_16 (fun q16 H hP hD hS => ?_)
  refine W.widen (k := 2) (n := 2328) (by omega) (by omega) ?_
  have hP : va_P D vwCl [(aO, .inr (5, [.ref q8, .int (nI 0), .null, .int (za_bi false), .null, .null, .null, .int (nI 0), .null, .int (nI 0), .null, .null])), (q8, .inl (cZ, 2304, .inl (fun j => za_bi ((fun _ => false) j)))), (q16, .inl (cI, 24, .inl (fun _ => nI 0)))] H := hP
  have hD : va_D A [(aO, .inr (5, [.ref q8, .int (nI 0), .null, .int (za_bi false), .null, .null, .null, .int (nI 0), .null, .int (nI 0), .null, .null])), (q8, .inl (cZ, 2304, .inl (fun j => za_bi ((fun _ => false) j)))), (q16, .inl (cI, 24, .inl (fun _ => nI 0)))] := hD
  refine va_putF (D := D) (ci := 5) (v := .ref q16) (ty := .array .int) (C := zs_M) (T := zt_M) (N := 12) hx hb hts zi_M zy_M zk_M zn_M hown hK hP hD hS 0 rfl rfl 2 (by decide) hf13 (fun _ h9 => h9) rfl hmn rfl (by decide +kernel) rfl rfl (Nat.le_of_ble_eq_true rfl) zd_M_init_18 (fun H locs hP hD hS => ?_)
  have hP : va_P D vwCl [(aO, .inr (5, [.ref q8, .int (nI 0), .ref q16, .int (za_bi false), .null, .null, .null, .int (nI 0), .null, .int (nI 0), .null, .null])), (q8, .inl (cZ, 2304, .inl (fun j => za_bi ((fun _ => false) j)))), (q16, .inl (cI, 24, .inl (fun _ => nI 0)))] H := hP
  have hD : va_D A [(aO, .inr (5, [.ref q8, .int (nI 0), .ref q16, .int (za_bi false), .null, .null, .null, .int (nI 0), .null, .int (nI 0), .null, .null])), (q8, .inl (cZ, 2304, .inl (fun j => za_bi ((fun _ => false) j)))), (q16, .inl (cI, 24, .inl (fun _ => nI 0)))] := hD
  refine lv_aload_n hx hb zd_M_init_21 rfl (lv_at hl 0 rfl) ?_
  refine lv_sipush (v := nI 576) hx hb zd_M_init_22 (by decide) ?_
  refine za_newI hx hb ha_int hK hP hD hS hA (N := 576) (by decide) (by decide) (Nat.le_of_ble_eq_true rfl) (Nat.le_of_ble_eq_true rfl) zd_M_init_25 (fun q25 H hP hD hS => ?_)
  refine W.widen (k := 3) (n := 2904) (by omega) (by omega) ?_
  have hP : va_P D vwCl [(aO, .inr (5, [.ref q8, .int (nI 0), .ref q16, .int (za_bi false), .null, .null, .null, .int (nI 0), .null, .int (nI 0), .null, .null])), (q8, .inl (cZ, 2304, .inl (fun j => za_bi ((fun _ => false) j)))), (q16, .inl (cI, 24, .inl (fun _ => nI 0))), (q25, .inl (cI, 576, .inl (fun _ => nI 0)))] H := hP
  have hD : va_D A [(aO, .inr (5, [.ref q8, .int (nI 0), .ref q16, .int (za_bi false), .null, .null, .null, .int (nI 0), .null, .int (nI 0), .null, .null])), (q8, .inl (cZ, 2304, .inl (fun j => za_bi ((fun _ => false) j)))), (q16, .inl (cI, 24, .inl (fun _ => nI 0))), (q25, .inl (cI, 576, .inl (fun _ => nI 0)))] := hD
  refine va_putF (D := D) (ci := 5) (v := .ref q25) (ty := .array .int) (C := zs_M) (T := zt_M) (N := 12) hx hb hts zi_M zy_M zk_M zn_M hown hK hP hD hS 0 rfl rfl 4 (by decide) hf17 (fun _ h9 => h9) rfl hmn rfl (by decide +kernel) rfl rfl (Nat.le_of_ble_eq_true rfl) zd_M_init_27 (fun H locs hP hD hS => ?_)
  have hP : va_P D vwCl [(aO, .inr (5, [.ref q8, .int (nI 0), .ref q16, .int (za_bi false), .ref q25, .null, .null, .int (nI 0), .null, .int (nI 0), .null, .null])), (q8, .inl (cZ, 2304, .inl (fun j => za_bi ((fun _ => false) j)))), (q16, .inl (cI, 24, .inl (fun _ => nI 0))), (q25, .inl (cI, 576, .inl (fun _ => nI 0)))] H := hP
  have hD : va_D A [(aO, .inr (5, [.ref q8, .int (nI 0), .ref q16, .int (za_bi false), .ref q25, .null, .null, .int (nI 0), .null, .int (nI 0), .null, .null])), (q8, .inl (cZ, 2304, .inl (fun j => za_bi ((fun _ => false) j)))), (q16, .inl (cI, 24, .inl (fun _ => nI 0))), (q25, .inl (cI, 576, .inl (fun _ => nI 0)))] := hD
  refine lv_aload_n hx hb zd_M_init_30 rfl (lv_at hl 0 rfl) ?_
  refine lv_sipush (v := nI 576) hx hb zd_M_init_31 (by decide) ?_
  refine za_newZ hx hb ha_bool hK hP hD hS hA (N := 576) (by decide) (by decide) (Nat.le_of_ble_eq_true rfl) (Nat.le_of_ble_eq_true rfl) zd_M_init_34 (fun q34 H hP hD hS => ?_)
  refine W.widen (k := 4) (n := 3480) (by omega) (by omega) ?_
  have hP : va_P D vwCl [(aO, .inr (5, [.ref q8, .int (nI 0), .ref q16, .int (za_bi false), .ref q25, .null, .null, .int (nI 0), .null, .int (nI 0), .null, .null])), (q8, .inl (cZ, 2304, .inl (fun j => za_bi ((fun _ => false) j)))), (q16, .inl (cI, 24, .inl (fun _ => nI 0))), (q25, .inl (cI, 576, .inl (fun _ => nI 0))), (q34, .inl (cZ, 576, .inl (fun j => za_bi ((fun _ => false) j))))] H := hP
  have hD : va_D A [(aO, .inr (5, [.ref q8, .int (nI 0), .ref q16, .int (za_bi false), .ref q25, .null, .null, .int (nI 0), .null, .int (nI 0), .null, .null])), (q8, .inl (cZ, 2304, .inl (fun j => za_bi ((fun _ => false) j)))), (q16, .inl (cI, 24, .inl (fun _ => nI 0))), (q25, .inl (cI, 576, .inl (fun _ => nI 0))), (q34, .inl (cZ, 576, .inl (fun j => za_bi ((fun _ => false) j))))] := hD
  refine va_putF (D := D) (ci := 5) (v := .ref q34) (ty := .array .boolean) (C := zs_M) (T := zt_M) (N := 12) hx hb hts zi_M zy_M zk_M zn_M hown hK hP hD hS 0 rfl rfl 5 (by decide) hf20 (fun _ h9 => h9) rfl hmn rfl (by decide +kernel) rfl rfl (Nat.le_of_ble_eq_true rfl) zd_M_init_36 (fun H locs hP hD hS => ?_)
  have hP : va_P D vwCl [(aO, .inr (5, [.ref q8, .int (nI 0), .ref q16, .int (za_bi false), .ref q25, .ref q34, .null, .int (nI 0), .null, .int (nI 0), .null, .null])), (q8, .inl (cZ, 2304, .inl (fun j => za_bi ((fun _ => false) j)))), (q16, .inl (cI, 24, .inl (fun _ => nI 0))), (q25, .inl (cI, 576, .inl (fun _ => nI 0))), (q34, .inl (cZ, 576, .inl (fun j => za_bi ((fun _ => false) j))))] H := hP
  have hD : va_D A [(aO, .inr (5, [.ref q8, .int (nI 0), .ref q16, .int (za_bi false), .ref q25, .ref q34, .null, .int (nI 0), .null, .int (nI 0), .null, .null])), (q8, .inl (cZ, 2304, .inl (fun j => za_bi ((fun _ => false) j)))), (q16, .inl (cI, 24, .inl (fun _ => nI 0))), (q25, .inl (cI, 576, .inl (fun _ => nI 0))), (q34, .inl (cZ, 576, .inl (fun j => za_bi ((fun _ => false) j))))] := hD
  refine lv_aload_n hx hb zd_M_init_39 rfl (lv_at hl 0 rfl) ?_
  refine lv_sipush (v := nI 576) hx hb zd_M_init_40 (by decide) ?_
  refine za_newZ hx hb ha_bool hK hP hD hS hA (N := 576) (by decide) (by decide) (Nat.le_of_ble_eq_true rfl) (Nat.le_of_ble_eq_true rfl) zd_M_init_43 (fun q43 H hP hD hS => ?_)
  refine W.widen (k := 5) (n := 4056) (by omega) (by omega) ?_
  have hP : va_P D vwCl [(aO, .inr (5, [.ref q8, .int (nI 0), .ref q16, .int (za_bi false), .ref q25, .ref q34, .null, .int (nI 0), .null, .int (nI 0), .null, .null])), (q8, .inl (cZ, 2304, .inl (fun j => za_bi ((fun _ => false) j)))), (q16, .inl (cI, 24, .inl (fun _ => nI 0))), (q25, .inl (cI, 576, .inl (fun _ => nI 0))), (q34, .inl (cZ, 576, .inl (fun j => za_bi ((fun _ => false) j)))), (q43, .inl (cZ, 576, .inl (fun j => za_bi ((fun _ => false) j))))] H := hP
  have hD : va_D A [(aO, .inr (5, [.ref q8, .int (nI 0), .ref q16, .int (za_bi false), .ref q25, .ref q34, .null, .int (nI 0), .null, .int (nI 0), .null, .null])), (q8, .inl (cZ, 2304, .inl (fun j => za_bi ((fun _ => false) j)))), (q16, .inl (cI, 24, .inl (fun _ => nI 0))), (q25, .inl (cI, 576, .inl (fun _ => nI 0))), (q34, .inl (cZ, 576, .inl (fun j => za_bi ((fun _ => false) j)))), (q43, .inl (cZ, 576, .inl (fun j => za_bi ((fun _ => false) j))))] := hD
  refine va_putF (D := D) (ci := 5) (v := .ref q43) (ty := .array .boolean) (C := zs_M) (T := zt_M) (N := 12) hx hb hts zi_M zy_M zk_M zn_M hown hK hP hD hS 0 rfl rfl 6 (by decide) hf23 (fun _ h9 => h9) rfl hmn rfl (by decide +kernel) rfl rfl (Nat.le_of_ble_eq_true rfl) zd_M_init_45 (fun H locs hP hD hS => ?_)
  have hP : va_P D vwCl [(aO, .inr (5, [.ref q8, .int (nI 0), .ref q16, .int (za_bi false), .ref q25, .ref q34, .ref q43, .int (nI 0), .null, .int (nI 0), .null, .null])), (q8, .inl (cZ, 2304, .inl (fun j => za_bi ((fun _ => false) j)))), (q16, .inl (cI, 24, .inl (fun _ => nI 0))), (q25, .inl (cI, 576, .inl (fun _ => nI 0))), (q34, .inl (cZ, 576, .inl (fun j => za_bi ((fun _ => false) j)))), (q43, .inl (cZ, 576, .inl (fun j => za_bi ((fun _ => false) j))))] H := hP
  have hD : va_D A [(aO, .inr (5, [.ref q8, .int (nI 0), .ref q16, .int (za_bi false), .ref q25, .ref q34, .ref q43, .int (nI 0), .null, .int (nI 0), .null, .null])), (q8, .inl (cZ, 2304, .inl (fun j => za_bi ((fun _ => false) j)))), (q16, .inl (cI, 24, .inl (fun _ => nI 0))), (q25, .inl (cI, 576, .inl (fun _ => nI 0))), (q34, .inl (cZ, 576, .inl (fun j => za_bi ((fun _ => false) j)))), (q43, .inl (cZ, 576, .inl (fun j => za_bi ((fun _ => false) j))))] := hD
  refine lv_aload_n hx hb zd_M_init_48 rfl (lv_at hl 0 rfl) ?_
  refine lv_bipush (v := nI 24) hx hb zd_M_init_49 (by decide) ?_
  refine za_newI hx hb ha_int hK hP hD hS hA (N := 24) (by decide) (by decide) (Nat.le_of_ble_eq_true rfl) (Nat.le_of_ble_eq_true rfl) zd_M_init_51 (fun q51 H hP hD hS => ?_)
  refine W.widen (k := 6) (n := 4080) (by omega) (by omega) ?_
  have hP : va_P D vwCl [(aO, .inr (5, [.ref q8, .int (nI 0), .ref q16, .int (za_bi false), .ref q25, .ref q34, .ref q43, .int (nI 0), .null, .int (nI 0), .null, .null])), (q8, .inl (cZ, 2304, .inl (fun j => za_bi ((fun _ => false) j)))), (q16, .inl (cI, 24, .inl (fun _ => nI 0))), (q25, .inl (cI, 576, .inl (fun _ => nI 0))), (q34, .inl (cZ, 576, .inl (fun j => za_bi ((fun _ => false) j)))), (q43, .inl (cZ, 576, .inl (fun j => za_bi ((fun _ => false) j)))), (q51, .inl (cI, 24, .inl (fun _ => nI 0)))] H := hP
  have hD : va_D A [(aO, .inr (5, [.ref q8, .int (nI 0), .ref q16, .int (za_bi false), .ref q25, .ref q34, .ref q43, .int (nI 0), .null, .int (nI 0), .null, .null])), (q8, .inl (cZ, 2304, .inl (fun j => za_bi ((fun _ => false) j)))), (q16, .inl (cI, 24, .inl (fun _ => nI 0))), (q25, .inl (cI, 576, .inl (fun _ => nI 0))), (q34, .inl (cZ, 576, .inl (fun j => za_bi ((fun _ => false) j)))), (q43, .inl (cZ, 576, .inl (fun j => za_bi ((fun _ => false) j)))), (q51, .inl (cI, 24, .inl (fun _ => nI 0)))] := hD
  refine va_putF (D := D) (ci := 5) (v := .ref q51) (ty := .array .int) (C := zs_M) (T := zt_M) (N := 12) hx hb hts zi_M zy_M zk_M zn_M hown hK hP hD hS 0 rfl rfl 8 (by decide) hf26 (fun _ h9 => h9) rfl hmn rfl (by decide +kernel) rfl rfl (Nat.le_of_ble_eq_true rfl) zd_M_init_53 (fun H locs hP hD hS => ?_)
  have hP : va_P D vwCl [(aO, .inr (5, [.ref q8, .int (nI 0), .ref q16, .int (za_bi false), .ref q25, .ref q34, .ref q43, .int (nI 0), .ref q51, .int (nI 0), .null, .null])), (q8, .inl (cZ, 2304, .inl (fun j => za_bi ((fun _ => false) j)))), (q16, .inl (cI, 24, .inl (fun _ => nI 0))), (q25, .inl (cI, 576, .inl (fun _ => nI 0))), (q34, .inl (cZ, 576, .inl (fun j => za_bi ((fun _ => false) j)))), (q43, .inl (cZ, 576, .inl (fun j => za_bi ((fun _ => false) j)))), (q51, .inl (cI, 24, .inl (fun _ => nI 0)))] H := hP
  have hD : va_D A [(aO, .inr (5, [.ref q8, .int (nI 0), .ref q16, .int (za_bi false), .ref q25, .ref q34, .ref q43, .int (nI 0), .ref q51, .int (nI 0), .null, .null])), (q8, .inl (cZ, 2304, .inl (fun j => za_bi ((fun _ => false) j)))), (q16, .inl (cI, 24, .inl (fun _ => nI 0))), (q25, .inl (cI, 576, .inl (fun _ => nI 0))), (q34, .inl (cZ, 576, .inl (fun j => za_bi ((fun _ => false) j)))), (q43, .inl (cZ, 576, .inl (fun j => za_bi ((fun _ => false) j)))), (q51, .inl (cI, 24, .inl (fun _ => nI 0)))] := hD
  refine lv_aload_n hx hb zd_M_init_56 rfl (lv_at hl 0 rfl) ?_
  refine lv_sipush (v := nI 600) hx hb zd_M_init_57 (by decide) ?_
  refine za_newI hx hb ha_int hK hP hD hS hA (N := 600) (by decide) (by decide) (Nat.le_of_ble_eq_true rfl) (Nat.le_of_ble_eq_true rfl) zd_M_init_60 (fun q60 H hP hD hS => ?_)
  refine W.widen (k := 7) (n := 4680) (by omega) (by omega) ?_
  have hP : va_P D vwCl [(aO, .inr (5, [.ref q8, .int (nI 0), .ref q16, .int (za_bi false), .ref q25, .ref q34, .ref q43, .int (nI 0), .ref q51, .int (nI 0), .null, .null])), (q8, .inl (cZ, 2304, .inl (fun j => za_bi ((fun _ => false) j)))), (q16, .inl (cI, 24, .inl (fun _ => nI 0))), (q25, .inl (cI, 576, .inl (fun _ => nI 0))), (q34, .inl (cZ, 576, .inl (fun j => za_bi ((fun _ => false) j)))), (q43, .inl (cZ, 576, .inl (fun j => za_bi ((fun _ => false) j)))), (q51, .inl (cI, 24, .inl (fun _ => nI 0))), (q60, .inl (cI, 600, .inl (fun _ => nI 0)))] H := hP
  have hD : va_D A [(aO, .inr (5, [.ref q8, .int (nI 0), .ref q16, .int (za_bi false), .ref q25, .ref q34, .ref q43, .int (nI 0), .ref q51, .int (nI 0), .null, .null])), (q8, .inl (cZ, 2304, .inl (fun j => za_bi ((fun _ => false) j)))), (q16, .inl (cI, 24, .inl (fun _ => nI 0))), (q25, .inl (cI, 576, .inl (fun _ => nI 0))), (q34, .inl (cZ, 576, .inl (fun j => za_bi ((fun _ => false) j)))), (q43, .inl (cZ, 576, .inl (fun j => za_bi ((fun _ => false) j)))), (q51, .inl (cI, 24, .inl (fun _ => nI 0))), (q60, .inl (cI, 600, .inl (fun _ => nI 0)))] := hD
  refine va_putF (D := D) (ci := 5) (v := .ref q60) (ty := .array .int) (C := zs_M) (T := zt_M) (N := 12) hx hb hts zi_M zy_M zk_M zn_M hown hK hP hD hS 0 rfl rfl 10 (by decide) hf29 (fun _ h9 => h9) rfl hmn rfl (by decide +kernel) rfl rfl (Nat.le_of_ble_eq_true rfl) zd_M_init_62 (fun H locs hP hD hS => ?_)
  have hP : va_P D vwCl [(aO, .inr (5, [.ref q8, .int (nI 0), .ref q16, .int (za_bi false), .ref q25, .ref q34, .ref q43, .int (nI 0), .ref q51, .int (nI 0), .ref q60, .null])), (q8, .inl (cZ, 2304, .inl (fun j => za_bi ((fun _ => false) j)))), (q16, .inl (cI, 24, .inl (fun _ => nI 0))), (q25, .inl (cI, 576, .inl (fun _ => nI 0))), (q34, .inl (cZ, 576, .inl (fun j => za_bi ((fun _ => false) j)))), (q43, .inl (cZ, 576, .inl (fun j => za_bi ((fun _ => false) j)))), (q51, .inl (cI, 24, .inl (fun _ => nI 0))), (q60, .inl (cI, 600, .inl (fun _ => nI 0)))] H := hP
  have hD : va_D A [(aO, .inr (5, [.ref q8, .int (nI 0), .ref q16, .int (za_bi false), .ref q25, .ref q34, .ref q43, .int (nI 0), .ref q51, .int (nI 0), .ref q60, .null])), (q8, .inl (cZ, 2304, .inl (fun j => za_bi ((fun _ => false) j)))), (q16, .inl (cI, 24, .inl (fun _ => nI 0))), (q25, .inl (cI, 576, .inl (fun _ => nI 0))), (q34, .inl (cZ, 576, .inl (fun j => za_bi ((fun _ => false) j)))), (q43, .inl (cZ, 576, .inl (fun j => za_bi ((fun _ => false) j)))), (q51, .inl (cI, 24, .inl (fun _ => nI 0))), (q60, .inl (cI, 600, .inl (fun _ => nI 0)))] := hD
  refine lv_aload_n hx hb zd_M_init_65 rfl (lv_at hl 0 rfl) ?_
  refine lv_sipush (v := nI 600) hx hb zd_M_init_66 (by decide) ?_
  refine za_newI hx hb ha_int hK hP hD hS hA (N := 600) (by decide) (by decide) (Nat.le_of_ble_eq_true rfl) (Nat.le_of_ble_eq_true rfl) zd_M_init_69 (fun q69 H hP hD hS => ?_)
  refine W.widen (k := 8) (n := 5280) (by omega) (by omega) ?_
  have hP : va_P D vwCl [(aO, .inr (5, [.ref q8, .int (nI 0), .ref q16, .int (za_bi false), .ref q25, .ref q34, .ref q43, .int (nI 0), .ref q51, .int (nI 0), .ref q60, .null])), (q8, .inl (cZ, 2304, .inl (fun j => za_bi ((fun _ => false) j)))), (q16, .inl (cI, 24, .inl (fun _ => nI 0))), (q25, .inl (cI, 576, .inl (fun _ => nI 0))), (q34, .inl (cZ, 576, .inl (fun j => za_bi ((fun _ => false) j)))), (q43, .inl (cZ, 576, .inl (fun j => za_bi ((fun _ => false) j)))), (q51, .inl (cI, 24, .inl (fun _ => nI 0))), (q60, .inl (cI, 600, .inl (fun _ => nI 0))), (q69, .inl (cI, 600, .inl (fun _ => nI 0)))] H := hP
  have hD : va_D A [(aO, .inr (5, [.ref q8, .int (nI 0), .ref q16, .int (za_bi false), .ref q25, .ref q34, .ref q43, .int (nI 0), .ref q51, .int (nI 0), .ref q60, .null])), (q8, .inl (cZ, 2304, .inl (fun j => za_bi ((fun _ => false) j)))), (q16, .inl (cI, 24, .inl (fun _ => nI 0))), (q25, .inl (cI, 576, .inl (fun _ => nI 0))), (q34, .inl (cZ, 576, .inl (fun j => za_bi ((fun _ => false) j)))), (q43, .inl (cZ, 576, .inl (fun j => za_bi ((fun _ => false) j)))), (q51, .inl (cI, 24, .inl (fun _ => nI 0))), (q60, .inl (cI, 600, .inl (fun _ => nI 0))), (q69, .inl (cI, 600, .inl (fun _ => nI 0)))] := hD
  refine va_putF (D := D) (ci := 5) (v := .ref q69) (ty := .array .int) (C := zs_M) (T := zt_M) (N := 12) hx hb hts zi_M zy_M zk_M zn_M hown hK hP hD hS 0 rfl rfl 11 (by decide) hf32 (fun _ h9 => h9) rfl hmn rfl (by decide +kernel) rfl rfl (Nat.le_of_ble_eq_true rfl) zd_M_init_71 (fun H locs hP hD hS => ?_)
  have hP : va_P D vwCl [(aO, .inr (5, [.ref q8, .int (nI 0), .ref q16, .int (za_bi false), .ref q25, .ref q34, .ref q43, .int (nI 0), .ref q51, .int (nI 0), .ref q60, .ref q69])), (q8, .inl (cZ, 2304, .inl (fun j => za_bi ((fun _ => false) j)))), (q16, .inl (cI, 24, .inl (fun _ => nI 0))), (q25, .inl (cI, 576, .inl (fun _ => nI 0))), (q34, .inl (cZ, 576, .inl (fun j => za_bi ((fun _ => false) j)))), (q43, .inl (cZ, 576, .inl (fun j => za_bi ((fun _ => false) j)))), (q51, .inl (cI, 24, .inl (fun _ => nI 0))), (q60, .inl (cI, 600, .inl (fun _ => nI 0))), (q69, .inl (cI, 600, .inl (fun _ => nI 0)))] H := hP
  have hD : va_D A [(aO, .inr (5, [.ref q8, .int (nI 0), .ref q16, .int (za_bi false), .ref q25, .ref q34, .ref q43, .int (nI 0), .ref q51, .int (nI 0), .ref q60, .ref q69])), (q8, .inl (cZ, 2304, .inl (fun j => za_bi ((fun _ => false) j)))), (q16, .inl (cI, 24, .inl (fun _ => nI 0))), (q25, .inl (cI, 576, .inl (fun _ => nI 0))), (q34, .inl (cZ, 576, .inl (fun j => za_bi ((fun _ => false) j)))), (q43, .inl (cZ, 576, .inl (fun j => za_bi ((fun _ => false) j)))), (q51, .inl (cI, 24, .inl (fun _ => nI 0))), (q60, .inl (cI, 600, .inl (fun _ => nI 0))), (q69, .inl (cI, 600, .inl (fun _ => nI 0)))] := hD
  have hP9 : va_P D vwCl [(aO, .inr (5, [.ref q8, .int (nI 0), .ref q16, .int (za_bi false), .ref q25, .ref q34, .ref q43, .int (nI 0), .ref q51, .int (nI 0), .ref q60, .ref q69])), (q8, .inl (cZ, 2304, .inl (fun j => za_bi ((fun _ => false) j)))), (q16, .inl (cI, 24, .inl (fun _ => nI 0))), (q25, .inl (cI, 576, .inl (fun _ => nI 0))), (q34, .inl (cZ, 576, .inl (fun j => za_bi ((fun _ => false) j)))), (q43, .inl (cZ, 576, .inl (fun j => za_bi ((fun _ => false) j)))), (q51, .inl (cI, 24, .inl (fun _ => nI 0))), (q60, .inl (cI, 600, .inl (fun _ => nI 0))), (q69, .inl (cI, 600, .inl (fun _ => nI 0)))] H := hP
  have hD9 : va_D A [(aO, .inr (5, [.ref q8, .int (nI 0), .ref q16, .int (za_bi false), .ref q25, .ref q34, .ref q43, .int (nI 0), .ref q51, .int (nI 0), .ref q60, .ref q69])), (q8, .inl (cZ, 2304, .inl (fun j => za_bi ((fun _ => false) j)))), (q16, .inl (cI, 24, .inl (fun _ => nI 0))), (q25, .inl (cI, 576, .inl (fun _ => nI 0))), (q34, .inl (cZ, 576, .inl (fun j => za_bi ((fun _ => false) j)))), (q43, .inl (cZ, 576, .inl (fun j => za_bi ((fun _ => false) j)))), (q51, .inl (cI, 24, .inl (fun _ => nI 0))), (q60, .inl (cI, 600, .inl (fun _ => nI 0))), (q69, .inl (cI, 600, .inl (fun _ => nI 0)))] := hD
  exact hret ⟨q8, q16, q25, q34, q43, q51, q60, q69⟩ _ _ _ _ (trivial) hP9 hD9 hS zd_M_init_74
