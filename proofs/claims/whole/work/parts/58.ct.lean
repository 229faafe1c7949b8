def zr_J_bitCount : Room := { frames := 0, cells := 0, slots := 0, locals := 0 }
set_option maxHeartbeats 2000000 in
set_option maxRecDepth 100000 in
theorem zc_J_bitCount (ln : Launch) (D : va_G) (cI cZ : ClassId) (w : Int32) : Met ln zm_J_bitCount (Cond.code zm_J_bitCount zo_J_bitCount 1 (some .int) :: zb_big) zr_J_bitCount (za_Pr D vwCl [(cI, .int), (cZ, .boolean)] [.int w] []) (vp_Si (fun r => r = nI (za_pc w))) 0 0 (fun _ => False) := by
  refine za_reader (cc := zo_J_bitCount) (maxL := 1) (ty := .int) (by decide) (Nat.le_of_ble_eq_true rfl) (fun _ _ => rfl) ?_
  intro p e sg m args below meth c H Q hx hb hml hts hown hP hK hN hret ls hl
  have hP : va_P D vwCl [] H := hP
  have hl : lv_has ls 1 [(0, .int w)] := hl
  obtain ⟨m0, hm0, hw⟩ := za_of32 w
  have hl : lv_has ls 1 [(0, .int (nI m0))] := by rw [← hw]; exact hl
  refine lv_iload_n hx hb zd_J_bitCount_0 rfl (lv_at hl 0 rfl) ?_
  refine lv_iload_n hx hb zd_J_bitCount_1 rfl (lv_at hl 0 rfl) ?_
  refine lv_iconst (v := nI 1) hx hb zd_J_bitCount_2 (by decide) ?_
  refine lv_iushr hx hb zd_J_bitCount_3 rfl ?_
  refine lv_ldcw (v := nI 1431655765) hx hb hown (hts _ zw_k265) zd_J_bitCount_4 ?_
  refine lv_iand hx hb zd_J_bitCount_7 ?_
  refine lv_isub hx hb zd_J_bitCount_8 ?_
  refine za_eqi (y := nI (za_p1 m0)) (za_w1 hm0) ?_
  refine lv_istore_n (lv' := [(0, .int (nI (za_p1 m0)))]) hx hb zd_J_bitCount_9 rfl hl (by decide) rfl (fun ls hl => ?_)
  refine lv_iload_n hx hb zd_J_bitCount_10 rfl (lv_at hl 0 rfl) ?_
  refine lv_ldcw (v := nI 858993459) hx hb hown (hts _ zw_k266) zd_J_bitCount_11 ?_
  refine lv_iand hx hb zd_J_bitCount_14 ?_
  refine lv_iload_n hx hb zd_J_bitCount_15 rfl (lv_at hl 0 rfl) ?_
  refine lv_iconst (v := nI 2) hx hb zd_J_bitCount_16 (by decide) ?_
  refine lv_iushr hx hb zd_J_bitCount_17 rfl ?_
  refine lv_ldcw (v := nI 858993459) hx hb hown (hts _ zw_k266) zd_J_bitCount_18 ?_
  refine lv_iand hx hb zd_J_bitCount_21 ?_
  refine lv_iadd hx hb zd_J_bitCount_22 ?_
  refine za_eqi (y := nI (za_p2 (za_p1 m0))) (za_w2 (za_p1_lt hm0)) ?_
  refine lv_istore_n (lv' := [(0, .int (nI (za_p2 (za_p1 m0))))]) hx hb zd_J_bitCount_23 rfl hl (by decide) rfl (fun ls hl => ?_)
  refine lv_iload_n hx hb zd_J_bitCount_24 rfl (lv_at hl 0 rfl) ?_
  refine lv_iload_n hx hb zd_J_bitCount_25 rfl (lv_at hl 0 rfl) ?_
  refine lv_iconst (v := nI 4) hx hb zd_J_bitCount_26 (by decide) ?_
  refine lv_iushr hx hb zd_J_bitCount_27 rfl ?_
  refine lv_iadd hx hb zd_J_bitCount_28 ?_
  refine lv_ldcw (v := nI 252645135) hx hb hown (hts _ zw_k267) zd_J_bitCount_29 ?_
  refine lv_iand hx hb zd_J_bitCount_32 ?_
  refine za_eqi (y := nI (za_p3 (za_p2 (za_p1 m0)))) (za_w3 (za_p2_lt _)) ?_
  refine lv_istore_n (lv' := [(0, .int (nI (za_p3 (za_p2 (za_p1 m0)))))]) hx hb zd_J_bitCount_33 rfl hl (by decide) rfl (fun ls hl => ?_)
  refine lv_iload_n hx hb zd_J_bitCount_34 rfl (lv_at hl 0 rfl) ?_
  refine lv_iload_n hx hb zd_J_bitCount_35 rfl (lv_at hl 0 rfl) ?_
  refine lv_bipush (v := nI 8) hx hb zd_J_bitCount_36 (by decide) ?_
  refine lv_iushr hx hb zd_J_bitCount_38 rfl ?_
  refine lv_iadd hx hb zd_J_bitCount_39 ?_
  refine za_eqi (y := nI (za_p4 (za_p3 (za_p2 (za_p1 m0))))) (za_w4 (Nat.lt_of_le_of_lt (za_p3_lt _) (by decide))) ?_
  refine lv_istore_n (lv' := [(0, .int (nI (za_p4 (za_p3 (za_p2 (za_p1 m0))))))]) hx hb zd_J_bitCount_40 rfl hl (by decide) rfl (fun ls hl => ?_)
  refine lv_iload_n hx hb zd_J_bitCount_41 rfl (lv_at hl 0 rfl) ?_
  refine lv_iload_n hx hb zd_J_bitCount_42 rfl (lv_at hl 0 rfl) ?_
  refine lv_bipush (v := nI 16) hx hb zd_J_bitCount_43 (by decide) ?_
  refine lv_iushr hx hb zd_J_bitCount_45 rfl ?_
  refine lv_iadd hx hb zd_J_bitCount_46 ?_
  refine za_eqi (y := nI (za_p5 (za_p4 (za_p3 (za_p2 (za_p1 m0)))))) (za_w5 (za_p4_lt (za_p3_lt _))) ?_
  refine lv_istore_n (lv' := [(0, .int (nI (za_p5 (za_p4 (za_p3 (za_p2 (za_p1 m0)))))))]) hx hb zd_J_bitCount_47 rfl hl (by decide) rfl (fun ls hl => ?_)
  refine lv_iload_n hx hb zd_J_bitCount_48 rfl (lv_at hl 0 rfl) ?_
  refine lv_bipush (v := nI 63) hx hb zd_J_bitCount_49 (by decide) ?_
  refine lv_iand hx hb zd_J_bitCount_51 ?_
  refine za_eqi (y := nI (za_pc w)) (by rw [hw, za_nand, za_bits m0 hm0]) ?_
  exact hret _ _ _ (rfl) zd_J_bitCount_52
def zr_L_linkCount : Room := { frames := 3, cells := 0, slots := 0, locals := 68 }
set_option maxHeartbeats 2000000 in
set_option maxRecDepth 100000 in
theorem zc_L_linkCount (ln : Launch) (D : va_G) (cI cZ : ClassId) (aL : Nat) (aN : Nat) (aR : Nat) (aU : Nat) (aK : Nat) (lr : Nat) (kc : Nat) (sd : Bool) (aT : Nat) (aC : Nat) (ct : Int32) (Tg : Nat → Int32) (Kd : Nat → Int32) (hkc : kc ≤ 24) : Met ln zm_L_linkCount (Cond.code zm_L_linkCount zo_L_linkCount 4 (some .int) :: zb_big) zr_L_linkCount (za_Pr D vwCl [(cI, .int), (cZ, .boolean)] [.ref aL] [(aL, .inr (1, [.ref aN, .ref aR, .ref aU, .ref aK, .int (nI lr), .int (nI kc), .int (za_bi sd)])), (aK, .inl (cI, 24, .inl Kd)), (aN, .inr (0, [.ref aT, .ref aC, .int ct])), (aT, .inl (cI, 96, .inl Tg))]) (vp_Si (fun r => r = nI (za_sm (fun k9 => za_sm (fun l9 => za_pc (za_kr (nI k9) l9 Tg Kd 24)) 4) kc))) 0 0 (fun _ => False) := by
  refine za_reader (cc := zo_L_linkCount) (maxL := 4) (ty := .int) (by decide) (Nat.le_of_ble_eq_true rfl) (fun _ _ => rfl) ?_
  intro p e sg m args below meth c H Q hx hb hml hts hown hP hK hN hret ls hl
  have hP : va_P D vwCl [(aL, .inr (1, [.ref aN, .ref aR, .ref aU, .ref aK, .int (nI lr), .int (nI kc), .int (za_bi sd)])), (aK, .inl (cI, 24, .inl Kd)), (aN, .inr (0, [.ref aT, .ref aC, .int ct])), (aT, .inl (cI, 96, .inl Tg))] H := hP
  have hl : lv_has ls 4 [(0, .ref aL)] := hl
  have hf61 := hts _ zw_78
  refine lv_iconst (v := nI 0) hx hb zd_L_linkCount_0 (by decide) ?_
  refine lv_istore_n (lv' := [(1, .int (nI 0)), (0, .ref aL)]) hx hb zd_L_linkCount_1 rfl hl (by decide) rfl (fun ls hl => ?_)
  refine lv_iconst (v := nI 0) hx hb zd_L_linkCount_2 (by decide) ?_
  refine lv_istore_n (lv' := [(2, .int (nI 0)), (1, .int (nI 0)), (0, .ref aL)]) hx hb zd_L_linkCount_3 rfl hl (by decide) rfl (fun ls hl => ?_)
  have hC4 : ∀ (n4 : Nat) (k : Nat) (ls : Array Slot), kc - k < n4 → k ≤ kc → lv_has ls 4 [(0, .ref aL), (1, .int (nI (za_sm (fun k9 => za_sm (fun l9 => za_pc (za_kr (nI k9) l9 Tg Kd 24)) 4) k))), (2, .int (nI k))] → W p ln e zr_L_linkCount sg m args below meth c H [] 0 0 Q (F0 m 4 ls []) := by
    intro n4
    induction n4 with
    | zero => intro k ls hn4 hi_k hl; exact absurd hn4 (Nat.not_lt_zero _)
    | succ n4 ih4 =>
      intro k ls hn4 hi_k hl
      refine lv_iload_n hx hb zd_L_linkCount_4 rfl (lv_at hl 2 rfl) ?_
      refine lv_aload_n hx hb zd_L_linkCount_5 rfl (lv_at hl 0 rfl) ?_
      refine va_get (D := D) (ci := 1) (v := .int (nI kc)) (C := zs_L) (T := zt_L) (N := 7) hx hb hts zi_L hown hK hP 0 rfl rfl 5 (by decide) hf61 (fun _ h9 => h9) rfl zd_L_linkCount_6 ?_
      refine lv_icmp_ge hx hb (tgt := 43) zd_L_linkCount_9 (by decide) (fun h9 => ?_) (fun h9 => ?_)
      · have h9 := za_leN h9 (by omega) (by omega)
        refine lv_iload_n hx hb zd_L_linkCount_43 rfl (lv_at hl 1 rfl) ?_
        exact hret _ _ _ (by first | with_reducible rfl | (rw [show k = kc by omega])) zd_L_linkCount_44
      · have h9 := za_nleN h9 (by omega) (by omega)
        refine lv_iconst (v := nI 0) hx hb zd_L_linkCount_12 (by decide) ?_
        refine lv_istore_n (lv' := [(3, .int (nI 0)), (0, .ref aL), (1, .int (nI (za_sm (fun k9 => za_sm (fun l9 => za_pc (za_kr (nI k9) l9 Tg Kd 24)) 4) k))), (2, .int (nI k))]) hx hb zd_L_linkCount_13 rfl hl (by decide) rfl (fun ls hl => ?_)
        have hC14 : ∀ (n14 : Nat) (l : Nat) (ls : Array Slot), 4 - l < n14 → l ≤ 4 → lv_has ls 4 [(0, .ref aL), (1, .int (nI (za_sm (fun k9 => za_sm (fun l9 => za_pc (za_kr (nI k9) l9 Tg Kd 24)) 4) k + za_sm (fun l9 => za_pc (za_kr (nI k) l9 Tg Kd 24)) l))), (2, .int (nI k)), (3, .int (nI l))] → W p ln e zr_L_linkCount sg m args below meth c H [] 0 0 Q (F0 m 14 ls []) := by
          intro n14
          induction n14 with
          | zero => intro l ls hn14 hi_l hl; exact absurd hn14 (Nat.not_lt_zero _)
          | succ n14 ih14 =>
            intro l ls hn14 hi_l hl
            refine lv_iload_n hx hb zd_L_linkCount_14 rfl (lv_at hl 3 rfl) ?_
            refine lv_iconst (v := nI 4) hx hb zd_L_linkCount_15 (by decide) ?_
            refine lv_icmp_ge hx hb (tgt := 37) zd_L_linkCount_16 (by decide) (fun h16 => ?_) (fun h16 => ?_)
            · have h16 := za_leN h16 (by omega) (by omega)
              refine lv_iinc (k := 2) (v := nI (k + 1)) (lv' := [(2, .int (nI (k + 1))), (0, .ref aL), (1, .int (nI (za_sm (fun k9 => za_sm (fun l9 => za_pc (za_kr (nI k9) l9 Tg Kd 24)) 4) k + za_sm (fun l9 => za_pc (za_kr (nI k) l9 Tg Kd 24)) l))), (3, .int (nI l))]) hx hb zd_L_linkCount_37 hl rfl (za_inc _) (by decide) rfl (fun ls hl => ?_)
              refine lv_goto hx hb (tgt := 4) zd_L_linkCount_40 (by decide) ?_
              have e1 : nI (za_sm (fun k9 => za_sm (fun l9 => za_pc (za_kr (nI k9) l9 Tg Kd 24)) 4) (k + 1)) = nI (za_sm (fun k9 => za_sm (fun l9 => za_pc (za_kr (nI k9) l9 Tg Kd 24)) 4) k + za_sm (fun l9 => za_pc (za_kr (nI k) l9 Tg Kd 24)) l) := by first | with_reducible rfl | (exact congrArg nI (by rw [za_smS _ k, show l = 4 by omega]))
              exact ih4 (k + 1) ls (by omega) (by omega) (by rw [e1]; exact lv_sub hl [1, 2, 0] rfl)
            · have h16 := za_nleN h16 (by omega) (by omega)
              refine lv_iload_n hx hb zd_L_linkCount_19 rfl (lv_at hl 1 rfl) ?_
              refine lv_aload_n hx hb zd_L_linkCount_20 rfl (lv_at hl 0 rfl) ?_
              refine lv_iload_n hx hb zd_L_linkCount_21 rfl (lv_at hl 2 rfl) ?_
              refine lv_iload_n hx hb zd_L_linkCount_22 rfl (lv_at hl 3 rfl) ?_
              refine za_cV (As := [.int (nI k), .int (nI l)]) (rest := [.int (nI (za_sm (fun k9 => za_sm (fun l9 => za_pc (za_kr (nI k9) l9 Tg Kd 24)) 4) k + za_sm (fun l9 => za_pc (za_kr (nI k) l9 Tg Kd 24)) l))]) ⟨hx, hb, hml, hown, hts⟩ (zc_L_kindsReached ln D cI cZ aL aN aR aU aK lr kc sd aT aC ct Tg Kd (nI k) l (by omega)) (za_gV 2 hts zw_332 zw_316 zw_317 zw_37 zw_318 (by decide +kernel) ⟨Nat.le_of_ble_eq_true rfl, Nat.le_of_ble_eq_true rfl⟩) hK hN hP [0, 1, 2, 3] rfl (q0 := 0) rfl rfl hl rfl rfl (Nat.le_of_ble_eq_true rfl) zd_L_linkCount_23 ⟨Nat.le_of_ble_eq_true rfl, Nat.le_of_ble_eq_true rfl⟩ ?_
              refine za_cS (As := [.int (za_kr (nI k) l Tg Kd 24)]) (rest := [.int (nI (za_sm (fun k9 => za_sm (fun l9 => za_pc (za_kr (nI k9) l9 Tg Kd 24)) 4) k + za_sm (fun l9 => za_pc (za_kr (nI k) l9 Tg Kd 24)) l))]) ⟨hx, hb, hml, hown, hts⟩ (zc_J_bitCount ln D cI cZ (za_kr (nI k) l Tg Kd 24) ) (za_gS 1 hts zw_333 zw_334 zw_41 zw_335 (by decide +kernel) ⟨Nat.le_of_ble_eq_true rfl, Nat.le_of_ble_eq_true rfl⟩) hK hN hP [] rfl hl rfl rfl (Nat.le_of_ble_eq_true rfl) zd_L_linkCount_26 ⟨Nat.le_of_ble_eq_true rfl, Nat.le_of_ble_eq_true rfl⟩ ?_
              refine za_addN hx hb zd_L_linkCount_29 ?_
              refine lv_istore_n (lv' := [(1, .int (nI ((za_sm (fun k9 => za_sm (fun l9 => za_pc (za_kr (nI k9) l9 Tg Kd 24)) 4) k + za_sm (fun l9 => za_pc (za_kr (nI k) l9 Tg Kd 24)) l) + (za_pc (za_kr (nI k) l Tg Kd 24))))), (0, .ref aL), (2, .int (nI k)), (3, .int (nI l))]) hx hb zd_L_linkCount_30 rfl hl (by decide) rfl (fun ls hl => ?_)
              refine lv_iinc (k := 3) (v := nI (l + 1)) (lv' := [(3, .int (nI (l + 1))), (1, .int (nI ((za_sm (fun k9 => za_sm (fun l9 => za_pc (za_kr (nI k9) l9 Tg Kd 24)) 4) k + za_sm (fun l9 => za_pc (za_kr (nI k) l9 Tg Kd 24)) l) + (za_pc (za_kr (nI k) l Tg Kd 24))))), (0, .ref aL), (2, .int (nI k))]) hx hb zd_L_linkCount_31 hl rfl (za_inc _) (by decide) rfl (fun ls hl => ?_)
              refine lv_goto hx hb (tgt := 14) zd_L_linkCount_34 (by decide) ?_
              have e1 : nI (za_sm (fun k9 => za_sm (fun l9 => za_pc (za_kr (nI k9) l9 Tg Kd 24)) 4) k + za_sm (fun l9 => za_pc (za_kr (nI k) l9 Tg Kd 24)) (l + 1)) = nI ((za_sm (fun k9 => za_sm (fun l9 => za_pc (za_kr (nI k9) l9 Tg Kd 24)) 4) k + za_sm (fun l9 => za_pc (za_kr (nI k) l9 Tg Kd 24)) l) + (za_pc (za_kr (nI k) l Tg Kd 24))) := by first | with_reducible rfl | (exact congrArg nI (by rw [za_smS _ l]; omega))
              exact ih14 (l + 1) ls (by omega) (by omega) (by rw [e1]; exact lv_sub hl [2, 1, 3, 0] rfl)
        have e1 : nI (za_sm (fun k9 => za_sm (fun l9 => za_pc (za_kr (nI k9) l9 Tg Kd 24)) 4) k + za_sm (fun l9 => za_pc (za_kr (nI k) l9 Tg Kd 24)) 0) = nI (za_sm (fun k9 => za_sm (fun l9 => za_pc (za_kr (nI k9) l9 Tg Kd 24)) 4) k) := by first | with_reducible rfl | (rfl)
        exact hC14 (4 - 0 + 1) 0 ls (Nat.lt_succ_self _) (by omega) (by rw [e1]; exact lv_sub hl [1, 2, 3, 0] rfl)
  have e1 : nI (za_sm (fun k9 => za_sm (fun l9 => za_pc (za_kr (nI k9) l9 Tg Kd 24)) 4) 0) = nI 0 := by first | with_reducible rfl | (rfl)
  exact hC4 (kc - 0 + 1) 0 ls (Nat.lt_succ_self _) (by omega) (by rw [e1]; exact lv_sub hl [2, 1, 0] rfl)
def zr_X_links : Room := { frames := 6, cells := 0, slots := 0, locals := 135 }
set_option maxHeartbeats 2000000 in
set_option maxRecDepth 100000 in
theorem zc_X_links (ln : Launch) (D : va_G) (cI cZ : ClassId) (sz : Nat) (aX : Nat) (aV : Nat) (aG : Nat) (aL : Nat) (aN : Nat) (aR : Nat) (aU : Nat) (aK : Nat) (lr : Nat) (kc : Nat) (sd : Bool) (aT : Nat) (aC : Nat) (ct : Int32) (Tg : Nat → Int32) (Co : Nat → Int32) (Rw : Nat → Int32) (Un : Nat → Int32) (Kd : Nat → Int32) (hok : sd = true → za_like Tg Co Rw lr Kd kc) : Met ln zm_X_links (Cond.code zm_X_links zo_X_links 1 (some .int) :: zb_big) zr_X_links (za_Pw D vwCl [(cI, .int), (cZ, .boolean)] [.ref aX] [(aX, .inr (4, [.ref aN, .ref aL, .ref aV, .ref aG])), (aL, .inr (1, [.ref aN, .ref aR, .ref aU, .ref aK, .int (nI lr), .int (nI kc), .int (za_bi sd)])), (aR, .inl (cI, 576, .inl Rw)), (aU, .inl (cI, 96, .inl Un)), (aK, .inl (cI, 24, .inl Kd)), (aN, .inr (0, [.ref aT, .ref aC, .int ct])), (aT, .inl (cI, 96, .inl Tg)), (aC, .inl (cI, 24, .inl Co))] sz) (va_Qi (fun (r : Int32) (u : (Nat → Int32) × (Nat → Int32) × (Nat → Int32) × Nat × Nat × Bool) => r = nI (za_lks Tg Co) ∧ (u.2.2.2.2.2 = true → za_like Tg Co u.1 u.2.2.2.1 u.2.2.1 u.2.2.2.2.1)) (za_B D vwCl [(aX, .inr (4, [.ref aN, .ref aL, .ref aV, .ref aG])), (aL, .inr (1, [.ref aN, .ref aR, .ref aU, .ref aK, .int (nI lr), .int (nI kc), .int (za_bi sd)])), (aR, .inl (cI, 576, .inl Rw)), (aU, .inl (cI, 96, .inl Un)), (aK, .inl (cI, 24, .inl Kd)), (aN, .inr (0, [.ref aT, .ref aC, .int ct])), (aT, .inl (cI, 96, .inl Tg)), (aC, .inl (cI, 24, .inl Co))] sz (fun (u : (Nat → Int32) × (Nat → Int32) × (Nat → Int32) × Nat × Nat × Bool) => [(aX, .inr (4, [.ref aN, .ref aL, .ref aV, .ref aG])), (aL, .inr (1, [.ref aN, .ref aR, .ref aU, .ref aK, .int (nI u.2.2.2.1), .int (nI u.2.2.2.2.1), .int (za_bi u.2.2.2.2.2)])), (aR, .inl (cI, 576, .inl u.1)), (aU, .inl (cI, 96, .inl u.2.1)), (aK, .inl (cI, 24, .inl u.2.2.1)), (aN, .inr (0, [.ref aT, .ref aC, .int ct])), (aT, .inl (cI, 96, .inl Tg)), (aC, .inl (cI, 24, .inl Co))])) (va_A [(aX, .inr (4, [.ref aN, .ref aL, .ref aV, .ref aG])), (aL, .inr (1, [.ref aN, .ref aR, .ref aU, .ref aK, .int (nI lr), .int (nI kc), .int (za_bi sd)])), (aR, .inl (cI, 576, .inl Rw)), (aU, .inl (cI, 96, .inl Un)), (aK, .inl (cI, 24, .inl Kd)), (aN, .inr (0, [.ref aT, .ref aC, .int ct])), (aT, .inl (cI, 96, .inl Tg)), (aC, .inl (cI, 24, .inl Co))] sz)) 0 0 (va_A [(aX, .inr (4, [.ref aN, .ref aL, .ref aV, .ref aG])), (aL, .inr (1, [.ref aN, .ref aR, .ref aU, .ref aK, .int (nI lr), .int (nI kc), .int (za_bi sd)])), (aR, .inl (cI, 576, .inl Rw)), (aU, .inl (cI, 96, .inl Un)), (aK, .inl (cI, 24, .inl Kd)), (aN, .inr (0, [.ref aT, .ref aC, .int ct])), (aT, .inl (cI, 96, .inl Tg)), (aC, .inl (cI, 24, .inl Co))] sz) := by
  refine za_wi (cc := zo_X_links) (maxL := 1) (ty := .int) (by decide) (Nat.le_of_ble_eq_true rfl) (fun _ _ _ => rfl) ?_
  intro p e sg m args below meth c H0 A Q hx hb hml hts hown hmn hP hK hN hD hA hS hret ls hl
  have hP : va_P D vwCl [(aX, .inr (4, [.ref aN, .ref aL, .ref aV, .ref aG])), (aL, .inr (1, [.ref aN, .ref aR, .ref aU, .ref aK, .int (nI lr), .int (nI kc), .int (za_bi sd)])), (aR, .inl (cI, 576, .inl Rw)), (aU, .inl (cI, 96, .inl Un)), (aK, .inl (cI, 24, .inl Kd)), (aN, .inr (0, [.ref aT, .ref aC, .int ct])), (aT, .inl (cI, 96, .inl Tg)), (aC, .inl (cI, 24, .inl Co))] H0 := hP
  have hD : va_D A [(aX, .inr (4, [.ref aN, .ref aL, .ref aV, .ref aG])), (aL, .inr (1, [.ref aN, .ref aR, .ref aU, .ref aK, .int (nI lr), .int (nI kc), .int (za_bi sd)])), (aR, .inl (cI, 576, .inl Rw)), (aU, .inl (cI, 96, .inl Un)), (aK, .inl (cI, 24, .inl Kd)), (aN, .inr (0, [.ref aT, .ref aC, .int ct])), (aT, .inl (cI, 96, .inl Tg)), (aC, .inl (cI, 24, .inl Co))] := hD
  have hl : lv_has ls 1 [(0, .ref aX)] := hl
  refine lv_aload_n hx hb zd_X_links_0 rfl (lv_at hl 0 rfl) ?_
  refine za_wVr (As := []) (rest := []) (wr := []) (wz := (fun u => [(aX, .inr (4, [.ref aN, .ref aL, .ref aV, .ref aG])), (aL, .inr (1, [.ref aN, .ref aR, .ref aU, .ref aK, .int (nI u.2.2.2.1), .int (nI u.2.2.2.2), .int (za_bi true)])), (aR, .inl (cI, 576, .inl u.1)), (aU, .inl (cI, 96, .inl u.2.1)), (aK, .inl (cI, 24, .inl u.2.2.1)), (aN, .inr (0, [.ref aT, .ref aC, .int ct])), (aT, .inl (cI, 96, .inl Tg)), (aC, .inl (cI, 24, .inl Co))])) ⟨hx, hb, hml, hown, hts⟩ (zc_X_settledLikeness ln D cI cZ _ aX aV aG aL aN aR aU aK lr kc sd aT aC ct Tg Co Rw Un Kd (by exact hok)) (za_gV 0 hts zw_231 zw_233 zw_1 zw_35 zw_234 (by decide +kernel) ⟨Nat.le_of_ble_eq_true rfl, Nat.le_of_ble_eq_true rfl⟩) hK hN hP hD hS hA [0, 1, 2, 3, 4, 5, 6, 7] [] [0, 1, 2, 3, 4, 5, 6, 7] rfl rfl (by decide) (by decide) (by decide) (by decide) (fun _ => rfl) (q0 := 0) rfl rfl hl rfl rfl (Nat.le_of_ble_eq_true rfl) zd_X_links_1 ⟨Nat.le_of_ble_eq_true rfl, Nat.le_of_ble_eq_true rfl⟩ (fun u1 H locs hq1 hP hD hS => ?_)
  obtain ⟨Rw1_1, Un1_1, Kd1_1, lr1_1, kc1_1⟩ := u1
  have hP : va_P D vwCl [(aX, .inr (4, [.ref aN, .ref aL, .ref aV, .ref aG])), (aL, .inr (1, [.ref aN, .ref aR, .ref aU, .ref aK, .int (nI lr1_1), .int (nI kc1_1), .int (za_bi true)])), (aR, .inl (cI, 576, .inl Rw1_1)), (aU, .inl (cI, 96, .inl Un1_1)), (aK, .inl (cI, 24, .inl Kd1_1)), (aN, .inr (0, [.ref aT, .ref aC, .int ct])), (aT, .inl (cI, 96, .inl Tg)), (aC, .inl (cI, 24, .inl Co))] H := hP
  have hD : va_D A [(aX, .inr (4, [.ref aN, .ref aL, .ref aV, .ref aG])), (aL, .inr (1, [.ref aN, .ref aR, .ref aU, .ref aK, .int (nI lr1_1), .int (nI kc1_1), .int (za_bi true)])), (aR, .inl (cI, 576, .inl Rw1_1)), (aU, .inl (cI, 96, .inl Un1_1)), (aK, .inl (cI, 24, .inl Kd1_1)), (aN, .inr (0, [.ref aT, .ref aC, .int ct])), (aT, .inl (cI, 96, .inl Tg)), (aC, .inl (cI, 24, .inl Co))] := hD
  have hq1 : za_like Tg Co Rw1_1 lr1_1 Kd1_1 kc1_1 := hq1
  refine za_cV (As := []) (rest := []) ⟨hx, hb, hml, hown, hts⟩ (zc_L_linkCount ln D cI cZ aL aN aR aU aK lr1_1 kc1_1 true aT aC ct Tg Kd1_1 (by rw [hq1.2.2.2.2]; exact za_kc_le Tg Co)) (za_gV 0 hts zw_328 zw_329 zw_330 zw_37 zw_331 (by decide +kernel) ⟨Nat.le_of_ble_eq_true rfl, Nat.le_of_ble_eq_true rfl⟩) hK hN hP [1, 4, 5, 6] rfl (q0 := 1) rfl rfl hl rfl rfl (Nat.le_of_ble_eq_true rfl) zd_X_links_4 ⟨Nat.le_of_ble_eq_true rfl, Nat.le_of_ble_eq_true rfl⟩ ?_
  refine za_eqi (y := nI (za_lks Tg Co)) (by rw [hq1.2.2.2.2, za_lks_of hq1.2.2.2.1]) ?_
  have hP9 : va_P D vwCl [(aX, .inr (4, [.ref aN, .ref aL, .ref aV, .ref aG])), (aL, .inr (1, [.ref aN, .ref aR, .ref aU, .ref aK, .int (nI lr1_1), .int (nI kc1_1), .int (za_bi true)])), (aR, .inl (cI, 576, .inl Rw1_1)), (aU, .inl (cI, 96, .inl Un1_1)), (aK, .inl (cI, 24, .inl Kd1_1)), (aN, .inr (0, [.ref aT, .ref aC, .int ct])), (aT, .inl (cI, 96, .inl Tg)), (aC, .inl (cI, 24, .inl Co))] H := hP
  have hD9 : va_D A [(aX, .inr (4, [.ref aN, .ref aL, .ref aV, .ref aG])), (aL, .inr (1, [.ref aN, .ref aR, .ref aU, .ref aK, .int (nI lr1_1), .int (nI kc1_1), .int (za_bi true)])), (aR, .inl (cI, 576, .inl Rw1_1)), (aU, .inl (cI, 96, .inl Un1_1)), (aK, .inl (cI, 24, .inl Kd1_1)), (aN, .inr (0, [.ref aT, .ref aC, .int ct])), (aT, .inl (cI, 96, .inl Tg)), (aC, .inl (cI, 24, .inl Co))] := hD
  have hQ9 : (nI (za_lks Tg Co)) = nI (za_lks Tg Co) ∧ (true = true → za_like Tg Co Rw1_1 lr1_1 Kd1_1 kc1_1) := by exact ⟨rfl, fun _ => hq1⟩
  exact hret _ ⟨Rw1_1, Un1_1, Kd1_1, lr1_1, kc1_1, true⟩ _ _ _ _ (hQ9) hP9 hD9 hS zd_X_links_7
def zr_X_below : Room := { frames := 6, cells := 0, slots := 0, locals := 134 }
set_option maxHeartbeats 2000000 in
set_option maxRecDepth 100000 in
theorem zc_X_below (ln : Launch) (D : va_G) (cI cZ : ClassId) (sz : Nat) (aX : Nat) (aV : Nat) (aG : Nat) (aL : Nat) (aN : Nat) (aB : Nat) (aW : Nat) (sc : Bool) (aT : Nat) (aC : Nat) (ct : Int32) (Tg : Nat → Int32) (Co : Nat → Int32) (Bl : Nat → Int32) (Uc : Nat → Int32) (w : Int32) (hsm : za_small Tg) (hok : sc = true → za_cov Tg Co Bl) : Met ln zm_X_below (Cond.code zm_X_below zo_X_below 2 (some .int) :: zb_big) zr_X_below (za_Pw D vwCl [(cI, .int), (cZ, .boolean)] [.ref aX, .int w] [(aX, .inr (4, [.ref aN, .ref aL, .ref aV, .ref aG])), (aV, .inr (2, [.ref aN, .ref aB, .ref aW, .int (za_bi sc)])), (aB, .inl (cI, 24, .inl Bl)), (aW, .inl (cI, 96, .inl Uc)), (aN, .inr (0, [.ref aT, .ref aC, .int ct])), (aT, .inl (cI, 96, .inl Tg)), (aC, .inl (cI, 24, .inl Co))] sz) (va_Qi (fun (r : Int32) (u : (Nat → Int32) × (Nat → Int32) × Bool) => r = (if za_isS w = true then nI (za_cn (za_cv Tg Co 576 (za_clp w)) 24) else (-1)) ∧ (u.2.2 = true → za_cov Tg Co u.1)) (za_B D vwCl [(aX, .inr (4, [.ref aN, .ref aL, .ref aV, .ref aG])), (aV, .inr (2, [.ref aN, .ref aB, .ref aW, .int (za_bi sc)])), (aB, .inl (cI, 24, .inl Bl)), (aW, .inl (cI, 96, .inl Uc)), (aN, .inr (0, [.ref aT, .ref aC, .int ct])), (aT, .inl (cI, 96, .inl Tg)), (aC, .inl (cI, 24, .inl Co))] sz (fun (u : (Nat → Int32) × (Nat → Int32) × Bool) => [(aX, .inr (4, [.ref aN, .ref aL, .ref aV, .ref aG])), (aV, .inr (2, [.ref aN, .ref aB, .ref aW, .int (za_bi u.2.2)])), (aB, .inl (cI, 24, .inl u.1)), (aW, .inl (cI, 96, .inl u.2.1)), (aN, .inr (0, [.ref aT, .ref aC, .int ct])), (aT, .inl (cI, 96, .inl Tg)), (aC, .inl (cI, 24, .inl Co))])) (va_A [(aX, .inr (4, [.ref aN, .ref aL, .ref aV, .ref aG])), (aV, .inr (2, [.ref aN, .ref aB, .ref aW, .int (za_bi sc)])), (aB, .inl (cI, 24, .inl Bl)), (aW, .inl (cI, 96, .inl Uc)), (aN, .inr (0, [.ref aT, .ref aC, .int ct])), (aT, .inl (cI, 96, .inl Tg)), (aC, .inl (cI, 24, .inl Co))] sz)) 0 0 (va_A [(aX, .inr (4, [.ref aN, .ref aL, .ref aV, .ref aG])), (aV, .inr (2, [.ref aN, .ref aB, .ref aW, .int (za_bi sc)])), (aB, .inl (cI, 24, .inl Bl)), (aW, .inl (cI, 96, .inl Uc)), (aN, .inr (0, [.ref aT, .ref aC, .int ct])), (aT, .inl (cI, 96, .inl Tg)), (aC, .inl (cI, 24, .inl Co))] sz) := by
  refine za_wi (cc := zo_X_below) (maxL := 2) (ty := .int) (by decide) (Nat.le_of_ble_eq_true rfl) (fun _ _ _ => rfl) ?_
  intro p e sg m args below meth c H0 A Q hx hb hml hts hown hmn hP hK hN hD hA hS hret ls hl
  have hP : va_P D vwCl [(aX, .inr (4, [.ref aN, .ref aL, .ref aV, .ref aG])), (aV, .inr (2, [.ref aN, .ref aB, .ref aW, .int (za_bi sc)])), (aB, .inl (cI, 24, .inl Bl)), (aW, .inl (cI, 96, .inl Uc)), (aN, .inr (0, [.ref aT, .ref aC, .int ct])), (aT, .inl (cI, 96, .inl Tg)), (aC, .inl (cI, 24, .inl Co))] H0 := hP
  have hD : va_D A [(aX, .inr (4, [.ref aN, .ref aL, .ref aV, .ref aG])), (aV, .inr (2, [.ref aN, .ref aB, .ref aW, .int (za_bi sc)])), (aB, .inl (cI, 24, .inl Bl)), (aW, .inl (cI, 96, .inl Uc)), (aN, .inr (0, [.ref aT, .ref aC, .int ct])), (aT, .inl (cI, 96, .inl Tg)), (aC, .inl (cI, 24, .inl Co))] := hD
  have hl : lv_has ls 2 [(0, .ref aX), (1, .int w)] := hl
  refine lv_iload_n hx hb zd_X_below_0 rfl (lv_at hl 1 rfl) ?_
  refine za_cS (As := [.int w]) (rest := []) ⟨hx, hb, hml, hown, hts⟩ (zc_X_isState ln D cI cZ w ) (za_gS 1 hts zw_162 zw_163 zw_35 zw_164 (by decide +kernel) ⟨Nat.le_of_ble_eq_true rfl, Nat.le_of_ble_eq_true rfl⟩) hK hN hP [] rfl hl rfl rfl (Nat.le_of_ble_eq_true rfl) zd_X_below_1 ⟨Nat.le_of_ble_eq_true rfl, Nat.le_of_ble_eq_true rfl⟩ ?_
  refine lv_if_eq hx hb (tgt := 21) zd_X_below_4 (by decide) (fun h4 => ?_) (fun h4 => ?_)
  · have h4 := za_bF h4
    refine lv_iconst (v := (-1)) hx hb zd_X_below_21 (by decide) ?_
    have hP9 : va_P D vwCl [(aX, .inr (4, [.ref aN, .ref aL, .ref aV, .ref aG])), (aV, .inr (2, [.ref aN, .ref aB, .ref aW, .int (za_bi sc)])), (aB, .inl (cI, 24, .inl Bl)), (aW, .inl (cI, 96, .inl Uc)), (aN, .inr (0, [.ref aT, .ref aC, .int ct])), (aT, .inl (cI, 96, .inl Tg)), (aC, .inl (cI, 24, .inl Co))] H0 := hP
    have hD9 : va_D A [(aX, .inr (4, [.ref aN, .ref aL, .ref aV, .ref aG])), (aV, .inr (2, [.ref aN, .ref aB, .ref aW, .int (za_bi sc)])), (aB, .inl (cI, 24, .inl Bl)), (aW, .inl (cI, 96, .inl Uc)), (aN, .inr (0, [.ref aT, .ref aC, .int ct])), (aT, .inl (cI, 96, .inl Tg)), (aC, .inl (cI, 24, .inl Co))] := hD
    have hQ9 : (-1) = (if za_isS w = true then nI (za_cn (za_cv Tg Co 576 (za_clp w)) 24) else (-1)) ∧ (sc = true → za_cov Tg Co Bl) := by first | exact ⟨by rw [h4]; rfl, hok⟩ | exact ⟨by rw [if_pos h4, hw, za_clS hs0], fun _ => hq8⟩
    exact hret _ ⟨Bl, Uc, sc⟩ _ _ _ _ (hQ9) hP9 hD9 hS zd_X_below_22
  · have h4 := za_bT h4
    obtain ⟨s, hs0, hw⟩ := za_isS_of h4
    have hl : lv_has ls 2 [(0, .ref aX), (1, .int (nI s))] := by rw [← hw]; exact hl
    refine lv_aload_n hx hb zd_X_below_7 rfl (lv_at hl 0 rfl) ?_
    refine za_wVr (As := []) (rest := []) (wr := []) (wz := (fun u => [(aX, .inr (4, [.ref aN, .ref aL, .ref aV, .ref aG])), (aV, .inr (2, [.ref aN, .ref aB, .ref aW, .int (za_bi true)])), (aB, .inl (cI, 24, .inl u.1)), (aW, .inl (cI, 96, .inl u.2)), (aN, .inr (0, [.ref aT, .ref aC, .int ct])), (aT, .inl (cI, 96, .inl Tg)), (aC, .inl (cI, 24, .inl Co))])) ⟨hx, hb, hml, hown, hts⟩ (zc_X_settledCover ln D cI cZ _ aX aV aG aL aN aB aW sc aT aC ct Tg Co Bl Uc (by exact hsm) (by exact hok)) (za_gV 0 hts zw_343 zw_345 zw_9 zw_35 zw_346 (by decide +kernel) ⟨Nat.le_of_ble_eq_true rfl, Nat.le_of_ble_eq_true rfl⟩) hK hN hP hD hS hA [0, 1, 2, 3, 4, 5, 6] [] [0, 1, 2, 3, 4, 5, 6] rfl rfl (by decide) (by decide) (by decide) (by decide) (fun _ => rfl) (q0 := 0) rfl rfl hl rfl rfl (Nat.le_of_ble_eq_true rfl) zd_X_below_8 ⟨Nat.le_of_ble_eq_true rfl, Nat.le_of_ble_eq_true rfl⟩ (fun u8 H locs hq8 hP hD hS => ?_)
    obtain ⟨Bl1_8, Uc1_8⟩ := u8
    have hP : va_P D vwCl [(aX, .inr (4, [.ref aN, .ref aL, .ref aV, .ref aG])), (aV, .inr (2, [.ref aN, .ref aB, .ref aW, .int (za_bi true)])), (aB, .inl (cI, 24, .inl Bl1_8)), (aW, .inl (cI, 96, .inl Uc1_8)), (aN, .inr (0, [.ref aT, .ref aC, .int ct])), (aT, .inl (cI, 96, .inl Tg)), (aC, .inl (cI, 24, .inl Co))] H := hP
    have hD : va_D A [(aX, .inr (4, [.ref aN, .ref aL, .ref aV, .ref aG])), (aV, .inr (2, [.ref aN, .ref aB, .ref aW, .int (za_bi true)])), (aB, .inl (cI, 24, .inl Bl1_8)), (aW, .inl (cI, 96, .inl Uc1_8)), (aN, .inr (0, [.ref aT, .ref aC, .int ct])), (aT, .inl (cI, 96, .inl Tg)), (aC, .inl (cI, 24, .inl Co))] := hD
    have hq8 : za_cov Tg Co Bl1_8 := hq8
    refine lv_iload_n hx hb zd_X_below_11 rfl (lv_at hl 1 rfl) ?_
    refine za_cV (As := [.int (nI s)]) (rest := []) ⟨hx, hb, hml, hown, hts⟩ (zc_C_belowOf ln D cI cZ aV aN aB aW true Bl1_8 s (by omega)) (za_gV 1 hts zw_367 zw_368 zw_369 zw_38 zw_370 (by decide +kernel) ⟨Nat.le_of_ble_eq_true rfl, Nat.le_of_ble_eq_true rfl⟩) hK hN hP [1, 2] rfl (q0 := 1) rfl rfl hl rfl rfl (Nat.le_of_ble_eq_true rfl) zd_X_below_12 ⟨Nat.le_of_ble_eq_true rfl, Nat.le_of_ble_eq_true rfl⟩ ?_
    refine za_cS (As := [.int (Bl1_8 s)]) (rest := []) ⟨hx, hb, hml, hown, hts⟩ (zc_J_bitCount ln D cI cZ (Bl1_8 s) ) (za_gS 1 hts zw_376 zw_334 zw_41 zw_335 (by decide +kernel) ⟨Nat.le_of_ble_eq_true rfl, Nat.le_of_ble_eq_true rfl⟩) hK hN hP [] rfl hl rfl rfl (Nat.le_of_ble_eq_true rfl) zd_X_below_15 ⟨Nat.le_of_ble_eq_true rfl, Nat.le_of_ble_eq_true rfl⟩ ?_
    refine za_eqi (y := nI (za_cn (za_cv Tg Co 576 s) 24)) (by rw [hq8 s hs0, za_pc_mk]) ?_
    refine lv_goto hx hb (tgt := 22) zd_X_below_18 (by decide) ?_
    have hP9 : va_P D vwCl [(aX, .inr (4, [.ref aN, .ref aL, .ref aV, .ref aG])), (aV, .inr (2, [.ref aN, .ref aB, .ref aW, .int (za_bi true)])), (aB, .inl (cI, 24, .inl Bl1_8)), (aW, .inl (cI, 96, .inl Uc1_8)), (aN, .inr (0, [.ref aT, .ref aC, .int ct])), (aT, .inl (cI, 96, .inl Tg)), (aC, .inl (cI, 24, .inl Co))] H := hP
    have hD9 : va_D A [(aX, .inr (4, [.ref aN, .ref aL, .ref aV, .ref aG])), (aV, .inr (2, [.ref aN, .ref aB, .ref aW, .int (za_bi true)])), (aB, .inl (cI, 24, .inl Bl1_8)), (aW, .inl (cI, 96, .inl Uc1_8)), (aN, .inr (0, [.ref aT, .ref aC, .int ct])), (aT, .inl (cI, 96, .inl Tg)), (aC, .inl (cI, 24, .inl Co))] := hD
    have hQ9 : (nI (za_cn (za_cv Tg Co 576 s) 24)) = (if za_isS w = true then nI (za_cn (za_cv Tg Co 576 (za_clp w)) 24) else (-1)) ∧ (true = true → za_cov Tg Co Bl1_8) := by first | exact ⟨by rw [h4]; rfl, hok⟩ | exact ⟨by rw [if_pos h4, hw, za_clS hs0], fun _ => hq8⟩
    exact hret _ ⟨Bl1_8, Uc1_8, true⟩ _ _ _ _ (hQ9) hP9 hD9 hS zd_X_below_22
