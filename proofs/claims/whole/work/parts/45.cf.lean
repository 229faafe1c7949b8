def zr_G_countAttacks : Room := { frames := 3, cells := 0, slots := 0, locals := 73 }
set_option maxHeartbeats 4000000 in
set_option maxRecDepth 100000 in
theorem zc_G_countAttacks (ln : Launch) (D : va_G) (cI cZ : ClassId) (aG : Nat) (aN : Nat) (aL : Nat) (aS : Nat) (aM : Nat) (aA : Nat) (ln0 : Nat) (aT : Nat) (aC : Nat) (ct : Int32) (aR : Nat) (aU : Nat) (aK : Nat) (lr : Nat) (kc : Nat) (sd : Bool) (Tg : Nat → Int32) (Rw : Nat → Int32) (Co : Nat → Int32) (Kd : Nat → Int32) (s : Nat) (t : Nat) (hs0 : s < 24) (ht0 : t < 24) (hlk : za_like Tg Co Rw lr Kd kc) : Met ln zm_G_countAttacks (Cond.code zm_G_countAttacks zo_G_countAttacks 4 (some .int) :: zb_big) zr_G_countAttacks (za_Pr D vwCl [(cI, .int), (cZ, .boolean)] [.ref aG, .int (nI s), .int (nI t)] [(aG, .inr (3, [.ref aN, .ref aL, .ref aS, .ref aM, .ref aA, .int (nI ln0)])), (aN, .inr (0, [.ref aT, .ref aC, .int ct])), (aT, .inl (cI, 96, .inl Tg)), (aL, .inr (1, [.ref aN, .ref aR, .ref aU, .ref aK, .int (nI lr), .int (nI kc), .int (za_bi sd)])), (aR, .inl (cI, 576, .inl Rw))]) (vp_Si (fun r => r = za_ac Tg Co s t)) 0 0 (fun _ => False) := by
  refine za_reader (cc := zo_G_countAttacks) (maxL := 4) (ty := .int) (by decide) (Nat.le_of_ble_eq_true rfl) (fun _ _ => rfl) ?_
  intro p e sg m args below meth c H Q hx hb hml hts hown hP hK hN hret ls hl
  have hP : va_P D vwCl [(aG, .inr (3, [.ref aN, .ref aL, .ref aS, .ref aM, .ref aA, .int (nI ln0)])), (aN, .inr (0, [.ref aT, .ref aC, .int ct])), (aT, .inl (cI, 96, .inl Tg)), (aL, .inr (1, [.ref aN, .ref aR, .ref aU, .ref aK, .int (nI lr), .int (nI kc), .int (za_bi sd)])), (aR, .inl (cI, 576, .inl Rw))] H := hP
  have hl : lv_has ls 4 [(0, .ref aG), (1, .int (nI s)), (2, .int (nI t))] := hl
  have hf15 := hts _ zw_121
  refine lv_aload_n hx hb zd_G_countAttacks_0 rfl (lv_at hl 0 rfl) ?_
  refine va_get (D := D) (ci := 3) (v := .ref aL) (C := zs_G) (T := zt_G) (N := 6) hx hb hts zi_G hown hK hP 0 rfl rfl 1 (by decide) hf15 (fun _ h9 => h9) rfl zd_G_countAttacks_1 ?_
  refine lv_iload_n hx hb zd_G_countAttacks_4 rfl (lv_at hl 1 rfl) ?_
  refine lv_iload_n hx hb zd_G_countAttacks_5 rfl (lv_at hl 2 rfl) ?_
  refine za_cV (As := [.int (nI s), .int (nI t)]) (rest := []) ⟨hx, hb, hml, hown, hts⟩ (zc_L_breachOf ln D cI cZ aL aN aR aU aK lr kc sd Rw s t (by omega) (by omega) (by exact hlk.1)) (za_gV 2 hts zw_385 zw_280 zw_281 zw_37 zw_282 (by decide +kernel) ⟨Nat.le_of_ble_eq_true rfl, Nat.le_of_ble_eq_true rfl⟩) hK hN hP [3, 4] rfl (q0 := 3) rfl rfl hl rfl rfl (Nat.le_of_ble_eq_true rfl) zd_G_countAttacks_6 ⟨Nat.le_of_ble_eq_true rfl, Nat.le_of_ble_eq_true rfl⟩ ?_
  refine za_eqi (y := za_bv Tg Co s t) (za_bv_of hlk hs0 ht0) ?_
  refine lv_iconst (v := nI 1) hx hb zd_G_countAttacks_9 (by decide) ?_
  refine lv_isub hx hb zd_G_countAttacks_10 ?_
  refine lv_istore_n (lv' := [(3, .int ((za_bv Tg Co s t) - (nI 1))), (0, .ref aG), (1, .int (nI s)), (2, .int (nI t))]) hx hb zd_G_countAttacks_11 rfl hl (by decide) rfl (fun ls hl => ?_)
  refine lv_iload_n hx hb zd_G_countAttacks_12 rfl (lv_at hl 0 rfl) ?_
  refine lv_if_ge hx hb (tgt := 20) zd_G_countAttacks_13 (by decide) (fun h13 => ?_) (fun h13 => ?_)
  · skip
    obtain ⟨hp, hk1, hb24, hb0⟩ := za_bvk_t h13
    have hl : lv_has ls 4 [(3, .int (nI (za_bn Tg Co s t - 1))), (0, .ref aG), (1, .int (nI s)), (2, .int (nI t))] := by rw [← hk1]; exact hl
    refine lv_aload_n hx hb zd_G_countAttacks_20 rfl (lv_at hl 1 rfl) ?_
    refine lv_iload_n hx hb zd_G_countAttacks_21 rfl (lv_at hl 2 rfl) ?_
    refine lv_iload_n hx hb zd_G_countAttacks_22 rfl (lv_at hl 3 rfl) ?_
    refine lv_iload_n hx hb zd_G_countAttacks_23 rfl (lv_at hl 0 rfl) ?_
    refine za_cV (As := [.int (nI s), .int (nI t), .int (nI (za_bn Tg Co s t - 1))]) (rest := []) ⟨hx, hb, hml, hown, hts⟩ (zc_G_countOf ln D cI cZ aG aN aL aS aM aA ln0 aT aC ct aR aU aK lr kc sd Tg Rw s t (za_bn Tg Co s t - 1) (by omega) (by omega) (by omega)) (za_gV 3 hts zw_386 zw_388 zw_13 zw_39 zw_389 (by decide +kernel) ⟨Nat.le_of_ble_eq_true rfl, Nat.le_of_ble_eq_true rfl⟩) hK hN hP [0, 1, 2, 3, 4] rfl (q0 := 0) rfl rfl hl rfl rfl (Nat.le_of_ble_eq_true rfl) zd_G_countAttacks_24 ⟨Nat.le_of_ble_eq_true rfl, Nat.le_of_ble_eq_true rfl⟩ ?_
    refine lv_aload_n hx hb zd_G_countAttacks_27 rfl (lv_at hl 1 rfl) ?_
    refine lv_iload_n hx hb zd_G_countAttacks_28 rfl (lv_at hl 3 rfl) ?_
    refine lv_iload_n hx hb zd_G_countAttacks_29 rfl (lv_at hl 2 rfl) ?_
    refine lv_iload_n hx hb zd_G_countAttacks_30 rfl (lv_at hl 0 rfl) ?_
    refine za_cV (As := [.int (nI t), .int (nI s), .int (nI (za_bn Tg Co s t - 1))]) (rest := [.int (nI (za_cn (za_atm Tg Rw s t (za_bn Tg Co s t - 1)) 96))]) ⟨hx, hb, hml, hown, hts⟩ (zc_G_countOf ln D cI cZ aG aN aL aS aM aA ln0 aT aC ct aR aU aK lr kc sd Tg Rw t s (za_bn Tg Co s t - 1) (by omega) (by omega) (by omega)) (za_gV 3 hts zw_386 zw_388 zw_13 zw_39 zw_389 (by decide +kernel) ⟨Nat.le_of_ble_eq_true rfl, Nat.le_of_ble_eq_true rfl⟩) hK hN hP [0, 1, 2, 3, 4] rfl (q0 := 0) rfl rfl hl rfl rfl (Nat.le_of_ble_eq_true rfl) zd_G_countAttacks_31 ⟨Nat.le_of_ble_eq_true rfl, Nat.le_of_ble_eq_true rfl⟩ ?_
    refine za_addN hx hb zd_G_countAttacks_34 ?_
    exact hret _ _ _ (by first | with_reducible rfl | (first | exact za_ac_of hlk hs0 ht0 hp | (unfold za_ac; rw [za_bvk_f h13]; rfl))) zd_G_countAttacks_35
  · skip
    refine lv_iconst (v := nI 0) hx hb zd_G_countAttacks_16 (by decide) ?_
    refine lv_goto hx hb (tgt := 35) zd_G_countAttacks_17 (by decide) ?_
    exact hret _ _ _ (by first | with_reducible rfl | (first | exact za_ac_of hlk hs0 ht0 hp | (unfold za_ac; rw [za_bvk_f h13]; rfl))) zd_G_countAttacks_35
def zr_G_attackOnce : Room := { frames := 3, cells := 0, slots := 0, locals := 73 }
set_option maxHeartbeats 4000000 in
set_option maxRecDepth 100000 in
theorem zc_G_attackOnce (ln : Launch) (D : va_G) (cI cZ : ClassId) (sz : Nat) (aG : Nat) (aN : Nat) (aL : Nat) (aS : Nat) (aM : Nat) (aA : Nat) (ln0 : Nat) (aT : Nat) (aC : Nat) (ct : Int32) (aR : Nat) (aU : Nat) (aK : Nat) (lr : Nat) (kc : Nat) (sd : Bool) (Tg : Nat → Int32) (Rw : Nat → Int32) (Co : Nat → Int32) (Kd : Nat → Int32) (Sd : Nat → Int32) (Md : Nat → Int32) (An : Nat → Int32) (xx : Nat) (yy : Nat) (hx0 : xx < 24) (hy0 : yy < 24) (hS0 : Sd 0 = nI xx) (hS1 : Sd 1 = nI yy) (hln : ln0 < 24) (hlk : za_like Tg Co Rw lr Kd kc) : Met ln zm_G_attackOnce (Cond.code zm_G_attackOnce zo_G_attackOnce 5 (some .boolean) :: zb_big) zr_G_attackOnce (za_Pw D vwCl [(cI, .int), (cZ, .boolean)] [.ref aG] [(aG, .inr (3, [.ref aN, .ref aL, .ref aS, .ref aM, .ref aA, .int (nI ln0)])), (aN, .inr (0, [.ref aT, .ref aC, .int ct])), (aT, .inl (cI, 96, .inl Tg)), (aL, .inr (1, [.ref aN, .ref aR, .ref aU, .ref aK, .int (nI lr), .int (nI kc), .int (za_bi sd)])), (aR, .inl (cI, 576, .inl Rw)), (aS, .inl (cI, 2, .inl Sd)), (aM, .inl (cI, 24, .inl Md)), (aA, .inl (cI, 24, .inl An))] sz) (va_Qi (fun (r : Int32) (Sd1 : (Nat → Int32)) => r = za_bi (za_go Tg Co xx yy) ∧ (za_go Tg Co xx yy = true → Sd1 0 = nI (za_x1 Tg Co xx yy) ∧ Sd1 1 = nI (za_y1 Tg Co xx yy))) (za_B D vwCl [(aG, .inr (3, [.ref aN, .ref aL, .ref aS, .ref aM, .ref aA, .int (nI ln0)])), (aN, .inr (0, [.ref aT, .ref aC, .int ct])), (aT, .inl (cI, 96, .inl Tg)), (aL, .inr (1, [.ref aN, .ref aR, .ref aU, .ref aK, .int (nI lr), .int (nI kc), .int (za_bi sd)])), (aR, .inl (cI, 576, .inl Rw)), (aS, .inl (cI, 2, .inl Sd)), (aM, .inl (cI, 24, .inl Md)), (aA, .inl (cI, 24, .inl An))] sz (fun (Sd1 : (Nat → Int32)) => [(aG, .inr (3, [.ref aN, .ref aL, .ref aS, .ref aM, .ref aA, .int (nI (za_l1 Tg Co xx yy ln0))])), (aN, .inr (0, [.ref aT, .ref aC, .int ct])), (aT, .inl (cI, 96, .inl Tg)), (aL, .inr (1, [.ref aN, .ref aR, .ref aU, .ref aK, .int (nI lr), .int (nI kc), .int (za_bi sd)])), (aR, .inl (cI, 576, .inl Rw)), (aS, .inl (cI, 2, .inl Sd1)), (aM, .inl (cI, 24, .inl (za_M1 Tg Co xx yy ln0 Md))), (aA, .inl (cI, 24, .inl (za_A1 Tg Co xx yy ln0 An)))])) (va_A [(aG, .inr (3, [.ref aN, .ref aL, .ref aS, .ref aM, .ref aA, .int (nI ln0)])), (aN, .inr (0, [.ref aT, .ref aC, .int ct])), (aT, .inl (cI, 96, .inl Tg)), (aL, .inr (1, [.ref aN, .ref aR, .ref aU, .ref aK, .int (nI lr), .int (nI kc), .int (za_bi sd)])), (aR, .inl (cI, 576, .inl Rw)), (aS, .inl (cI, 2, .inl Sd)), (aM, .inl (cI, 24, .inl Md)), (aA, .inl (cI, 24, .inl An))] sz)) 0 0 (va_A [(aG, .inr (3, [.ref aN, .ref aL, .ref aS, .ref aM, .ref aA, .int (nI ln0)])), (aN, .inr (0, [.ref aT, .ref aC, .int ct])), (aT, .inl (cI, 96, .inl Tg)), (aL, .inr (1, [.ref aN, .ref aR, .ref aU, .ref aK, .int (nI lr), .int (nI kc), .int (za_bi sd)])), (aR, .inl (cI, 576, .inl Rw)), (aS, .inl (cI, 2, .inl Sd)), (aM, .inl (cI, 24, .inl Md)), (aA, .inl (cI, 24, .inl An))] sz) := by
  refine za_wi (cc := zo_G_attackOnce) (maxL := 5) (ty := .boolean) (by decide) (Nat.le_of_ble_eq_true rfl) (fun _ _ h => by rw [h.1]; exact za_nar _) ?_
  intro p e sg m args below meth c H0 A Q hx hb hml hts hown hmn hP hK hN hD hA hS hret ls hl
  have hP : va_P D vwCl [(aG, .inr (3, [.ref aN, .ref aL, .ref aS, .ref aM, .ref aA, .int (nI ln0)])), (aN, .inr (0, [.ref aT, .ref aC, .int ct])), (aT, .inl (cI, 96, .inl Tg)), (aL, .inr (1, [.ref aN, .ref aR, .ref aU, .ref aK, .int (nI lr), .int (nI kc), .int (za_bi sd)])), (aR, .inl (cI, 576, .inl Rw)), (aS, .inl (cI, 2, .inl Sd)), (aM, .inl (cI, 24, .inl Md)), (aA, .inl (cI, 24, .inl An))] H0 := hP
  have hD : va_D A [(aG, .inr (3, [.ref aN, .ref aL, .ref aS, .ref aM, .ref aA, .int (nI ln0)])), (aN, .inr (0, [.ref aT, .ref aC, .int ct])), (aT, .inl (cI, 96, .inl Tg)), (aL, .inr (1, [.ref aN, .ref aR, .ref aU, .ref aK, .int (nI lr), .int (nI kc), .int (za_bi sd)])), (aR, .inl (cI, 576, .inl Rw)), (aS, .inl (cI, 2, .inl Sd)), (aM, .inl (cI, 24, .inl Md)), (aA, .inl (cI, 24, .inl An))] := hD
  have hl : lv_has ls 5 [(0, .ref aG)] := hl
  have hf15 := hts _ zw_121
  have hf19 := hts _ zw_122
  have hf23 := hts _ zw_123
  have hf55 := hts _ zw_125
  have hf26 := hts _ zw_124
  refine lv_aload_n hx hb zd_G_attackOnce_0 rfl (lv_at hl 0 rfl) ?_
  refine va_get (D := D) (ci := 3) (v := .ref aL) (C := zs_G) (T := zt_G) (N := 6) hx hb hts zi_G hown hK hP 0 rfl rfl 1 (by decide) hf15 (fun _ h9 => h9) rfl zd_G_attackOnce_1 ?_
  refine lv_aload_n hx hb zd_G_attackOnce_4 rfl (lv_at hl 0 rfl) ?_
  refine va_get (D := D) (ci := 3) (v := .ref aS) (C := zs_G) (T := zt_G) (N := 6) hx hb hts zi_G hown hK hP 0 rfl rfl 2 (by decide) hf19 (fun _ h9 => h9) rfl zd_G_attackOnce_5 ?_
  refine lv_iconst (v := nI 0) hx hb zd_G_attackOnce_8 (by decide) ?_
  refine za_ild hx hb hK hP 5 0 rfl rfl (k := 0) (by omega) (by decide) zd_G_attackOnce_9 ?_
  refine za_eqi (y := nI xx) (hS0) ?_
  refine lv_aload_n hx hb zd_G_attackOnce_10 rfl (lv_at hl 0 rfl) ?_
  refine va_get (D := D) (ci := 3) (v := .ref aS) (C := zs_G) (T := zt_G) (N := 6) hx hb hts zi_G hown hK hP 0 rfl rfl 2 (by decide) hf19 (fun _ h9 => h9) rfl zd_G_attackOnce_11 ?_
  refine lv_iconst (v := nI 1) hx hb zd_G_attackOnce_14 (by decide) ?_
  refine za_ild hx hb hK hP 5 0 rfl rfl (k := 1) (by omega) (by decide) zd_G_attackOnce_15 ?_
  refine za_eqi (y := nI yy) (hS1) ?_
  refine za_cV (As := [.int (nI xx), .int (nI yy)]) (rest := []) ⟨hx, hb, hml, hown, hts⟩ (zc_L_breachOf ln D cI cZ aL aN aR aU aK lr kc sd Rw xx yy (by omega) (by omega) (by exact hlk.1)) (za_gV 2 hts zw_385 zw_280 zw_281 zw_37 zw_282 (by decide +kernel) ⟨Nat.le_of_ble_eq_true rfl, Nat.le_of_ble_eq_true rfl⟩) hK hN hP [3, 4] rfl (q0 := 3) rfl rfl hl rfl rfl (Nat.le_of_ble_eq_true rfl) zd_G_attackOnce_16 ⟨Nat.le_of_ble_eq_true rfl, Nat.le_of_ble_eq_true rfl⟩ ?_
  refine za_eqi (y := za_bv Tg Co xx yy) (za_bv_of hlk hx0 hy0) ?_
  refine lv_iconst (v := nI 1) hx hb zd_G_attackOnce_19 (by decide) ?_
  refine lv_isub hx hb zd_G_attackOnce_20 ?_
  refine lv_istore_n (lv' := [(1, .int ((za_bv Tg Co xx yy) - (nI 1))), (0, .ref aG)]) hx hb zd_G_attackOnce_21 rfl hl (by decide) rfl (fun ls hl => ?_)
  refine lv_iload_n hx hb zd_G_attackOnce_22 rfl (lv_at hl 0 rfl) ?_
  refine lv_if_ge hx hb (tgt := 28) zd_G_attackOnce_23 (by decide) (fun h23 => ?_) (fun h23 => ?_)
  · skip
    obtain ⟨hp, hk1, hb24, hb0⟩ := za_bvk_t h23
    have hrk := hlk.2.1 (za_bn Tg Co xx yy - 1) (by have := za_bn_lr hlk hx0 hy0 hb24; omega)
    have hl : lv_has ls 5 [(1, .int (nI (za_bn Tg Co xx yy - 1))), (0, .ref aG)] := by rw [← hk1]; exact hl
    refine lv_iconst (v := nI 0) hx hb zd_G_attackOnce_28 (by decide) ?_
    refine lv_istore_n (lv' := [(2, .int (nI 0)), (1, .int (nI (za_bn Tg Co xx yy - 1))), (0, .ref aG)]) hx hb zd_G_attackOnce_29 rfl hl (by decide) rfl (fun ls hl => ?_)
    refine lv_aload_n hx hb zd_G_attackOnce_30 rfl (lv_at hl 2 rfl) ?_
    refine lv_aload_n hx hb zd_G_attackOnce_31 rfl (lv_at hl 2 rfl) ?_
    refine va_get (D := D) (ci := 3) (v := .ref aS) (C := zs_G) (T := zt_G) (N := 6) hx hb hts zi_G hown hK hP 0 rfl rfl 2 (by decide) hf19 (fun _ h9 => h9) rfl zd_G_attackOnce_32 ?_
    refine lv_iconst (v := nI 0) hx hb zd_G_attackOnce_35 (by decide) ?_
    refine za_ild hx hb hK hP 5 0 rfl rfl (k := 0) (by omega) (by decide) zd_G_attackOnce_36 ?_
    refine za_eqi (y := nI xx) (hS0) ?_
    refine lv_aload_n hx hb zd_G_attackOnce_37 rfl (lv_at hl 2 rfl) ?_
    refine va_get (D := D) (ci := 3) (v := .ref aS) (C := zs_G) (T := zt_G) (N := 6) hx hb hts zi_G hown hK hP 0 rfl rfl 2 (by decide) hf19 (fun _ h9 => h9) rfl zd_G_attackOnce_38 ?_
    refine lv_iconst (v := nI 1) hx hb zd_G_attackOnce_41 (by decide) ?_
    refine za_ild hx hb hK hP 5 0 rfl rfl (k := 1) (by omega) (by decide) zd_G_attackOnce_42 ?_
    refine za_eqi (y := nI yy) (hS1) ?_
    refine lv_iload_n hx hb zd_G_attackOnce_43 rfl (lv_at hl 1 rfl) ?_
    refine za_cV (As := [.int (nI xx), .int (nI yy), .int (nI (za_bn Tg Co xx yy - 1))]) (rest := []) ⟨hx, hb, hml, hown, hts⟩ (zc_G_firstOf ln D cI cZ aG aN aL aS aM aA ln0 aT aC ct aR aU aK lr kc sd Tg Rw xx yy (za_bn Tg Co xx yy - 1) (by omega) (by omega) (by omega)) (za_gV 3 hts zw_413 zw_415 zw_17 zw_39 zw_416 (by decide +kernel) ⟨Nat.le_of_ble_eq_true rfl, Nat.le_of_ble_eq_true rfl⟩) hK hN hP [0, 1, 2, 3, 4] rfl (q0 := 0) rfl rfl hl rfl rfl (Nat.le_of_ble_eq_true rfl) zd_G_attackOnce_44 ⟨Nat.le_of_ble_eq_true rfl, Nat.le_of_ble_eq_true rfl⟩ ?_
    refine lv_istore_n (lv' := [(3, .int (za_fo Tg Rw xx yy (za_bn Tg Co xx yy - 1))), (2, .int (nI 0)), (1, .int (nI (za_bn Tg Co xx yy - 1))), (0, .ref aG)]) hx hb zd_G_attackOnce_47 rfl hl (by decide) rfl (fun ls hl => ?_)
    refine lv_iload_n hx hb zd_G_attackOnce_48 rfl (lv_at hl 0 rfl) ?_
    refine lv_iconst (v := (-1)) hx hb zd_G_attackOnce_49 (by decide) ?_
    refine lv_icmp_ne hx hb (tgt := 73) zd_G_attackOnce_50 (by decide) (fun h50 => ?_) (fun h50 => ?_)
    · skip
      refine lv_iload_n hx hb zd_G_attackOnce_73 rfl (lv_at hl 0 rfl) ?_
      refine lv_iconst (v := (-1)) hx hb zd_G_attackOnce_74 (by decide) ?_
      refine lv_icmp_ne hx hb (tgt := 80) zd_G_attackOnce_75 (by decide) (fun h75 => ?_) (fun h75 => ?_)
      · skip
        obtain ⟨hmi, hfo⟩ := za_fo_1 hrk h50
        have hl : lv_has ls 5 [(3, .int (nI (za_lb Tg Co xx yy * 100 + za_to Tg Co xx yy))), (2, .int (nI 0)), (1, .int (nI (za_bn Tg Co xx yy - 1))), (0, .ref aG)] := by rw [← hfo]; exact hl
        have hC80 : ∀  (sd0 : Nat) (e0 : Nat) (ls : Array Slot) (H : Heap) (locs : List Loc), sd0 ≤ 1 → sd0 = (if za_mi Tg Co xx yy = true then 0 else 1) → e0 = za_lb Tg Co xx yy * 100 + za_to Tg Co xx yy → lv_has ls 5 [(0, .ref aG), (2, .int (nI sd0)), (3, .int (nI e0))] → va_P D vwCl [(aG, .inr (3, [.ref aN, .ref aL, .ref aS, .ref aM, .ref aA, .int (nI ln0)])), (aN, .inr (0, [.ref aT, .ref aC, .int ct])), (aT, .inl (cI, 96, .inl Tg)), (aL, .inr (1, [.ref aN, .ref aR, .ref aU, .ref aK, .int (nI lr), .int (nI kc), .int (za_bi sd)])), (aR, .inl (cI, 576, .inl Rw)), (aS, .inl (cI, 2, .inl Sd)), (aM, .inl (cI, 24, .inl Md)), (aA, .inl (cI, 24, .inl An))] H → va_D A [(aG, .inr (3, [.ref aN, .ref aL, .ref aS, .ref aM, .ref aA, .int (nI ln0)])), (aN, .inr (0, [.ref aT, .ref aC, .int ct])), (aT, .inl (cI, 96, .inl Tg)), (aL, .inr (1, [.ref aN, .ref aR, .ref aU, .ref aK, .int (nI lr), .int (nI kc), .int (za_bi sd)])), (aR, .inl (cI, 576, .inl Rw)), (aS, .inl (cI, 2, .inl Sd)), (aM, .inl (cI, 24, .inl Md)), (aA, .inl (cI, 24, .inl An))] → va_S A H0 H locs → W p ln e zr_G_attackOnce sg m args below meth c H locs 0 0 Q (F0 m 80 ls []) := by
          intro sd0 e0 ls H locs hs1 hside he hl hP hD hS
          have hlb := za_lb_lt (Tg := Tg) (Co := Co) xx yy
          have hto := za_to_lt (Tg := Tg) (Co := Co) xx yy
          have hot : za_ot Tg Co xx yy < 24 := by unfold za_ot; split <;> omega
          have hpl1 : za_l1 Tg Co xx yy ln0 = ln0 + 1 := by unfold za_l1; rw [if_pos hp]
          refine lv_aload_n hx hb zd_G_attackOnce_80 rfl (lv_at hl 0 rfl) ?_
          refine lv_aload_n hx hb zd_G_attackOnce_81 rfl (lv_at hl 0 rfl) ?_
          refine va_get (D := D) (ci := 3) (v := .ref aS) (C := zs_G) (T := zt_G) (N := 6) hx hb hts zi_G hown hK hP 0 rfl rfl 2 (by decide) hf19 (fun _ h9 => h9) rfl zd_G_attackOnce_82 ?_
          refine lv_iconst (v := nI 1) hx hb zd_G_attackOnce_85 (by decide) ?_
          refine lv_iload_n hx hb zd_G_attackOnce_86 rfl (lv_at hl 1 rfl) ?_
          refine za_subN hx hb (by omega) zd_G_attackOnce_87 ?_
          refine za_ild hx hb hK hP 5 0 rfl rfl (k := 1 - sd0) (by omega) (by decide) zd_G_attackOnce_88 ?_
          refine za_eqi (y := nI (za_ot Tg Co xx yy)) (za_once1 hside hS0 hS1) ?_
          refine lv_iload_n hx hb zd_G_attackOnce_89 rfl (lv_at hl 2 rfl) ?_
          refine za_cV (As := [.int (nI (za_ot Tg Co xx yy)), .int (nI e0)]) (rest := []) ⟨hx, hb, hml, hown, hts⟩ (zc_G_bestAnswer ln D cI cZ aG aN aL aS aM aA ln0 aT aC ct aR aU aK lr kc sd Tg Rw (za_ot Tg Co xx yy) e0 (by omega) (by omega) (by omega) (by omega) (by exact hlk.1)) (za_gV 2 hts zw_417 zw_419 zw_18 zw_39 zw_420 (by decide +kernel) ⟨Nat.le_of_ble_eq_true rfl, Nat.le_of_ble_eq_true rfl⟩) hK hN hP [0, 1, 2, 3, 4] rfl (q0 := 0) rfl rfl hl rfl rfl (Nat.le_of_ble_eq_true rfl) zd_G_attackOnce_90 ⟨Nat.le_of_ble_eq_true rfl, Nat.le_of_ble_eq_true rfl⟩ ?_
          refine za_eqi (y := za_ai (za_an Tg Co xx yy)) (za_best hlk hp he) ?_
          refine lv_istore (lv' := [(4, .int (za_ai (za_an Tg Co xx yy))), (0, .ref aG), (2, .int (nI sd0)), (3, .int (nI e0))]) hx hb zd_G_attackOnce_93 hl (by decide) rfl (fun ls hl => ?_)
          refine lv_aload_n hx hb zd_G_attackOnce_95 rfl (lv_at hl 1 rfl) ?_
          refine va_get (D := D) (ci := 3) (v := .ref aM) (C := zs_G) (T := zt_G) (N := 6) hx hb hts zi_G hown hK hP 0 rfl rfl 3 (by decide) hf23 (fun _ h9 => h9) rfl zd_G_attackOnce_96 ?_
          refine lv_aload_n hx hb zd_G_attackOnce_99 rfl (lv_at hl 1 rfl) ?_
          refine va_get (D := D) (ci := 3) (v := .int (nI ln0)) (C := zs_G) (T := zt_G) (N := 6) hx hb hts zi_G hown hK hP 0 rfl rfl 5 (by decide) hf55 (fun _ h9 => h9) rfl zd_G_attackOnce_100 ?_
          refine lv_iload_n hx hb zd_G_attackOnce_103 rfl (lv_at hl 2 rfl) ?_
          refine lv_sipush (v := nI 1000) hx hb zd_G_attackOnce_104 (by decide) ?_
          refine za_mulN hx hb zd_G_attackOnce_107 ?_
          refine lv_iload_n hx hb zd_G_attackOnce_108 rfl (lv_at hl 3 rfl) ?_
          refine za_addN hx hb zd_G_attackOnce_109 ?_
          refine za_ist hx hb hK hP hD hS 6 0 rfl rfl (k := ln0) (by omega) (by decide) zd_G_attackOnce_110 (fun H locs hP hD hS => ?_)
          have hP : va_P D vwCl [(aG, .inr (3, [.ref aN, .ref aL, .ref aS, .ref aM, .ref aA, .int (nI ln0)])), (aN, .inr (0, [.ref aT, .ref aC, .int ct])), (aT, .inl (cI, 96, .inl Tg)), (aL, .inr (1, [.ref aN, .ref aR, .ref aU, .ref aK, .int (nI lr), .int (nI kc), .int (za_bi sd)])), (aR, .inl (cI, 576, .inl Rw)), (aS, .inl (cI, 2, .inl Sd)), (aM, .inl (cI, 24, .inl (upd Md ln0 (nI ((sd0 * 1000) + e0))))), (aA, .inl (cI, 24, .inl An))] H := hP
          have hD : va_D A [(aG, .inr (3, [.ref aN, .ref aL, .ref aS, .ref aM, .ref aA, .int (nI ln0)])), (aN, .inr (0, [.ref aT, .ref aC, .int ct])), (aT, .inl (cI, 96, .inl Tg)), (aL, .inr (1, [.ref aN, .ref aR, .ref aU, .ref aK, .int (nI lr), .int (nI kc), .int (za_bi sd)])), (aR, .inl (cI, 576, .inl Rw)), (aS, .inl (cI, 2, .inl Sd)), (aM, .inl (cI, 24, .inl (upd Md ln0 (nI ((sd0 * 1000) + e0))))), (aA, .inl (cI, 24, .inl An))] := hD
          refine lv_aload_n hx hb zd_G_attackOnce_111 rfl (lv_at hl 1 rfl) ?_
          refine va_get (D := D) (ci := 3) (v := .ref aA) (C := zs_G) (T := zt_G) (N := 6) hx hb hts zi_G hown hK hP 0 rfl rfl 4 (by decide) hf26 (fun _ h9 => h9) rfl zd_G_attackOnce_112 ?_
          refine lv_aload_n hx hb zd_G_attackOnce_115 rfl (lv_at hl 1 rfl) ?_
          refine va_get (D := D) (ci := 3) (v := .int (nI ln0)) (C := zs_G) (T := zt_G) (N := 6) hx hb hts zi_G hown hK hP 0 rfl rfl 5 (by decide) hf55 (fun _ h9 => h9) rfl zd_G_attackOnce_116 ?_
          refine lv_iload hx hb zd_G_attackOnce_119 (lv_at hl 0 rfl) ?_
          refine za_ist hx hb hK hP hD hS 7 0 rfl rfl (k := ln0) (by omega) (by decide) zd_G_attackOnce_121 (fun H locs hP hD hS => ?_)
          have hP : va_P D vwCl [(aG, .inr (3, [.ref aN, .ref aL, .ref aS, .ref aM, .ref aA, .int (nI ln0)])), (aN, .inr (0, [.ref aT, .ref aC, .int ct])), (aT, .inl (cI, 96, .inl Tg)), (aL, .inr (1, [.ref aN, .ref aR, .ref aU, .ref aK, .int (nI lr), .int (nI kc), .int (za_bi sd)])), (aR, .inl (cI, 576, .inl Rw)), (aS, .inl (cI, 2, .inl Sd)), (aM, .inl (cI, 24, .inl (upd Md ln0 (nI ((sd0 * 1000) + e0))))), (aA, .inl (cI, 24, .inl (upd An ln0 (za_ai (za_an Tg Co xx yy)))))] H := hP
          have hD : va_D A [(aG, .inr (3, [.ref aN, .ref aL, .ref aS, .ref aM, .ref aA, .int (nI ln0)])), (aN, .inr (0, [.ref aT, .ref aC, .int ct])), (aT, .inl (cI, 96, .inl Tg)), (aL, .inr (1, [.ref aN, .ref aR, .ref aU, .ref aK, .int (nI lr), .int (nI kc), .int (za_bi sd)])), (aR, .inl (cI, 576, .inl Rw)), (aS, .inl (cI, 2, .inl Sd)), (aM, .inl (cI, 24, .inl (upd Md ln0 (nI ((sd0 * 1000) + e0))))), (aA, .inl (cI, 24, .inl (upd An ln0 (za_ai (za_an Tg Co xx yy)))))] := hD
          refine lv_aload_n hx hb zd_G_attackOnce_122 rfl (lv_at hl 1 rfl) ?_
          refine lv_dup hx hb zd_G_attackOnce_123 rfl ?_
          refine va_get (D := D) (ci := 3) (v := .int (nI ln0)) (C := zs_G) (T := zt_G) (N := 6) hx hb hts zi_G hown hK hP 0 rfl rfl 5 (by decide) hf55 (fun _ h9 => h9) rfl zd_G_attackOnce_124 ?_
          refine lv_iconst (v := nI 1) hx hb zd_G_attackOnce_127 (by decide) ?_
          refine za_addN hx hb zd_G_attackOnce_128 ?_
          refine va_put (D := D) (ci := 3) (v := .int (nI (ln0 + 1))) (ty := .int) (C := zs_G) (T := zt_G) (N := 6) hx hb hts zi_G zy_G zk_G zn_G hown hK hP hD hS 0 rfl rfl 5 (by decide) hf55 (fun _ h9 => h9) rfl (by decide +kernel) rfl rfl (Nat.le_of_ble_eq_true rfl) zd_G_attackOnce_129 (fun H locs hP hD hS => ?_)
          have hP : va_P D vwCl [(aG, .inr (3, [.ref aN, .ref aL, .ref aS, .ref aM, .ref aA, .int (nI (ln0 + 1))])), (aN, .inr (0, [.ref aT, .ref aC, .int ct])), (aT, .inl (cI, 96, .inl Tg)), (aL, .inr (1, [.ref aN, .ref aR, .ref aU, .ref aK, .int (nI lr), .int (nI kc), .int (za_bi sd)])), (aR, .inl (cI, 576, .inl Rw)), (aS, .inl (cI, 2, .inl Sd)), (aM, .inl (cI, 24, .inl (upd Md ln0 (nI ((sd0 * 1000) + e0))))), (aA, .inl (cI, 24, .inl (upd An ln0 (za_ai (za_an Tg Co xx yy)))))] H := hP
          have hD : va_D A [(aG, .inr (3, [.ref aN, .ref aL, .ref aS, .ref aM, .ref aA, .int (nI (ln0 + 1))])), (aN, .inr (0, [.ref aT, .ref aC, .int ct])), (aT, .inl (cI, 96, .inl Tg)), (aL, .inr (1, [.ref aN, .ref aR, .ref aU, .ref aK, .int (nI lr), .int (nI kc), .int (za_bi sd)])), (aR, .inl (cI, 576, .inl Rw)), (aS, .inl (cI, 2, .inl Sd)), (aM, .inl (cI, 24, .inl (upd Md ln0 (nI ((sd0 * 1000) + e0))))), (aA, .inl (cI, 24, .inl (upd An ln0 (za_ai (za_an Tg Co xx yy)))))] := hD
          refine lv_aload_n hx hb zd_G_attackOnce_132 rfl (lv_at hl 1 rfl) ?_
          refine va_get (D := D) (ci := 3) (v := .ref aS) (C := zs_G) (T := zt_G) (N := 6) hx hb hts zi_G hown hK hP 0 rfl rfl 2 (by decide) hf19 (fun _ h9 => h9) rfl zd_G_attackOnce_133 ?_
          refine lv_iload_n hx hb zd_G_attackOnce_136 rfl (lv_at hl 2 rfl) ?_
          refine lv_iload_n hx hb zd_G_attackOnce_137 rfl (lv_at hl 3 rfl) ?_
          refine lv_bipush (v := nI 100) hx hb zd_G_attackOnce_138 (by decide) ?_
          refine za_remN hx hb (by omega) (by decide) (by decide) zd_G_attackOnce_140 ?_
          refine za_ist hx hb hK hP hD hS 5 0 rfl rfl (k := sd0) (by omega) (by decide) zd_G_attackOnce_141 (fun H locs hP hD hS => ?_)
          have hP : va_P D vwCl [(aG, .inr (3, [.ref aN, .ref aL, .ref aS, .ref aM, .ref aA, .int (nI (ln0 + 1))])), (aN, .inr (0, [.ref aT, .ref aC, .int ct])), (aT, .inl (cI, 96, .inl Tg)), (aL, .inr (1, [.ref aN, .ref aR, .ref aU, .ref aK, .int (nI lr), .int (nI kc), .int (za_bi sd)])), (aR, .inl (cI, 576, .inl Rw)), (aS, .inl (cI, 2, .inl (upd Sd sd0 (nI (e0 % 100))))), (aM, .inl (cI, 24, .inl (upd Md ln0 (nI ((sd0 * 1000) + e0))))), (aA, .inl (cI, 24, .inl (upd An ln0 (za_ai (za_an Tg Co xx yy)))))] H := hP
          have hD : va_D A [(aG, .inr (3, [.ref aN, .ref aL, .ref aS, .ref aM, .ref aA, .int (nI (ln0 + 1))])), (aN, .inr (0, [.ref aT, .ref aC, .int ct])), (aT, .inl (cI, 96, .inl Tg)), (aL, .inr (1, [.ref aN, .ref aR, .ref aU, .ref aK, .int (nI lr), .int (nI kc), .int (za_bi sd)])), (aR, .inl (cI, 576, .inl Rw)), (aS, .inl (cI, 2, .inl (upd Sd sd0 (nI (e0 % 100))))), (aM, .inl (cI, 24, .inl (upd Md ln0 (nI ((sd0 * 1000) + e0))))), (aA, .inl (cI, 24, .inl (upd An ln0 (za_ai (za_an Tg Co xx yy)))))] := hD
          refine lv_aload_n hx hb zd_G_attackOnce_142 rfl (lv_at hl 1 rfl) ?_
          refine va_get (D := D) (ci := 3) (v := .ref aS) (C := zs_G) (T := zt_G) (N := 6) hx hb hts zi_G hown hK hP 0 rfl rfl 2 (by decide) hf19 (fun _ h9 => h9) rfl zd_G_attackOnce_143 ?_
          refine lv_iconst (v := nI 1) hx hb zd_G_attackOnce_146 (by decide) ?_
          refine lv_iload_n hx hb zd_G_attackOnce_147 rfl (lv_at hl 2 rfl) ?_
          refine za_subN hx hb (by omega) zd_G_attackOnce_148 ?_
          refine lv_iload hx hb zd_G_attackOnce_149 (lv_at hl 0 rfl) ?_
          refine za_ist hx hb hK hP hD hS 5 0 rfl rfl (k := 1 - sd0) (by omega) (by decide) zd_G_attackOnce_151 (fun H locs hP hD hS => ?_)
          have hP : va_P D vwCl [(aG, .inr (3, [.ref aN, .ref aL, .ref aS, .ref aM, .ref aA, .int (nI (ln0 + 1))])), (aN, .inr (0, [.ref aT, .ref aC, .int ct])), (aT, .inl (cI, 96, .inl Tg)), (aL, .inr (1, [.ref aN, .ref aR, .ref aU, .ref aK, .int (nI lr), .int (nI kc), .int (za_bi sd)])), (aR, .inl (cI, 576, .inl Rw)), (aS, .inl (cI, 2, .inl (upd (upd Sd sd0 (nI (e0 % 100))) (1 - sd0) (za_ai (za_an Tg Co xx yy))))), (aM, .inl (cI, 24, .inl (upd Md ln0 (nI ((sd0 * 1000) + e0))))), (aA, .inl (cI, 24, .inl (upd An ln0 (za_ai (za_an Tg Co xx yy)))))] H := hP
          have hD : va_D A [(aG, .inr (3, [.ref aN, .ref aL, .ref aS, .ref aM, .ref aA, .int (nI (ln0 + 1))])), (aN, .inr (0, [.ref aT, .ref aC, .int ct])), (aT, .inl (cI, 96, .inl Tg)), (aL, .inr (1, [.ref aN, .ref aR, .ref aU, .ref aK, .int (nI lr), .int (nI kc), .int (za_bi sd)])), (aR, .inl (cI, 576, .inl Rw)), (aS, .inl (cI, 2, .inl (upd (upd Sd sd0 (nI (e0 % 100))) (1 - sd0) (za_ai (za_an Tg Co xx yy))))), (aM, .inl (cI, 24, .inl (upd Md ln0 (nI ((sd0 * 1000) + e0))))), (aA, .inl (cI, 24, .inl (upd An ln0 (za_ai (za_an Tg Co xx yy)))))] := hD
          refine lv_iload hx hb zd_G_attackOnce_152 (lv_at hl 0 rfl) ?_
          refine lv_iconst (v := (-1)) hx hb zd_G_attackOnce_154 (by decide) ?_
          refine lv_icmp_eq hx hb (tgt := 162) zd_G_attackOnce_155 (by decide) (fun h155 => ?_) (fun h155 => ?_)
          · skip
            refine lv_iconst (v := nI 0) hx hb zd_G_attackOnce_162 (by decide) ?_
            have e1 : nI (za_l1 Tg Co xx yy ln0) = nI (ln0 + 1) := by first | with_reducible rfl | (first | (unfold za_l1; rw [za_bvk_f h23]; rfl) | (unfold za_M1; rw [za_bvk_f h23]; rfl) | (unfold za_A1; rw [za_bvk_f h23]; rfl) | (unfold za_l1; rw [if_pos hp]) | (unfold za_M1; rw [if_pos hp, za_once2 hside he]) | (unfold za_A1; rw [if_pos hp]))
            have e2 : za_M1 Tg Co xx yy ln0 Md = upd Md ln0 (nI ((sd0 * 1000) + e0)) := by first | with_reducible rfl | (first | (unfold za_l1; rw [za_bvk_f h23]; rfl) | (unfold za_M1; rw [za_bvk_f h23]; rfl) | (unfold za_A1; rw [za_bvk_f h23]; rfl) | (unfold za_l1; rw [if_pos hp]) | (unfold za_M1; rw [if_pos hp, za_once2 hside he]) | (unfold za_A1; rw [if_pos hp]))
            have e3 : za_A1 Tg Co xx yy ln0 An = upd An ln0 (za_ai (za_an Tg Co xx yy)) := by first | with_reducible rfl | (first | (unfold za_l1; rw [za_bvk_f h23]; rfl) | (unfold za_M1; rw [za_bvk_f h23]; rfl) | (unfold za_A1; rw [za_bvk_f h23]; rfl) | (unfold za_l1; rw [if_pos hp]) | (unfold za_M1; rw [if_pos hp, za_once2 hside he]) | (unfold za_A1; rw [if_pos hp]))
            have hP9 : va_P D vwCl [(aG, .inr (3, [.ref aN, .ref aL, .ref aS, .ref aM, .ref aA, .int (nI (za_l1 Tg Co xx yy ln0))])), (aN, .inr (0, [.ref aT, .ref aC, .int ct])), (aT, .inl (cI, 96, .inl Tg)), (aL, .inr (1, [.ref aN, .ref aR, .ref aU, .ref aK, .int (nI lr), .int (nI kc), .int (za_bi sd)])), (aR, .inl (cI, 576, .inl Rw)), (aS, .inl (cI, 2, .inl (upd (upd Sd sd0 (nI (e0 % 100))) (1 - sd0) (za_ai (za_an Tg Co xx yy))))), (aM, .inl (cI, 24, .inl (za_M1 Tg Co xx yy ln0 Md))), (aA, .inl (cI, 24, .inl (za_A1 Tg Co xx yy ln0 An)))] H := by rw [e1, e2, e3]; exact hP
            have hD9 : va_D A [(aG, .inr (3, [.ref aN, .ref aL, .ref aS, .ref aM, .ref aA, .int (nI (za_l1 Tg Co xx yy ln0))])), (aN, .inr (0, [.ref aT, .ref aC, .int ct])), (aT, .inl (cI, 96, .inl Tg)), (aL, .inr (1, [.ref aN, .ref aR, .ref aU, .ref aK, .int (nI lr), .int (nI kc), .int (za_bi sd)])), (aR, .inl (cI, 576, .inl Rw)), (aS, .inl (cI, 2, .inl (upd (upd Sd sd0 (nI (e0 % 100))) (1 - sd0) (za_ai (za_an Tg Co xx yy))))), (aM, .inl (cI, 24, .inl (za_M1 Tg Co xx yy ln0 Md))), (aA, .inl (cI, 24, .inl (za_A1 Tg Co xx yy ln0 An)))] := by rw [e1, e2, e3]; exact hD
            have hQ9 : (nI 0) = za_bi (za_go Tg Co xx yy) ∧ (za_go Tg Co xx yy = true → (upd (upd Sd sd0 (nI (e0 % 100))) (1 - sd0) (za_ai (za_an Tg Co xx yy))) 0 = nI (za_x1 Tg Co xx yy) ∧ (upd (upd Sd sd0 (nI (e0 % 100))) (1 - sd0) (za_ai (za_an Tg Co xx yy))) 1 = nI (za_y1 Tg Co xx yy)) := by first | exact ⟨za_b0 (by unfold za_go; rw [hp, (za_ai_m1 (za_an_le xx yy)).mp h155]; rfl), fun z => absurd z (by simp [za_go, (za_ai_m1 (za_an_le xx yy)).mp h155])⟩ | exact ⟨za_b1 (by unfold za_go; rw [hp, decide_eq_false (fun z => h155 ((za_ai_m1 (za_an_le xx yy)).mpr z))]; rfl), fun _ => za_once3 hside he (fun z => h155 ((za_ai_m1 (za_an_le xx yy)).mpr z))⟩
            exact hret _ (upd (upd Sd sd0 (nI (e0 % 100))) (1 - sd0) (za_ai (za_an Tg Co xx yy))) _ _ _ _ (hQ9) hP9 hD9 hS zd_G_attackOnce_163
          · skip
            refine lv_iconst (v := nI 1) hx hb zd_G_attackOnce_158 (by decide) ?_
            refine lv_goto hx hb (tgt := 163) zd_G_attackOnce_159 (by decide) ?_
            have e1 : nI (za_l1 Tg Co xx yy ln0) = nI (ln0 + 1) := by first | with_reducible rfl | (first | (unfold za_l1; rw [za_bvk_f h23]; rfl) | (unfold za_M1; rw [za_bvk_f h23]; rfl) | (unfold za_A1; rw [za_bvk_f h23]; rfl) | (unfold za_l1; rw [if_pos hp]) | (unfold za_M1; rw [if_pos hp, za_once2 hside he]) | (unfold za_A1; rw [if_pos hp]))
            have e2 : za_M1 Tg Co xx yy ln0 Md = upd Md ln0 (nI ((sd0 * 1000) + e0)) := by first | with_reducible rfl | (first | (unfold za_l1; rw [za_bvk_f h23]; rfl) | (unfold za_M1; rw [za_bvk_f h23]; rfl) | (unfold za_A1; rw [za_bvk_f h23]; rfl) | (unfold za_l1; rw [if_pos hp]) | (unfold za_M1; rw [if_pos hp, za_once2 hside he]) | (unfold za_A1; rw [if_pos hp]))
            have e3 : za_A1 Tg Co xx yy ln0 An = upd An ln0 (za_ai (za_an Tg Co xx yy)) := by first | with_reducible rfl | (first | (unfold za_l1; rw [za_bvk_f h23]; rfl) | (unfold za_M1; rw [za_bvk_f h23]; rfl) | (unfold za_A1; rw [za_bvk_f h23]; rfl) | (unfold za_l1; rw [if_pos hp]) | (unfold za_M1; rw [if_pos hp, za_once2 hside he]) | (unfold za_A1; rw [if_pos hp]))
            have hP9 : va_P D vwCl [(aG, .inr (3, [.ref aN, .ref aL, .ref aS, .ref aM, .ref aA, .int (nI (za_l1 Tg Co xx yy ln0))])), (aN, .inr (0, [.ref aT, .ref aC, .int ct])), (aT, .inl (cI, 96, .inl Tg)), (aL, .inr (1, [.ref aN, .ref aR, .ref aU, .ref aK, .int (nI lr), .int (nI kc), .int (za_bi sd)])), (aR, .inl (cI, 576, .inl Rw)), (aS, .inl (cI, 2, .inl (upd (upd Sd sd0 (nI (e0 % 100))) (1 - sd0) (za_ai (za_an Tg Co xx yy))))), (aM, .inl (cI, 24, .inl (za_M1 Tg Co xx yy ln0 Md))), (aA, .inl (cI, 24, .inl (za_A1 Tg Co xx yy ln0 An)))] H := by rw [e1, e2, e3]; exact hP
            have hD9 : va_D A [(aG, .inr (3, [.ref aN, .ref aL, .ref aS, .ref aM, .ref aA, .int (nI (za_l1 Tg Co xx yy ln0))])), (aN, .inr (0, [.ref aT, .ref aC, .int ct])), (aT, .inl (cI, 96, .inl Tg)), (aL, .inr (1, [.ref aN, .ref aR, .ref aU, .ref aK, .int (nI lr), .int (nI kc), .int (za_bi sd)])), (aR, .inl (cI, 576, .inl Rw)), (aS, .inl (cI, 2, .inl (upd (upd Sd sd0 (nI (e0 % 100))) (1 - sd0) (za_ai (za_an Tg Co xx yy))))), (aM, .inl (cI, 24, .inl (za_M1 Tg Co xx yy ln0 Md))), (aA, .inl (cI, 24, .inl (za_A1 Tg Co xx yy ln0 An)))] := by rw [e1, e2, e3]; exact hD
            have hQ9 : (nI 1) = za_bi (za_go Tg Co xx yy) ∧ (za_go Tg Co xx yy = true → (upd (upd Sd sd0 (nI (e0 % 100))) (1 - sd0) (za_ai (za_an Tg Co xx yy))) 0 = nI (za_x1 Tg Co xx yy) ∧ (upd (upd Sd sd0 (nI (e0 % 100))) (1 - sd0) (za_ai (za_an Tg Co xx yy))) 1 = nI (za_y1 Tg Co xx yy)) := by first | exact ⟨za_b0 (by unfold za_go; rw [hp, (za_ai_m1 (za_an_le xx yy)).mp h155]; rfl), fun z => absurd z (by simp [za_go, (za_ai_m1 (za_an_le xx yy)).mp h155])⟩ | exact ⟨za_b1 (by unfold za_go; rw [hp, decide_eq_false (fun z => h155 ((za_ai_m1 (za_an_le xx yy)).mpr z))]; rfl), fun _ => za_once3 hside he (fun z => h155 ((za_ai_m1 (za_an_le xx yy)).mpr z))⟩
            exact hret _ (upd (upd Sd sd0 (nI (e0 % 100))) (1 - sd0) (za_ai (za_an Tg Co xx yy))) _ _ _ _ (hQ9) hP9 hD9 hS zd_G_attackOnce_163
        exact hC80 0 (za_lb Tg Co xx yy * 100 + za_to Tg Co xx yy) ls H0 [] (by omega) (by rw [hmi]; rfl) (by rfl) (lv_sub hl [3, 1, 0] rfl) hP hD hS
      · skip
        exact absurd h75 h50
    · skip
      refine lv_iconst (v := nI 1) hx hb zd_G_attackOnce_53 (by decide) ?_
      refine lv_istore_n (lv' := [(2, .int (nI 1)), (3, .int (za_fo Tg Rw xx yy (za_bn Tg Co xx yy - 1))), (1, .int (nI (za_bn Tg Co xx yy - 1))), (0, .ref aG)]) hx hb zd_G_attackOnce_54 rfl hl (by decide) rfl (fun ls hl => ?_)
      refine lv_aload_n hx hb zd_G_attackOnce_55 rfl (lv_at hl 3 rfl) ?_
      refine lv_aload_n hx hb zd_G_attackOnce_56 rfl (lv_at hl 3 rfl) ?_
      refine va_get (D := D) (ci := 3) (v := .ref aS) (C := zs_G) (T := zt_G) (N := 6) hx hb hts zi_G hown hK hP 0 rfl rfl 2 (by decide) hf19 (fun _ h9 => h9) rfl zd_G_attackOnce_57 ?_
      refine lv_iconst (v := nI 1) hx hb zd_G_attackOnce_60 (by decide) ?_
      refine za_ild hx hb hK hP 5 0 rfl rfl (k := 1) (by omega) (by decide) zd_G_attackOnce_61 ?_
      refine za_eqi (y := nI yy) (hS1) ?_
      refine lv_aload_n hx hb zd_G_attackOnce_62 rfl (lv_at hl 3 rfl) ?_
      refine va_get (D := D) (ci := 3) (v := .ref aS) (C := zs_G) (T := zt_G) (N := 6) hx hb hts zi_G hown hK hP 0 rfl rfl 2 (by decide) hf19 (fun _ h9 => h9) rfl zd_G_attackOnce_63 ?_
      refine lv_iconst (v := nI 0) hx hb zd_G_attackOnce_66 (by decide) ?_
      refine za_ild hx hb hK hP 5 0 rfl rfl (k := 0) (by omega) (by decide) zd_G_attackOnce_67 ?_
      refine za_eqi (y := nI xx) (hS0) ?_
      refine lv_iload_n hx hb zd_G_attackOnce_68 rfl (lv_at hl 2 rfl) ?_
      refine za_cV (As := [.int (nI yy), .int (nI xx), .int (nI (za_bn Tg Co xx yy - 1))]) (rest := []) ⟨hx, hb, hml, hown, hts⟩ (zc_G_firstOf ln D cI cZ aG aN aL aS aM aA ln0 aT aC ct aR aU aK lr kc sd Tg Rw yy xx (za_bn Tg Co xx yy - 1) (by omega) (by omega) (by omega)) (za_gV 3 hts zw_413 zw_415 zw_17 zw_39 zw_416 (by decide +kernel) ⟨Nat.le_of_ble_eq_true rfl, Nat.le_of_ble_eq_true rfl⟩) hK hN hP [0, 1, 2, 3, 4] rfl (q0 := 0) rfl rfl hl rfl rfl (Nat.le_of_ble_eq_true rfl) zd_G_attackOnce_69 ⟨Nat.le_of_ble_eq_true rfl, Nat.le_of_ble_eq_true rfl⟩ ?_
      refine lv_istore_n (lv' := [(3, .int (za_fo Tg Rw yy xx (za_bn Tg Co xx yy - 1))), (2, .int (nI 1)), (1, .int (nI (za_bn Tg Co xx yy - 1))), (0, .ref aG)]) hx hb zd_G_attackOnce_72 rfl hl (by decide) rfl (fun ls hl => ?_)
      refine lv_iload_n hx hb zd_G_attackOnce_73 rfl (lv_at hl 0 rfl) ?_
      refine lv_iconst (v := (-1)) hx hb zd_G_attackOnce_74 (by decide) ?_
      refine lv_icmp_ne hx hb (tgt := 80) zd_G_attackOnce_75 (by decide) (fun h75 => ?_) (fun h75 => ?_)
      · skip
        obtain ⟨hmi, hfo⟩ := za_fo_2 hrk hp h50
        have hl : lv_has ls 5 [(3, .int (nI (za_lb Tg Co xx yy * 100 + za_to Tg Co xx yy))), (2, .int (nI 1)), (1, .int (nI (za_bn Tg Co xx yy - 1))), (0, .ref aG)] := by rw [← hfo]; exact hl
        have hC80 : ∀  (sd0 : Nat) (e0 : Nat) (ls : Array Slot) (H : Heap) (locs : List Loc), sd0 ≤ 1 → sd0 = (if za_mi Tg Co xx yy = true then 0 else 1) → e0 = za_lb Tg Co xx yy * 100 + za_to Tg Co xx yy → lv_has ls 5 [(0, .ref aG), (2, .int (nI sd0)), (3, .int (nI e0))] → va_P D vwCl [(aG, .inr (3, [.ref aN, .ref aL, .ref aS, .ref aM, .ref aA, .int (nI ln0)])), (aN, .inr (0, [.ref aT, .ref aC, .int ct])), (aT, .inl (cI, 96, .inl Tg)), (aL, .inr (1, [.ref aN, .ref aR, .ref aU, .ref aK, .int (nI lr), .int (nI kc), .int (za_bi sd)])), (aR, .inl (cI, 576, .inl Rw)), (aS, .inl (cI, 2, .inl Sd)), (aM, .inl (cI, 24, .inl Md)), (aA, .inl (cI, 24, .inl An))] H → va_D A [(aG, .inr (3, [.ref aN, .ref aL, .ref aS, .ref aM, .ref aA, .int (nI ln0)])), (aN, .inr (0, [.ref aT, .ref aC, .int ct])), (aT, .inl (cI, 96, .inl Tg)), (aL, .inr (1, [.ref aN, .ref aR, .ref aU, .ref aK, .int (nI lr), .int (nI kc), .int (za_bi sd)])), (aR, .inl (cI, 576, .inl Rw)), (aS, .inl (cI, 2, .inl Sd)), (aM, .inl (cI, 24, .inl Md)), (aA, .inl (cI, 24, .inl An))] → va_S A H0 H locs → W p ln e zr_G_attackOnce sg m args below meth c H locs 0 0 Q (F0 m 80 ls []) := by
          intro sd0 e0 ls H locs hs1 hside he hl hP hD hS
          have hlb := za_lb_lt (Tg := Tg) (Co := Co) xx yy
          have hto := za_to_lt (Tg := Tg) (Co := Co) xx yy
          have hot : za_ot Tg Co xx yy < 24 := by unfold za_ot; split <;> omega
          have hpl1 : za_l1 Tg Co xx yy ln0 = ln0 + 1 := by unfold za_l1; rw [if_pos hp]
          refine lv_aload_n hx hb zd_G_attackOnce_80 rfl (lv_at hl 0 rfl) ?_
          refine lv_aload_n hx hb zd_G_attackOnce_81 rfl (lv_at hl 0 rfl) ?_
          refine va_get (D := D) (ci := 3) (v := .ref aS) (C := zs_G) (T := zt_G) (N := 6) hx hb hts zi_G hown hK hP 0 rfl rfl 2 (by decide) hf19 (fun _ h9 => h9) rfl zd_G_attackOnce_82 ?_
          refine lv_iconst (v := nI 1) hx hb zd_G_attackOnce_85 (by decide) ?_
          refine lv_iload_n hx hb zd_G_attackOnce_86 rfl (lv_at hl 1 rfl) ?_
          refine za_subN hx hb (by omega) zd_G_attackOnce_87 ?_
          refine za_ild hx hb hK hP 5 0 rfl rfl (k := 1 - sd0) (by omega) (by decide) zd_G_attackOnce_88 ?_
          refine za_eqi (y := nI (za_ot Tg Co xx yy)) (za_once1 hside hS0 hS1) ?_
          refine lv_iload_n hx hb zd_G_attackOnce_89 rfl (lv_at hl 2 rfl) ?_
          refine za_cV (As := [.int (nI (za_ot Tg Co xx yy)), .int (nI e0)]) (rest := []) ⟨hx, hb, hml, hown, hts⟩ (zc_G_bestAnswer ln D cI cZ aG aN aL aS aM aA ln0 aT aC ct aR aU aK lr kc sd Tg Rw (za_ot Tg Co xx yy) e0 (by omega) (by omega) (by omega) (by omega) (by exact hlk.1)) (za_gV 2 hts zw_417 zw_419 zw_18 zw_39 zw_420 (by decide +kernel) ⟨Nat.le_of_ble_eq_true rfl, Nat.le_of_ble_eq_true rfl⟩) hK hN hP [0, 1, 2, 3, 4] rfl (q0 := 0) rfl rfl hl rfl rfl (Nat.le_of_ble_eq_true rfl) zd_G_attackOnce_90 ⟨Nat.le_of_ble_eq_true rfl, Nat.le_of_ble_eq_true rfl⟩ ?_
          refine za_eqi (y := za_ai (za_an Tg Co xx yy)) (za_best hlk hp he) ?_
          refine lv_istore (lv' := [(4, .int (za_ai (za_an Tg Co xx yy))), (0, .ref aG), (2, .int (nI sd0)), (3, .int (nI e0))]) hx hb zd_G_attackOnce_93 hl (by decide) rfl (fun ls hl => ?_)
          refine lv_aload_n hx hb zd_G_attackOnce_95 rfl (lv_at hl 1 rfl) ?_
          refine va_get (D := D) (ci := 3) (v := .ref aM) (C := zs_G) (T := zt_G) (N := 6) hx hb hts zi_G hown hK hP 0 rfl rfl 3 (by decide) hf23 (fun _ h9 => h9) rfl zd_G_attackOnce_96 ?_
          refine lv_aload_n hx hb zd_G_attackOnce_99 rfl (lv_at hl 1 rfl) ?_
          refine va_get (D := D) (ci := 3) (v := .int (nI ln0)) (C := zs_G) (T := zt_G) (N := 6) hx hb hts zi_G hown hK hP 0 rfl rfl 5 (by decide) hf55 (fun _ h9 => h9) rfl zd_G_attackOnce_100 ?_
          refine lv_iload_n hx hb zd_G_attackOnce_103 rfl (lv_at hl 2 rfl) ?_
          refine lv_sipush (v := nI 1000) hx hb zd_G_attackOnce_104 (by decide) ?_
          refine za_mulN hx hb zd_G_attackOnce_107 ?_
          refine lv_iload_n hx hb zd_G_attackOnce_108 rfl (lv_at hl 3 rfl) ?_
          refine za_addN hx hb zd_G_attackOnce_109 ?_
          refine za_ist hx hb hK hP hD hS 6 0 rfl rfl (k := ln0) (by omega) (by decide) zd_G_attackOnce_110 (fun H locs hP hD hS => ?_)
          have hP : va_P D vwCl [(aG, .inr (3, [.ref aN, .ref aL, .ref aS, .ref aM, .ref aA, .int (nI ln0)])), (aN, .inr (0, [.ref aT, .ref aC, .int ct])), (aT, .inl (cI, 96, .inl Tg)), (aL, .inr (1, [.ref aN, .ref aR, .ref aU, .ref aK, .int (nI lr), .int (nI kc), .int (za_bi sd)])), (aR, .inl (cI, 576, .inl Rw)), (aS, .inl (cI, 2, .inl Sd)), (aM, .inl (cI, 24, .inl (upd Md ln0 (nI ((sd0 * 1000) + e0))))), (aA, .inl (cI, 24, .inl An))] H := hP
          have hD : va_D A [(aG, .inr (3, [.ref aN, .ref aL, .ref aS, .ref aM, .ref aA, .int (nI ln0)])), (aN, .inr (0, [.ref aT, .ref aC, .int ct])), (aT, .inl (cI, 96, .inl Tg)), (aL, .inr (1, [.ref aN, .ref aR, .ref aU, .ref aK, .int (nI lr), .int (nI kc), .int (za_bi sd)])), (aR, .inl (cI, 576, .inl Rw)), (aS, .inl (cI, 2, .inl Sd)), (aM, .inl (cI, 24, .inl (upd Md ln0 (nI ((sd0 * 1000) + e0))))), (aA, .inl (cI, 24, .inl An))] := hD
          refine lv_aload_n hx hb zd_G_attackOnce_111 rfl (lv_at hl 1 rfl) ?_
          refine va_get (D := D) (ci := 3) (v := .ref aA) (C := zs_G) (T := zt_G) (N := 6) hx hb hts zi_G hown hK hP 0 rfl rfl 4 (by decide) hf26 (fun _ h9 => h9) rfl zd_G_attackOnce_112 ?_
          refine lv_aload_n hx hb zd_G_attackOnce_115 rfl (lv_at hl 1 rfl) ?_
          refine va_get (D := D) (ci := 3) (v := .int (nI ln0)) (C := zs_G) (T := zt_G) (N := 6) hx hb hts zi_G hown hK hP 0 rfl rfl 5 (by decide) hf55 (fun _ h9 => h9) rfl zd_G_attackOnce_116 ?_
          refine lv_iload hx hb zd_G_attackOnce_119 (lv_at hl 0 rfl) ?_
          refine za_ist hx hb hK hP hD hS 7 0 rfl rfl (k := ln0) (by omega) (by decide) zd_G_attackOnce_121 (fun H locs hP hD hS => ?_)
          have hP : va_P D vwCl [(aG, .inr (3, [.ref aN, .ref aL, .ref aS, .ref aM, .ref aA, .int (nI ln0)])), (aN, .inr (0, [.ref aT, .ref aC, .int ct])), (aT, .inl (cI, 96, .inl Tg)), (aL, .inr (1, [.ref aN, .ref aR, .ref aU, .ref aK, .int (nI lr), .int (nI kc), .int (za_bi sd)])), (aR, .inl (cI, 576, .inl Rw)), (aS, .inl (cI, 2, .inl Sd)), (aM, .inl (cI, 24, .inl (upd Md ln0 (nI ((sd0 * 1000) + e0))))), (aA, .inl (cI, 24, .inl (upd An ln0 (za_ai (za_an Tg Co xx yy)))))] H := hP
          have hD : va_D A [(aG, .inr (3, [.ref aN, .ref aL, .ref aS, .ref aM, .ref aA, .int (nI ln0)])), (aN, .inr (0, [.ref aT, .ref aC, .int ct])), (aT, .inl (cI, 96, .inl Tg)), (aL, .inr (1, [.ref aN, .ref aR, .ref aU, .ref aK, .int (nI lr), .int (nI kc), .int (za_bi sd)])), (aR, .inl (cI, 576, .inl Rw)), (aS, .inl (cI, 2, .inl Sd)), (aM, .inl (cI, 24, .inl (upd Md ln0 (nI ((sd0 * 1000) + e0))))), (aA, .inl (cI, 24, .inl (upd An ln0 (za_ai (za_an Tg Co xx yy)))))] := hD
          refine lv_aload_n hx hb zd_G_attackOnce_122 rfl (lv_at hl 1 rfl) ?_
          refine lv_dup hx hb zd_G_attackOnce_123 rfl ?_
          refine va_get (D := D) (ci := 3) (v := .int (nI ln0)) (C := zs_G) (T := zt_G) (N := 6) hx hb hts zi_G hown hK hP 0 rfl rfl 5 (by decide) hf55 (fun _ h9 => h9) rfl zd_G_attackOnce_124 ?_
          refine lv_iconst (v := nI 1) hx hb zd_G_attackOnce_127 (by decide) ?_
          refine za_addN hx hb zd_G_attackOnce_128 ?_
          refine va_put (D := D) (ci := 3) (v := .int (nI (ln0 + 1))) (ty := .int) (C := zs_G) (T := zt_G) (N := 6) hx hb hts zi_G zy_G zk_G zn_G hown hK hP hD hS 0 rfl rfl 5 (by decide) hf55 (fun _ h9 => h9) rfl (by decide +kernel) rfl rfl (Nat.le_of_ble_eq_true rfl) zd_G_attackOnce_129 (fun H locs hP hD hS => ?_)
          have hP : va_P D vwCl [(aG, .inr (3, [.ref aN, .ref aL, .ref aS, .ref aM, .ref aA, .int (nI (ln0 + 1))])), (aN, .inr (0, [.ref aT, .ref aC, .int ct])), (aT, .inl (cI, 96, .inl Tg)), (aL, .inr (1, [.ref aN, .ref aR, .ref aU, .ref aK, .int (nI lr), .int (nI kc), .int (za_bi sd)])), (aR, .inl (cI, 576, .inl Rw)), (aS, .inl (cI, 2, .inl Sd)), (aM, .inl (cI, 24, .inl (upd Md ln0 (nI ((sd0 * 1000) + e0))))), (aA, .inl (cI, 24, .inl (upd An ln0 (za_ai (za_an Tg Co xx yy)))))] H := hP
          have hD : va_D A [(aG, .inr (3, [.ref aN, .ref aL, .ref aS, .ref aM, .ref aA, .int (nI (ln0 + 1))])), (aN, .inr (0, [.ref aT, .ref aC, .int ct])), (aT, .inl (cI, 96, .inl Tg)), (aL, .inr (1, [.ref aN, .ref aR, .ref aU, .ref aK, .int (nI lr), .int (nI kc), .int (za_bi sd)])), (aR, .inl (cI, 576, .inl Rw)), (aS, .inl (cI, 2, .inl Sd)), (aM, .inl (cI, 24, .inl (upd Md ln0 (nI ((sd0 * 1000) + e0))))), (aA, .inl (cI, 24, .inl (upd An ln0 (za_ai (za_an Tg Co xx yy)))))] := hD
          refine lv_aload_n hx hb zd_G_attackOnce_132 rfl (lv_at hl 1 rfl) ?_
          refine va_get (D := D) (ci := 3) (v := .ref aS) (C := zs_G) (T := zt_G) (N := 6) hx hb hts zi_G hown hK hP 0 rfl rfl 2 (by decide) hf19 (fun _ h9 => h9) rfl zd_G_attackOnce_133 ?_
          refine lv_iload_n hx hb zd_G_attackOnce_136 rfl (lv_at hl 2 rfl) ?_
          refine lv_iload_n hx hb zd_G_attackOnce_137 rfl (lv_at hl 3 rfl) ?_
          refine lv_bipush (v := nI 100) hx hb zd_G_attackOnce_138 (by decide) ?_
          refine za_remN hx hb (by omega) (by decide) (by decide) zd_G_attackOnce_140 ?_
          refine za_ist hx hb hK hP hD hS 5 0 rfl rfl (k := sd0) (by omega) (by decide) zd_G_attackOnce_141 (fun H locs hP hD hS => ?_)
          have hP : va_P D vwCl [(aG, .inr (3, [.ref aN, .ref aL, .ref aS, .ref aM, .ref aA, .int (nI (ln0 + 1))])), (aN, .inr (0, [.ref aT, .ref aC, .int ct])), (aT, .inl (cI, 96, .inl Tg)), (aL, .inr (1, [.ref aN, .ref aR, .ref aU, .ref aK, .int (nI lr), .int (nI kc), .int (za_bi sd)])), (aR, .inl (cI, 576, .inl Rw)), (aS, .inl (cI, 2, .inl (upd Sd sd0 (nI (e0 % 100))))), (aM, .inl (cI, 24, .inl (upd Md ln0 (nI ((sd0 * 1000) + e0))))), (aA, .inl (cI, 24, .inl (upd An ln0 (za_ai (za_an Tg Co xx yy)))))] H := hP
          have hD : va_D A [(aG, .inr (3, [.ref aN, .ref aL, .ref aS, .ref aM, .ref aA, .int (nI (ln0 + 1))])), (aN, .inr (0, [.ref aT, .ref aC, .int ct])), (aT, .inl (cI, 96, .inl Tg)), (aL, .inr (1, [.ref aN, .ref aR, .ref aU, .ref aK, .int (nI lr), .int (nI kc), .int (za_bi sd)])), (aR, .inl (cI, 576, .inl Rw)), (aS, .inl (cI, 2, .inl (upd Sd sd0 (nI (e0 % 100))))), (aM, .inl (cI, 24, .inl (upd Md ln0 (nI ((sd0 * 1000) + e0))))), (aA, .inl (cI, 24, .inl (upd An ln0 (za_ai (za_an Tg Co xx yy)))))] := hD
          refine lv_aload_n hx hb zd_G_attackOnce_142 rfl (lv_at hl 1 rfl) ?_
          refine va_get (D := D) (ci := 3) (v := .ref aS) (C := zs_G) (T := zt_G) (N := 6) hx hb hts zi_G hown hK hP 0 rfl rfl 2 (by decide) hf19 (fun _ h9 => h9) rfl zd_G_attackOnce_143 ?_
          refine lv_iconst (v := nI 1) hx hb zd_G_attackOnce_146 (by decide) ?_
          refine lv_iload_n hx hb zd_G_attackOnce_147 rfl (lv_at hl 2 rfl) ?_
          refine za_subN hx hb (by omega) zd_G_attackOnce_148 ?_
          refine lv_iload hx hb zd_G_attackOnce_149 (lv_at hl 0 rfl) ?_
          refine za_ist hx hb hK hP hD hS 5 0 rfl rfl (k := 1 - sd0) (by omega) (by decide) zd_G_attackOnce_151 (fun H locs hP hD hS => ?_)
          have hP : va_P D vwCl [(aG, .inr (3, [.ref aN, .ref aL, .ref aS, .ref aM, .ref aA, .int (nI (ln0 + 1))])), (aN, .inr (0, [.ref aT, .ref aC, .int ct])), (aT, .inl (cI, 96, .inl Tg)), (aL, .inr (1, [.ref aN, .ref aR, .ref aU, .ref aK, .int (nI lr), .int (nI kc), .int (za_bi sd)])), (aR, .inl (cI, 576, .inl Rw)), (aS, .inl (cI, 2, .inl (upd (upd Sd sd0 (nI (e0 % 100))) (1 - sd0) (za_ai (za_an Tg Co xx yy))))), (aM, .inl (cI, 24, .inl (upd Md ln0 (nI ((sd0 * 1000) + e0))))), (aA, .inl (cI, 24, .inl (upd An ln0 (za_ai (za_an Tg Co xx yy)))))] H := hP
          have hD : va_D A [(aG, .inr (3, [.ref aN, .ref aL, .ref aS, .ref aM, .ref aA, .int (nI (ln0 + 1))])), (aN, .inr (0, [.ref aT, .ref aC, .int ct])), (aT, .inl (cI, 96, .inl Tg)), (aL, .inr (1, [.ref aN, .ref aR, .ref aU, .ref aK, .int (nI lr), .int (nI kc), .int (za_bi sd)])), (aR, .inl (cI, 576, .inl Rw)), (aS, .inl (cI, 2, .inl (upd (upd Sd sd0 (nI (e0 % 100))) (1 - sd0) (za_ai (za_an Tg Co xx yy))))), (aM, .inl (cI, 24, .inl (upd Md ln0 (nI ((sd0 * 1000) + e0))))), (aA, .inl (cI, 24, .inl (upd An ln0 (za_ai (za_an Tg Co xx yy)))))] := hD
          refine lv_iload hx hb zd_G_attackOnce_152 (lv_at hl 0 rfl) ?_
          refine lv_iconst (v := (-1)) hx hb zd_G_attackOnce_154 (by decide) ?_
          refine lv_icmp_eq hx hb (tgt := 162) zd_G_attackOnce_155 (by decide) (fun h155 => ?_) (fun h155 => ?_)
          · skip
            refine lv_iconst (v := nI 0) hx hb zd_G_attackOnce_162 (by decide) ?_
            have e1 : nI (za_l1 Tg Co xx yy ln0) = nI (ln0 + 1) := by first | with_reducible rfl | (first | (unfold za_l1; rw [za_bvk_f h23]; rfl) | (unfold za_M1; rw [za_bvk_f h23]; rfl) | (unfold za_A1; rw [za_bvk_f h23]; rfl) | (unfold za_l1; rw [if_pos hp]) | (unfold za_M1; rw [if_pos hp, za_once2 hside he]) | (unfold za_A1; rw [if_pos hp]))
            have e2 : za_M1 Tg Co xx yy ln0 Md = upd Md ln0 (nI ((sd0 * 1000) + e0)) := by first | with_reducible rfl | (first | (unfold za_l1; rw [za_bvk_f h23]; rfl) | (unfold za_M1; rw [za_bvk_f h23]; rfl) | (unfold za_A1; rw [za_bvk_f h23]; rfl) | (unfold za_l1; rw [if_pos hp]) | (unfold za_M1; rw [if_pos hp, za_once2 hside he]) | (unfold za_A1; rw [if_pos hp]))
            have e3 : za_A1 Tg Co xx yy ln0 An = upd An ln0 (za_ai (za_an Tg Co xx yy)) := by first | with_reducible rfl | (first | (unfold za_l1; rw [za_bvk_f h23]; rfl) | (unfold za_M1; rw [za_bvk_f h23]; rfl) | (unfold za_A1; rw [za_bvk_f h23]; rfl) | (unfold za_l1; rw [if_pos hp]) | (unfold za_M1; rw [if_pos hp, za_once2 hside he]) | (unfold za_A1; rw [if_pos hp]))
            have hP9 : va_P D vwCl [(aG, .inr (3, [.ref aN, .ref aL, .ref aS, .ref aM, .ref aA, .int (nI (za_l1 Tg Co xx yy ln0))])), (aN, .inr (0, [.ref aT, .ref aC, .int ct])), (aT, .inl (cI, 96, .inl Tg)), (aL, .inr (1, [.ref aN, .ref aR, .ref aU, .ref aK, .int (nI lr), .int (nI kc), .int (za_bi sd)])), (aR, .inl (cI, 576, .inl Rw)), (aS, .inl (cI, 2, .inl (upd (upd Sd sd0 (nI (e0 % 100))) (1 - sd0) (za_ai (za_an Tg Co xx yy))))), (aM, .inl (cI, 24, .inl (za_M1 Tg Co xx yy ln0 Md))), (aA, .inl (cI, 24, .inl (za_A1 Tg Co xx yy ln0 An)))] H := by rw [e1, e2, e3]; exact hP
            have hD9 : va_D A [(aG, .inr (3, [.ref aN, .ref aL, .ref aS, .ref aM, .ref aA, .int (nI (za_l1 Tg Co xx yy ln0))])), (aN, .inr (0, [.ref aT, .ref aC, .int ct])), (aT, .inl (cI, 96, .inl Tg)), (aL, .inr (1, [.ref aN, .ref aR, .ref aU, .ref aK, .int (nI lr), .int (nI kc), .int (za_bi sd)])), (aR, .inl (cI, 576, .inl Rw)), (aS, .inl (cI, 2, .inl (upd (upd Sd sd0 (nI (e0 % 100))) (1 - sd0) (za_ai (za_an Tg Co xx yy))))), (aM, .inl (cI, 24, .inl (za_M1 Tg Co xx yy ln0 Md))), (aA, .inl (cI, 24, .inl (za_A1 Tg Co xx yy ln0 An)))] := by rw [e1, e2, e3]; exact hD
            have hQ9 : (nI 0) = za_bi (za_go Tg Co xx yy) ∧ (za_go Tg Co xx yy = true → (upd (upd Sd sd0 (nI (e0 % 100))) (1 - sd0) (za_ai (za_an Tg Co xx yy))) 0 = nI (za_x1 Tg Co xx yy) ∧ (upd (upd Sd sd0 (nI (e0 % 100))) (1 - sd0) (za_ai (za_an Tg Co xx yy))) 1 = nI (za_y1 Tg Co xx yy)) := by first | exact ⟨za_b0 (by unfold za_go; rw [hp, (za_ai_m1 (za_an_le xx yy)).mp h155]; rfl), fun z => absurd z (by simp [za_go, (za_ai_m1 (za_an_le xx yy)).mp h155])⟩ | exact ⟨za_b1 (by unfold za_go; rw [hp, decide_eq_false (fun z => h155 ((za_ai_m1 (za_an_le xx yy)).mpr z))]; rfl), fun _ => za_once3 hside he (fun z => h155 ((za_ai_m1 (za_an_le xx yy)).mpr z))⟩
            exact hret _ (upd (upd Sd sd0 (nI (e0 % 100))) (1 - sd0) (za_ai (za_an Tg Co xx yy))) _ _ _ _ (hQ9) hP9 hD9 hS zd_G_attackOnce_163
          · skip
            refine lv_iconst (v := nI 1) hx hb zd_G_attackOnce_158 (by decide) ?_
            refine lv_goto hx hb (tgt := 163) zd_G_attackOnce_159 (by decide) ?_
            have e1 : nI (za_l1 Tg Co xx yy ln0) = nI (ln0 + 1) := by first | with_reducible rfl | (first | (unfold za_l1; rw [za_bvk_f h23]; rfl) | (unfold za_M1; rw [za_bvk_f h23]; rfl) | (unfold za_A1; rw [za_bvk_f h23]; rfl) | (unfold za_l1; rw [if_pos hp]) | (unfold za_M1; rw [if_pos hp, za_once2 hside he]) | (unfold za_A1; rw [if_pos hp]))
            have e2 : za_M1 Tg Co xx yy ln0 Md = upd Md ln0 (nI ((sd0 * 1000) + e0)) := by first | with_reducible rfl | (first | (unfold za_l1; rw [za_bvk_f h23]; rfl) | (unfold za_M1; rw [za_bvk_f h23]; rfl) | (unfold za_A1; rw [za_bvk_f h23]; rfl) | (unfold za_l1; rw [if_pos hp]) | (unfold za_M1; rw [if_pos hp, za_once2 hside he]) | (unfold za_A1; rw [if_pos hp]))
            have e3 : za_A1 Tg Co xx yy ln0 An = upd An ln0 (za_ai (za_an Tg Co xx yy)) := by first | with_reducible rfl | (first | (unfold za_l1; rw [za_bvk_f h23]; rfl) | (unfold za_M1; rw [za_bvk_f h23]; rfl) | (unfold za_A1; rw [za_bvk_f h23]; rfl) | (unfold za_l1; rw [if_pos hp]) | (unfold za_M1; rw [if_pos hp, za_once2 hside he]) | (unfold za_A1; rw [if_pos hp]))
            have hP9 : va_P D vwCl [(aG, .inr (3, [.ref aN, .ref aL, .ref aS, .ref aM, .ref aA, .int (nI (za_l1 Tg Co xx yy ln0))])), (aN, .inr (0, [.ref aT, .ref aC, .int ct])), (aT, .inl (cI, 96, .inl Tg)), (aL, .inr (1, [.ref aN, .ref aR, .ref aU, .ref aK, .int (nI lr), .int (nI kc), .int (za_bi sd)])), (aR, .inl (cI, 576, .inl Rw)), (aS, .inl (cI, 2, .inl (upd (upd Sd sd0 (nI (e0 % 100))) (1 - sd0) (za_ai (za_an Tg Co xx yy))))), (aM, .inl (cI, 24, .inl (za_M1 Tg Co xx yy ln0 Md))), (aA, .inl (cI, 24, .inl (za_A1 Tg Co xx yy ln0 An)))] H := by rw [e1, e2, e3]; exact hP
            have hD9 : va_D A [(aG, .inr (3, [.ref aN, .ref aL, .ref aS, .ref aM, .ref aA, .int (nI (za_l1 Tg Co xx yy ln0))])), (aN, .inr (0, [.ref aT, .ref aC, .int ct])), (aT, .inl (cI, 96, .inl Tg)), (aL, .inr (1, [.ref aN, .ref aR, .ref aU, .ref aK, .int (nI lr), .int (nI kc), .int (za_bi sd)])), (aR, .inl (cI, 576, .inl Rw)), (aS, .inl (cI, 2, .inl (upd (upd Sd sd0 (nI (e0 % 100))) (1 - sd0) (za_ai (za_an Tg Co xx yy))))), (aM, .inl (cI, 24, .inl (za_M1 Tg Co xx yy ln0 Md))), (aA, .inl (cI, 24, .inl (za_A1 Tg Co xx yy ln0 An)))] := by rw [e1, e2, e3]; exact hD
            have hQ9 : (nI 1) = za_bi (za_go Tg Co xx yy) ∧ (za_go Tg Co xx yy = true → (upd (upd Sd sd0 (nI (e0 % 100))) (1 - sd0) (za_ai (za_an Tg Co xx yy))) 0 = nI (za_x1 Tg Co xx yy) ∧ (upd (upd Sd sd0 (nI (e0 % 100))) (1 - sd0) (za_ai (za_an Tg Co xx yy))) 1 = nI (za_y1 Tg Co xx yy)) := by first | exact ⟨za_b0 (by unfold za_go; rw [hp, (za_ai_m1 (za_an_le xx yy)).mp h155]; rfl), fun z => absurd z (by simp [za_go, (za_ai_m1 (za_an_le xx yy)).mp h155])⟩ | exact ⟨za_b1 (by unfold za_go; rw [hp, decide_eq_false (fun z => h155 ((za_ai_m1 (za_an_le xx yy)).mpr z))]; rfl), fun _ => za_once3 hside he (fun z => h155 ((za_ai_m1 (za_an_le xx yy)).mpr z))⟩
            exact hret _ (upd (upd Sd sd0 (nI (e0 % 100))) (1 - sd0) (za_ai (za_an Tg Co xx yy))) _ _ _ _ (hQ9) hP9 hD9 hS zd_G_attackOnce_163
        exact hC80 1 (za_lb Tg Co xx yy * 100 + za_to Tg Co xx yy) ls H0 [] (by omega) (by rw [hmi]; rfl) (by rfl) (lv_sub hl [3, 1, 0] rfl) hP hD hS
      · skip
        exact absurd (h75.symm.trans (za_fo_2 hrk hp h50).2).symm (za_m1 (by have := za_lb_lt (Tg := Tg) (Co := Co) xx yy; have := za_to_lt (Tg := Tg) (Co := Co) xx yy; omega))
  · skip
    refine lv_iconst (v := nI 0) hx hb zd_G_attackOnce_26 (by decide) ?_
    have e1 : nI (za_l1 Tg Co xx yy ln0) = nI ln0 := by first | with_reducible rfl | (first | (unfold za_l1; rw [za_bvk_f h23]; rfl) | (unfold za_M1; rw [za_bvk_f h23]; rfl) | (unfold za_A1; rw [za_bvk_f h23]; rfl) | (unfold za_l1; rw [if_pos hp]) | (unfold za_M1; rw [if_pos hp, za_once2 hside he]) | (unfold za_A1; rw [if_pos hp]))
    have e2 : za_M1 Tg Co xx yy ln0 Md = Md := by first | with_reducible rfl | (first | (unfold za_l1; rw [za_bvk_f h23]; rfl) | (unfold za_M1; rw [za_bvk_f h23]; rfl) | (unfold za_A1; rw [za_bvk_f h23]; rfl) | (unfold za_l1; rw [if_pos hp]) | (unfold za_M1; rw [if_pos hp, za_once2 hside he]) | (unfold za_A1; rw [if_pos hp]))
    have e3 : za_A1 Tg Co xx yy ln0 An = An := by first | with_reducible rfl | (first | (unfold za_l1; rw [za_bvk_f h23]; rfl) | (unfold za_M1; rw [za_bvk_f h23]; rfl) | (unfold za_A1; rw [za_bvk_f h23]; rfl) | (unfold za_l1; rw [if_pos hp]) | (unfold za_M1; rw [if_pos hp, za_once2 hside he]) | (unfold za_A1; rw [if_pos hp]))
    have hP9 : va_P D vwCl [(aG, .inr (3, [.ref aN, .ref aL, .ref aS, .ref aM, .ref aA, .int (nI (za_l1 Tg Co xx yy ln0))])), (aN, .inr (0, [.ref aT, .ref aC, .int ct])), (aT, .inl (cI, 96, .inl Tg)), (aL, .inr (1, [.ref aN, .ref aR, .ref aU, .ref aK, .int (nI lr), .int (nI kc), .int (za_bi sd)])), (aR, .inl (cI, 576, .inl Rw)), (aS, .inl (cI, 2, .inl Sd)), (aM, .inl (cI, 24, .inl (za_M1 Tg Co xx yy ln0 Md))), (aA, .inl (cI, 24, .inl (za_A1 Tg Co xx yy ln0 An)))] H0 := by rw [e1, e2, e3]; exact hP
    have hD9 : va_D A [(aG, .inr (3, [.ref aN, .ref aL, .ref aS, .ref aM, .ref aA, .int (nI (za_l1 Tg Co xx yy ln0))])), (aN, .inr (0, [.ref aT, .ref aC, .int ct])), (aT, .inl (cI, 96, .inl Tg)), (aL, .inr (1, [.ref aN, .ref aR, .ref aU, .ref aK, .int (nI lr), .int (nI kc), .int (za_bi sd)])), (aR, .inl (cI, 576, .inl Rw)), (aS, .inl (cI, 2, .inl Sd)), (aM, .inl (cI, 24, .inl (za_M1 Tg Co xx yy ln0 Md))), (aA, .inl (cI, 24, .inl (za_A1 Tg Co xx yy ln0 An)))] := by rw [e1, e2, e3]; exact hD
    have hQ9 : (nI 0) = za_bi (za_go Tg Co xx yy) ∧ (za_go Tg Co xx yy = true → Sd 0 = nI (za_x1 Tg Co xx yy) ∧ Sd 1 = nI (za_y1 Tg Co xx yy)) := by exact ⟨za_b0 (by unfold za_go; rw [za_bvk_f h23]; rfl), fun z => absurd z (by simp [za_go, za_bvk_f h23])⟩
    exact hret _ Sd _ _ _ _ (hQ9) hP9 hD9 hS zd_G_attackOnce_27
