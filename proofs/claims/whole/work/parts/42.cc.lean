def zr_N_init : Room := { frames := 1, cells := 2, slots := 120, locals := 20 }
set_option maxHeartbeats 4000000 in
set_option maxRecDepth 100000 in
theorem zc_N_init (ln : Launch) (D : va_G) (cI cZ : ClassId) (sz : Nat) (aN : Nat) : Met ln zm_N_init (Cond.code zm_N_init zo_N_init 1 none :: zb_big) zr_N_init (za_Pw D vwCl [(cI, .int), (cZ, .boolean)] [.ref aN] [(aN, .inr (0, [.null, .null, .int (nI 0)]))] sz) (va_Qv (fun (u : Nat × Nat) => True) (za_B D vwCl [(aN, .inr (0, [.null, .null, .int (nI 0)]))] sz (fun (u : Nat × Nat) => [(aN, .inr (0, [.ref u.1, .ref u.2, .int (nI 0)])), (u.1, .inl (cI, 96, .inl (fun _ => nI 0))), (u.2, .inl (cI, 24, .inl (fun _ => nI 0)))])) (va_A [(aN, .inr (0, [.null, .null, .int (nI 0)]))] sz)) 2 120 (va_A [(aN, .inr (0, [.null, .null, .int (nI 0)]))] sz) := by
  refine za_wv (cc := zo_N_init) (maxL := 1) (by decide) (Nat.le_of_ble_eq_true rfl) ?_
  intro p e sg m args below meth c H0 A Q hx hb hml hts hown hmn hP hK hN hD hA hS hret ls hl
  have hP : va_P D vwCl [(aN, .inr (0, [.null, .null, .int (nI 0)]))] H0 := hP
  have hD : va_D A [(aN, .inr (0, [.null, .null, .int (nI 0)]))] := hD
  have hl : lv_has ls 1 [(0, .ref aN)] := hl
  have ha_int := hts _ zw_66
  have hf9 := hts _ zw_56
  have hf15 := hts _ zw_57
  refine lv_aload_n hx hb zd_N_init_0 rfl (lv_at hl 0 rfl) ?_
  refine W.objInit hx hb hown (hts _ zw_55) (hts _ zw_48) (hts _ zw_49) rfl (by rw [hml]; exact hl.1) rfl zd_N_init_1 (Nat.le_of_ble_eq_true rfl) (Nat.le_of_ble_eq_true rfl) ?_
  refine W.eq (g2 := F0 m 4 ls []) rfl ?_
  refine lv_aload_n hx hb zd_N_init_4 rfl (lv_at hl 0 rfl) ?_
  refine lv_bipush (v := nI 96) hx hb zd_N_init_5 (by decide) ?_
  refine za_newI hx hb ha_int hK hP hD hS hA (N := 96) (by decide) (by decide) (Nat.le_of_ble_eq_true rfl) (Nat.le_of_ble_eq_true rfl) zd_N_init_7 (fun q7 H hP hD hS => ?_)
  refine W.widen (k := 1) (n := 96) (by omega) (by omega) ?_
  have hP : va_P D vwCl [(aN, .inr (0, [.null, .null, .int (nI 0)])), (q7, .inl (cI, 96, .inl (fun _ => nI 0)))] H := hP
  have hD : va_D A [(aN, .inr (0, [.null, .null, .int (nI 0)])), (q7, .inl (cI, 96, .inl (fun _ => nI 0)))] := hD
  refine va_putF (D := D) (ci := 0) (v := .ref q7) (ty := .array .int) (C := zs_N) (T := zt_N) (N := 3) hx hb hts zi_N zy_N zk_N zn_N hown hK hP hD hS 0 rfl rfl 0 (by decide) hf9 (fun _ h9 => h9) rfl hmn rfl (by decide +kernel) rfl rfl (Nat.le_of_ble_eq_true rfl) zd_N_init_9 (fun H locs hP hD hS => ?_)
  have hP : va_P D vwCl [(aN, .inr (0, [.ref q7, .null, .int (nI 0)])), (q7, .inl (cI, 96, .inl (fun _ => nI 0)))] H := hP
  have hD : va_D A [(aN, .inr (0, [.ref q7, .null, .int (nI 0)])), (q7, .inl (cI, 96, .inl (fun _ => nI 0)))] := hD
  refine lv_aload_n hx hb zd_N_init_12 rfl (lv_at hl 0 rfl) ?_
  refine lv_bipush (v := nI 24) hx hb zd_N_init_13 (by decide) ?_
  refine za_newI hx hb ha_int hK hP hD hS hA (N := 24) (by decide) (by decide) (Nat.le_of_ble_eq_true rfl) (Nat.le_of_ble_eq_true rfl) zd_N_init_15 (fun q15 H hP hD hS => ?_)
  refine W.widen (k := 2) (n := 120) (by omega) (by omega) ?_
  have hP : va_P D vwCl [(aN, .inr (0, [.ref q7, .null, .int (nI 0)])), (q7, .inl (cI, 96, .inl (fun _ => nI 0))), (q15, .inl (cI, 24, .inl (fun _ => nI 0)))] H := hP
  have hD : va_D A [(aN, .inr (0, [.ref q7, .null, .int (nI 0)])), (q7, .inl (cI, 96, .inl (fun _ => nI 0))), (q15, .inl (cI, 24, .inl (fun _ => nI 0)))] := hD
  refine va_putF (D := D) (ci := 0) (v := .ref q15) (ty := .array .int) (C := zs_N) (T := zt_N) (N := 3) hx hb hts zi_N zy_N zk_N zn_N hown hK hP hD hS 0 rfl rfl 1 (by decide) hf15 (fun _ h9 => h9) rfl hmn rfl (by decide +kernel) rfl rfl (Nat.le_of_ble_eq_true rfl) zd_N_init_17 (fun H locs hP hD hS => ?_)
  have hP : va_P D vwCl [(aN, .inr (0, [.ref q7, .ref q15, .int (nI 0)])), (q7, .inl (cI, 96, .inl (fun _ => nI 0))), (q15, .inl (cI, 24, .inl (fun _ => nI 0)))] H := hP
  have hD : va_D A [(aN, .inr (0, [.ref q7, .ref q15, .int (nI 0)])), (q7, .inl (cI, 96, .inl (fun _ => nI 0))), (q15, .inl (cI, 24, .inl (fun _ => nI 0)))] := hD
  have hP9 : va_P D vwCl [(aN, .inr (0, [.ref q7, .ref q15, .int (nI 0)])), (q7, .inl (cI, 96, .inl (fun _ => nI 0))), (q15, .inl (cI, 24, .inl (fun _ => nI 0)))] H := hP
  have hD9 : va_D A [(aN, .inr (0, [.ref q7, .ref q15, .int (nI 0)])), (q7, .inl (cI, 96, .inl (fun _ => nI 0))), (q15, .inl (cI, 24, .inl (fun _ => nI 0)))] := hD
  exact hret ⟨q7, q15⟩ _ _ _ _ (trivial) hP9 hD9 hS zd_N_init_20
def zr_L_init : Room := { frames := 1, cells := 3, slots := 696, locals := 20 }
set_option maxHeartbeats 4000000 in
set_option maxRecDepth 100000 in
theorem zc_L_init (ln : Launch) (D : va_G) (cI cZ : ClassId) (sz : Nat) (aL : Nat) (aN : Nat) : Met ln zm_L_init (Cond.code zm_L_init zo_L_init 2 none :: zb_big) zr_L_init (za_Pw D vwCl [(cI, .int), (cZ, .boolean)] [.ref aL, .ref aN] [(aL, .inr (1, [.null, .null, .null, .null, .int (nI 0), .int (nI 0), .int (za_bi false)]))] sz) (va_Qv (fun (u : Nat × Nat × Nat) => True) (za_B D vwCl [(aL, .inr (1, [.null, .null, .null, .null, .int (nI 0), .int (nI 0), .int (za_bi false)]))] sz (fun (u : Nat × Nat × Nat) => [(aL, .inr (1, [.ref aN, .ref u.1, .ref u.2.1, .ref u.2.2, .int (nI 0), .int (nI 0), .int (za_bi false)])), (u.1, .inl (cI, 576, .inl (fun _ => nI 0))), (u.2.1, .inl (cI, 96, .inl (fun _ => nI 0))), (u.2.2, .inl (cI, 24, .inl (fun _ => nI 0)))])) (va_A [(aL, .inr (1, [.null, .null, .null, .null, .int (nI 0), .int (nI 0), .int (za_bi false)]))] sz)) 3 696 (va_A [(aL, .inr (1, [.null, .null, .null, .null, .int (nI 0), .int (nI 0), .int (za_bi false)]))] sz) := by
  refine za_wv (cc := zo_L_init) (maxL := 2) (by decide) (Nat.le_of_ble_eq_true rfl) ?_
  intro p e sg m args below meth c H0 A Q hx hb hml hts hown hmn hP hK hN hD hA hS hret ls hl
  have hP : va_P D vwCl [(aL, .inr (1, [.null, .null, .null, .null, .int (nI 0), .int (nI 0), .int (za_bi false)]))] H0 := hP
  have hD : va_D A [(aL, .inr (1, [.null, .null, .null, .null, .int (nI 0), .int (nI 0), .int (za_bi false)]))] := hD
  have hl : lv_has ls 2 [(0, .ref aL), (1, .ref aN)] := hl
  have hf9 := hts _ zw_73
  have ha_int := hts _ zw_66
  have hf15 := hts _ zw_74
  have hf19 := hts _ zw_75
  have hf22 := hts _ zw_76
  refine lv_aload_n hx hb zd_L_init_0 rfl (lv_at hl 0 rfl) ?_
  refine W.objInit hx hb hown (hts _ zw_72) (hts _ zw_48) (hts _ zw_49) rfl (by rw [hml]; exact hl.1) rfl zd_L_init_1 (Nat.le_of_ble_eq_true rfl) (Nat.le_of_ble_eq_true rfl) ?_
  refine W.eq (g2 := F0 m 4 ls []) rfl ?_
  refine lv_aload_n hx hb zd_L_init_4 rfl (lv_at hl 0 rfl) ?_
  refine lv_aload_n hx hb zd_L_init_5 rfl (lv_at hl 1 rfl) ?_
  refine va_putF (D := D) (ci := 1) (v := .ref aN) (ty := .object "AlikeStates$Net") (C := zs_L) (T := zt_L) (N := 7) hx hb hts zi_L zy_L zk_L zn_L hown hK hP hD hS 0 rfl rfl 0 (by decide) hf9 (fun _ h9 => h9) rfl hmn rfl (by decide +kernel) rfl rfl (Nat.le_of_ble_eq_true rfl) zd_L_init_6 (fun H locs hP hD hS => ?_)
  have hP : va_P D vwCl [(aL, .inr (1, [.ref aN, .null, .null, .null, .int (nI 0), .int (nI 0), .int (za_bi false)]))] H := hP
  have hD : va_D A [(aL, .inr (1, [.ref aN, .null, .null, .null, .int (nI 0), .int (nI 0), .int (za_bi false)]))] := hD
  refine lv_aload_n hx hb zd_L_init_9 rfl (lv_at hl 0 rfl) ?_
  refine lv_sipush (v := nI 576) hx hb zd_L_init_10 (by decide) ?_
  refine za_newI hx hb ha_int hK hP hD hS hA (N := 576) (by decide) (by decide) (Nat.le_of_ble_eq_true rfl) (Nat.le_of_ble_eq_true rfl) zd_L_init_13 (fun q13 H hP hD hS => ?_)
  refine W.widen (k := 1) (n := 576) (by omega) (by omega) ?_
  have hP : va_P D vwCl [(aL, .inr (1, [.ref aN, .null, .null, .null, .int (nI 0), .int (nI 0), .int (za_bi false)])), (q13, .inl (cI, 576, .inl (fun _ => nI 0)))] H := hP
  have hD : va_D A [(aL, .inr (1, [.ref aN, .null, .null, .null, .int (nI 0), .int (nI 0), .int (za_bi false)])), (q13, .inl (cI, 576, .inl (fun _ => nI 0)))] := hD
  refine va_putF (D := D) (ci := 1) (v := .ref q13) (ty := .array .int) (C := zs_L) (T := zt_L) (N := 7) hx hb hts zi_L zy_L zk_L zn_L hown hK hP hD hS 0 rfl rfl 1 (by decide) hf15 (fun _ h9 => h9) rfl hmn rfl (by decide +kernel) rfl rfl (Nat.le_of_ble_eq_true rfl) zd_L_init_15 (fun H locs hP hD hS => ?_)
  have hP : va_P D vwCl [(aL, .inr (1, [.ref aN, .ref q13, .null, .null, .int (nI 0), .int (nI 0), .int (za_bi false)])), (q13, .inl (cI, 576, .inl (fun _ => nI 0)))] H := hP
  have hD : va_D A [(aL, .inr (1, [.ref aN, .ref q13, .null, .null, .int (nI 0), .int (nI 0), .int (za_bi false)])), (q13, .inl (cI, 576, .inl (fun _ => nI 0)))] := hD
  refine lv_aload_n hx hb zd_L_init_18 rfl (lv_at hl 0 rfl) ?_
  refine lv_bipush (v := nI 96) hx hb zd_L_init_19 (by decide) ?_
  refine za_newI hx hb ha_int hK hP hD hS hA (N := 96) (by decide) (by decide) (Nat.le_of_ble_eq_true rfl) (Nat.le_of_ble_eq_true rfl) zd_L_init_21 (fun q21 H hP hD hS => ?_)
  refine W.widen (k := 2) (n := 672) (by omega) (by omega) ?_
  have hP : va_P D vwCl [(aL, .inr (1, [.ref aN, .ref q13, .null, .null, .int (nI 0), .int (nI 0), .int (za_bi false)])), (q13, .inl (cI, 576, .inl (fun _ => nI 0))), (q21, .inl (cI, 96, .inl (fun _ => nI 0)))] H := hP
  have hD : va_D A [(aL, .inr (1, [.ref aN, .ref q13, .null, .null, .int (nI 0), .int (nI 0), .int (za_bi false)])), (q13, .inl (cI, 576, .inl (fun _ => nI 0))), (q21, .inl (cI, 96, .inl (fun _ => nI 0)))] := hD
  refine va_putF (D := D) (ci := 1) (v := .ref q21) (ty := .array .int) (C := zs_L) (T := zt_L) (N := 7) hx hb hts zi_L zy_L zk_L zn_L hown hK hP hD hS 0 rfl rfl 2 (by decide) hf19 (fun _ h9 => h9) rfl hmn rfl (by decide +kernel) rfl rfl (Nat.le_of_ble_eq_true rfl) zd_L_init_23 (fun H locs hP hD hS => ?_)
  have hP : va_P D vwCl [(aL, .inr (1, [.ref aN, .ref q13, .ref q21, .null, .int (nI 0), .int (nI 0), .int (za_bi false)])), (q13, .inl (cI, 576, .inl (fun _ => nI 0))), (q21, .inl (cI, 96, .inl (fun _ => nI 0)))] H := hP
  have hD : va_D A [(aL, .inr (1, [.ref aN, .ref q13, .ref q21, .null, .int (nI 0), .int (nI 0), .int (za_bi false)])), (q13, .inl (cI, 576, .inl (fun _ => nI 0))), (q21, .inl (cI, 96, .inl (fun _ => nI 0)))] := hD
  refine lv_aload_n hx hb zd_L_init_26 rfl (lv_at hl 0 rfl) ?_
  refine lv_bipush (v := nI 24) hx hb zd_L_init_27 (by decide) ?_
  refine za_newI hx hb ha_int hK hP hD hS hA (N := 24) (by decide) (by decide) (Nat.le_of_ble_eq_true rfl) (Nat.le_of_ble_eq_true rfl) zd_L_init_29 (fun q29 H hP hD hS => ?_)
  refine W.widen (k := 3) (n := 696) (by omega) (by omega) ?_
  have hP : va_P D vwCl [(aL, .inr (1, [.ref aN, .ref q13, .ref q21, .null, .int (nI 0), .int (nI 0), .int (za_bi false)])), (q13, .inl (cI, 576, .inl (fun _ => nI 0))), (q21, .inl (cI, 96, .inl (fun _ => nI 0))), (q29, .inl (cI, 24, .inl (fun _ => nI 0)))] H := hP
  have hD : va_D A [(aL, .inr (1, [.ref aN, .ref q13, .ref q21, .null, .int (nI 0), .int (nI 0), .int (za_bi false)])), (q13, .inl (cI, 576, .inl (fun _ => nI 0))), (q21, .inl (cI, 96, .inl (fun _ => nI 0))), (q29, .inl (cI, 24, .inl (fun _ => nI 0)))] := hD
  refine va_putF (D := D) (ci := 1) (v := .ref q29) (ty := .array .int) (C := zs_L) (T := zt_L) (N := 7) hx hb hts zi_L zy_L zk_L zn_L hown hK hP hD hS 0 rfl rfl 3 (by decide) hf22 (fun _ h9 => h9) rfl hmn rfl (by decide +kernel) rfl rfl (Nat.le_of_ble_eq_true rfl) zd_L_init_31 (fun H locs hP hD hS => ?_)
  have hP : va_P D vwCl [(aL, .inr (1, [.ref aN, .ref q13, .ref q21, .ref q29, .int (nI 0), .int (nI 0), .int (za_bi false)])), (q13, .inl (cI, 576, .inl (fun _ => nI 0))), (q21, .inl (cI, 96, .inl (fun _ => nI 0))), (q29, .inl (cI, 24, .inl (fun _ => nI 0)))] H := hP
  have hD : va_D A [(aL, .inr (1, [.ref aN, .ref q13, .ref q21, .ref q29, .int (nI 0), .int (nI 0), .int (za_bi false)])), (q13, .inl (cI, 576, .inl (fun _ => nI 0))), (q21, .inl (cI, 96, .inl (fun _ => nI 0))), (q29, .inl (cI, 24, .inl (fun _ => nI 0)))] := hD
  have hP9 : va_P D vwCl [(aL, .inr (1, [.ref aN, .ref q13, .ref q21, .ref q29, .int (nI 0), .int (nI 0), .int (za_bi false)])), (q13, .inl (cI, 576, .inl (fun _ => nI 0))), (q21, .inl (cI, 96, .inl (fun _ => nI 0))), (q29, .inl (cI, 24, .inl (fun _ => nI 0)))] H := hP
  have hD9 : va_D A [(aL, .inr (1, [.ref aN, .ref q13, .ref q21, .ref q29, .int (nI 0), .int (nI 0), .int (za_bi false)])), (q13, .inl (cI, 576, .inl (fun _ => nI 0))), (q21, .inl (cI, 96, .inl (fun _ => nI 0))), (q29, .inl (cI, 24, .inl (fun _ => nI 0)))] := hD
  exact hret ⟨q13, q21, q29⟩ _ _ _ _ (trivial) hP9 hD9 hS zd_L_init_34
def zr_C_init : Room := { frames := 1, cells := 2, slots := 120, locals := 20 }
set_option maxHeartbeats 4000000 in
set_option maxRecDepth 100000 in
theorem zc_C_init (ln : Launch) (D : va_G) (cI cZ : ClassId) (sz : Nat) (aV : Nat) (aN : Nat) : Met ln zm_C_init (Cond.code zm_C_init zo_C_init 2 none :: zb_big) zr_C_init (za_Pw D vwCl [(cI, .int), (cZ, .boolean)] [.ref aV, .ref aN] [(aV, .inr (2, [.null, .null, .null, .int (za_bi false)]))] sz) (va_Qv (fun (u : Nat × Nat) => True) (za_B D vwCl [(aV, .inr (2, [.null, .null, .null, .int (za_bi false)]))] sz (fun (u : Nat × Nat) => [(aV, .inr (2, [.ref aN, .ref u.1, .ref u.2, .int (za_bi false)])), (u.1, .inl (cI, 24, .inl (fun _ => nI 0))), (u.2, .inl (cI, 96, .inl (fun _ => nI 0)))])) (va_A [(aV, .inr (2, [.null, .null, .null, .int (za_bi false)]))] sz)) 2 120 (va_A [(aV, .inr (2, [.null, .null, .null, .int (za_bi false)]))] sz) := by
  refine za_wv (cc := zo_C_init) (maxL := 2) (by decide) (Nat.le_of_ble_eq_true rfl) ?_
  intro p e sg m args below meth c H0 A Q hx hb hml hts hown hmn hP hK hN hD hA hS hret ls hl
  have hP : va_P D vwCl [(aV, .inr (2, [.null, .null, .null, .int (za_bi false)]))] H0 := hP
  have hD : va_D A [(aV, .inr (2, [.null, .null, .null, .int (za_bi false)]))] := hD
  have hl : lv_has ls 2 [(0, .ref aV), (1, .ref aN)] := hl
  have hf9 := hts _ zw_101
  have ha_int := hts _ zw_66
  have hf15 := hts _ zw_102
  have hf19 := hts _ zw_103
  refine lv_aload_n hx hb zd_C_init_0 rfl (lv_at hl 0 rfl) ?_
  refine W.objInit hx hb hown (hts _ zw_100) (hts _ zw_48) (hts _ zw_49) rfl (by rw [hml]; exact hl.1) rfl zd_C_init_1 (Nat.le_of_ble_eq_true rfl) (Nat.le_of_ble_eq_true rfl) ?_
  refine W.eq (g2 := F0 m 4 ls []) rfl ?_
  refine lv_aload_n hx hb zd_C_init_4 rfl (lv_at hl 0 rfl) ?_
  refine lv_aload_n hx hb zd_C_init_5 rfl (lv_at hl 1 rfl) ?_
  refine va_putF (D := D) (ci := 2) (v := .ref aN) (ty := .object "AlikeStates$Net") (C := zs_C) (T := zt_C) (N := 4) hx hb hts zi_C zy_C zk_C zn_C hown hK hP hD hS 0 rfl rfl 0 (by decide) hf9 (fun _ h9 => h9) rfl hmn rfl (by decide +kernel) rfl rfl (Nat.le_of_ble_eq_true rfl) zd_C_init_6 (fun H locs hP hD hS => ?_)
  have hP : va_P D vwCl [(aV, .inr (2, [.ref aN, .null, .null, .int (za_bi false)]))] H := hP
  have hD : va_D A [(aV, .inr (2, [.ref aN, .null, .null, .int (za_bi false)]))] := hD
  refine lv_aload_n hx hb zd_C_init_9 rfl (lv_at hl 0 rfl) ?_
  refine lv_bipush (v := nI 24) hx hb zd_C_init_10 (by decide) ?_
  refine za_newI hx hb ha_int hK hP hD hS hA (N := 24) (by decide) (by decide) (Nat.le_of_ble_eq_true rfl) (Nat.le_of_ble_eq_true rfl) zd_C_init_12 (fun q12 H hP hD hS => ?_)
  refine W.widen (k := 1) (n := 24) (by omega) (by omega) ?_
  have hP : va_P D vwCl [(aV, .inr (2, [.ref aN, .null, .null, .int (za_bi false)])), (q12, .inl (cI, 24, .inl (fun _ => nI 0)))] H := hP
  have hD : va_D A [(aV, .inr (2, [.ref aN, .null, .null, .int (za_bi false)])), (q12, .inl (cI, 24, .inl (fun _ => nI 0)))] := hD
  refine va_putF (D := D) (ci := 2) (v := .ref q12) (ty := .array .int) (C := zs_C) (T := zt_C) (N := 4) hx hb hts zi_C zy_C zk_C zn_C hown hK hP hD hS 0 rfl rfl 1 (by decide) hf15 (fun _ h9 => h9) rfl hmn rfl (by decide +kernel) rfl rfl (Nat.le_of_ble_eq_true rfl) zd_C_init_14 (fun H locs hP hD hS => ?_)
  have hP : va_P D vwCl [(aV, .inr (2, [.ref aN, .ref q12, .null, .int (za_bi false)])), (q12, .inl (cI, 24, .inl (fun _ => nI 0)))] H := hP
  have hD : va_D A [(aV, .inr (2, [.ref aN, .ref q12, .null, .int (za_bi false)])), (q12, .inl (cI, 24, .inl (fun _ => nI 0)))] := hD
  refine lv_aload_n hx hb zd_C_init_17 rfl (lv_at hl 0 rfl) ?_
  refine lv_bipush (v := nI 96) hx hb zd_C_init_18 (by decide) ?_
  refine za_newI hx hb ha_int hK hP hD hS hA (N := 96) (by decide) (by decide) (Nat.le_of_ble_eq_true rfl) (Nat.le_of_ble_eq_true rfl) zd_C_init_20 (fun q20 H hP hD hS => ?_)
  refine W.widen (k := 2) (n := 120) (by omega) (by omega) ?_
  have hP : va_P D vwCl [(aV, .inr (2, [.ref aN, .ref q12, .null, .int (za_bi false)])), (q12, .inl (cI, 24, .inl (fun _ => nI 0))), (q20, .inl (cI, 96, .inl (fun _ => nI 0)))] H := hP
  have hD : va_D A [(aV, .inr (2, [.ref aN, .ref q12, .null, .int (za_bi false)])), (q12, .inl (cI, 24, .inl (fun _ => nI 0))), (q20, .inl (cI, 96, .inl (fun _ => nI 0)))] := hD
  refine va_putF (D := D) (ci := 2) (v := .ref q20) (ty := .array .int) (C := zs_C) (T := zt_C) (N := 4) hx hb hts zi_C zy_C zk_C zn_C hown hK hP hD hS 0 rfl rfl 2 (by decide) hf19 (fun _ h9 => h9) rfl hmn rfl (by decide +kernel) rfl rfl (Nat.le_of_ble_eq_true rfl) zd_C_init_22 (fun H locs hP hD hS => ?_)
  have hP : va_P D vwCl [(aV, .inr (2, [.ref aN, .ref q12, .ref q20, .int (za_bi false)])), (q12, .inl (cI, 24, .inl (fun _ => nI 0))), (q20, .inl (cI, 96, .inl (fun _ => nI 0)))] H := hP
  have hD : va_D A [(aV, .inr (2, [.ref aN, .ref q12, .ref q20, .int (za_bi false)])), (q12, .inl (cI, 24, .inl (fun _ => nI 0))), (q20, .inl (cI, 96, .inl (fun _ => nI 0)))] := hD
  have hP9 : va_P D vwCl [(aV, .inr (2, [.ref aN, .ref q12, .ref q20, .int (za_bi false)])), (q12, .inl (cI, 24, .inl (fun _ => nI 0))), (q20, .inl (cI, 96, .inl (fun _ => nI 0)))] H := hP
  have hD9 : va_D A [(aV, .inr (2, [.ref aN, .ref q12, .ref q20, .int (za_bi false)])), (q12, .inl (cI, 24, .inl (fun _ => nI 0))), (q20, .inl (cI, 96, .inl (fun _ => nI 0)))] := hD
  exact hret ⟨q12, q20⟩ _ _ _ _ (trivial) hP9 hD9 hS zd_C_init_25
def zr_G_init : Room := { frames := 1, cells := 3, slots := 50, locals := 20 }
set_option maxHeartbeats 4000000 in
set_option maxRecDepth 100000 in
theorem zc_G_init (ln : Launch) (D : va_G) (cI cZ : ClassId) (sz : Nat) (aG : Nat) (aN : Nat) (aL : Nat) : Met ln zm_G_init (Cond.code zm_G_init zo_G_init 3 none :: zb_big) zr_G_init (za_Pw D vwCl [(cI, .int), (cZ, .boolean)] [.ref aG, .ref aN, .ref aL] [(aG, .inr (3, [.null, .null, .null, .null, .null, .int (nI 0)]))] sz) (va_Qv (fun (u : Nat × Nat × Nat) => True) (za_B D vwCl [(aG, .inr (3, [.null, .null, .null, .null, .null, .int (nI 0)]))] sz (fun (u : Nat × Nat × Nat) => [(aG, .inr (3, [.ref aN, .ref aL, .ref u.1, .ref u.2.1, .ref u.2.2, .int (nI 0)])), (u.1, .inl (cI, 2, .inl (fun _ => nI 0))), (u.2.1, .inl (cI, 24, .inl (fun _ => nI 0))), (u.2.2, .inl (cI, 24, .inl (fun _ => nI 0)))])) (va_A [(aG, .inr (3, [.null, .null, .null, .null, .null, .int (nI 0)]))] sz)) 3 50 (va_A [(aG, .inr (3, [.null, .null, .null, .null, .null, .int (nI 0)]))] sz) := by
  refine za_wv (cc := zo_G_init) (maxL := 3) (by decide) (Nat.le_of_ble_eq_true rfl) ?_
  intro p e sg m args below meth c H0 A Q hx hb hml hts hown hmn hP hK hN hD hA hS hret ls hl
  have hP : va_P D vwCl [(aG, .inr (3, [.null, .null, .null, .null, .null, .int (nI 0)]))] H0 := hP
  have hD : va_D A [(aG, .inr (3, [.null, .null, .null, .null, .null, .int (nI 0)]))] := hD
  have hl : lv_has ls 3 [(0, .ref aG), (1, .ref aN), (2, .ref aL)] := hl
  have hf9 := hts _ zw_120
  have hf15 := hts _ zw_121
  have ha_int := hts _ zw_66
  have hf19 := hts _ zw_122
  have hf23 := hts _ zw_123
  have hf26 := hts _ zw_124
  refine lv_aload_n hx hb zd_G_init_0 rfl (lv_at hl 0 rfl) ?_
  refine W.objInit hx hb hown (hts _ zw_119) (hts _ zw_48) (hts _ zw_49) rfl (by rw [hml]; exact hl.1) rfl zd_G_init_1 (Nat.le_of_ble_eq_true rfl) (Nat.le_of_ble_eq_true rfl) ?_
  refine W.eq (g2 := F0 m 4 ls []) rfl ?_
  refine lv_aload_n hx hb zd_G_init_4 rfl (lv_at hl 0 rfl) ?_
  refine lv_aload_n hx hb zd_G_init_5 rfl (lv_at hl 1 rfl) ?_
  refine va_putF (D := D) (ci := 3) (v := .ref aN) (ty := .object "AlikeStates$Net") (C := zs_G) (T := zt_G) (N := 6) hx hb hts zi_G zy_G zk_G zn_G hown hK hP hD hS 0 rfl rfl 0 (by decide) hf9 (fun _ h9 => h9) rfl hmn rfl (by decide +kernel) rfl rfl (Nat.le_of_ble_eq_true rfl) zd_G_init_6 (fun H locs hP hD hS => ?_)
  have hP : va_P D vwCl [(aG, .inr (3, [.ref aN, .null, .null, .null, .null, .int (nI 0)]))] H := hP
  have hD : va_D A [(aG, .inr (3, [.ref aN, .null, .null, .null, .null, .int (nI 0)]))] := hD
  refine lv_aload_n hx hb zd_G_init_9 rfl (lv_at hl 0 rfl) ?_
  refine lv_aload_n hx hb zd_G_init_10 rfl (lv_at hl 2 rfl) ?_
  refine va_putF (D := D) (ci := 3) (v := .ref aL) (ty := .object "AlikeStates$Likeness") (C := zs_G) (T := zt_G) (N := 6) hx hb hts zi_G zy_G zk_G zn_G hown hK hP hD hS 0 rfl rfl 1 (by decide) hf15 (fun _ h9 => h9) rfl hmn rfl (by decide +kernel) rfl rfl (Nat.le_of_ble_eq_true rfl) zd_G_init_11 (fun H locs hP hD hS => ?_)
  have hP : va_P D vwCl [(aG, .inr (3, [.ref aN, .ref aL, .null, .null, .null, .int (nI 0)]))] H := hP
  have hD : va_D A [(aG, .inr (3, [.ref aN, .ref aL, .null, .null, .null, .int (nI 0)]))] := hD
  refine lv_aload_n hx hb zd_G_init_14 rfl (lv_at hl 0 rfl) ?_
  refine lv_iconst (v := nI 2) hx hb zd_G_init_15 (by decide) ?_
  refine za_newI hx hb ha_int hK hP hD hS hA (N := 2) (by decide) (by decide) (Nat.le_of_ble_eq_true rfl) (Nat.le_of_ble_eq_true rfl) zd_G_init_16 (fun q16 H hP hD hS => ?_)
  refine W.widen (k := 1) (n := 2) (by omega) (by omega) ?_
  have hP : va_P D vwCl [(aG, .inr (3, [.ref aN, .ref aL, .null, .null, .null, .int (nI 0)])), (q16, .inl (cI, 2, .inl (fun _ => nI 0)))] H := hP
  have hD : va_D A [(aG, .inr (3, [.ref aN, .ref aL, .null, .null, .null, .int (nI 0)])), (q16, .inl (cI, 2, .inl (fun _ => nI 0)))] := hD
  refine va_putF (D := D) (ci := 3) (v := .ref q16) (ty := .array .int) (C := zs_G) (T := zt_G) (N := 6) hx hb hts zi_G zy_G zk_G zn_G hown hK hP hD hS 0 rfl rfl 2 (by decide) hf19 (fun _ h9 => h9) rfl hmn rfl (by decide +kernel) rfl rfl (Nat.le_of_ble_eq_true rfl) zd_G_init_18 (fun H locs hP hD hS => ?_)
  have hP : va_P D vwCl [(aG, .inr (3, [.ref aN, .ref aL, .ref q16, .null, .null, .int (nI 0)])), (q16, .inl (cI, 2, .inl (fun _ => nI 0)))] H := hP
  have hD : va_D A [(aG, .inr (3, [.ref aN, .ref aL, .ref q16, .null, .null, .int (nI 0)])), (q16, .inl (cI, 2, .inl (fun _ => nI 0)))] := hD
  refine lv_aload_n hx hb zd_G_init_21 rfl (lv_at hl 0 rfl) ?_
  refine lv_bipush (v := nI 24) hx hb zd_G_init_22 (by decide) ?_
  refine za_newI hx hb ha_int hK hP hD hS hA (N := 24) (by decide) (by decide) (Nat.le_of_ble_eq_true rfl) (Nat.le_of_ble_eq_true rfl) zd_G_init_24 (fun q24 H hP hD hS => ?_)
  refine W.widen (k := 2) (n := 26) (by omega) (by omega) ?_
  have hP : va_P D vwCl [(aG, .inr (3, [.ref aN, .ref aL, .ref q16, .null, .null, .int (nI 0)])), (q16, .inl (cI, 2, .inl (fun _ => nI 0))), (q24, .inl (cI, 24, .inl (fun _ => nI 0)))] H := hP
  have hD : va_D A [(aG, .inr (3, [.ref aN, .ref aL, .ref q16, .null, .null, .int (nI 0)])), (q16, .inl (cI, 2, .inl (fun _ => nI 0))), (q24, .inl (cI, 24, .inl (fun _ => nI 0)))] := hD
  refine va_putF (D := D) (ci := 3) (v := .ref q24) (ty := .array .int) (C := zs_G) (T := zt_G) (N := 6) hx hb hts zi_G zy_G zk_G zn_G hown hK hP hD hS 0 rfl rfl 3 (by decide) hf23 (fun _ h9 => h9) rfl hmn rfl (by decide +kernel) rfl rfl (Nat.le_of_ble_eq_true rfl) zd_G_init_26 (fun H locs hP hD hS => ?_)
  have hP : va_P D vwCl [(aG, .inr (3, [.ref aN, .ref aL, .ref q16, .ref q24, .null, .int (nI 0)])), (q16, .inl (cI, 2, .inl (fun _ => nI 0))), (q24, .inl (cI, 24, .inl (fun _ => nI 0)))] H := hP
  have hD : va_D A [(aG, .inr (3, [.ref aN, .ref aL, .ref q16, .ref q24, .null, .int (nI 0)])), (q16, .inl (cI, 2, .inl (fun _ => nI 0))), (q24, .inl (cI, 24, .inl (fun _ => nI 0)))] := hD
  refine lv_aload_n hx hb zd_G_init_29 rfl (lv_at hl 0 rfl) ?_
  refine lv_bipush (v := nI 24) hx hb zd_G_init_30 (by decide) ?_
  refine za_newI hx hb ha_int hK hP hD hS hA (N := 24) (by decide) (by decide) (Nat.le_of_ble_eq_true rfl) (Nat.le_of_ble_eq_true rfl) zd_G_init_32 (fun q32 H hP hD hS => ?_)
  refine W.widen (k := 3) (n := 50) (by omega) (by omega) ?_
  have hP : va_P D vwCl [(aG, .inr (3, [.ref aN, .ref aL, .ref q16, .ref q24, .null, .int (nI 0)])), (q16, .inl (cI, 2, .inl (fun _ => nI 0))), (q24, .inl (cI, 24, .inl (fun _ => nI 0))), (q32, .inl (cI, 24, .inl (fun _ => nI 0)))] H := hP
  have hD : va_D A [(aG, .inr (3, [.ref aN, .ref aL, .ref q16, .ref q24, .null, .int (nI 0)])), (q16, .inl (cI, 2, .inl (fun _ => nI 0))), (q24, .inl (cI, 24, .inl (fun _ => nI 0))), (q32, .inl (cI, 24, .inl (fun _ => nI 0)))] := hD
  refine va_putF (D := D) (ci := 3) (v := .ref q32) (ty := .array .int) (C := zs_G) (T := zt_G) (N := 6) hx hb hts zi_G zy_G zk_G zn_G hown hK hP hD hS 0 rfl rfl 4 (by decide) hf26 (fun _ h9 => h9) rfl hmn rfl (by decide +kernel) rfl rfl (Nat.le_of_ble_eq_true rfl) zd_G_init_34 (fun H locs hP hD hS => ?_)
  have hP : va_P D vwCl [(aG, .inr (3, [.ref aN, .ref aL, .ref q16, .ref q24, .ref q32, .int (nI 0)])), (q16, .inl (cI, 2, .inl (fun _ => nI 0))), (q24, .inl (cI, 24, .inl (fun _ => nI 0))), (q32, .inl (cI, 24, .inl (fun _ => nI 0)))] H := hP
  have hD : va_D A [(aG, .inr (3, [.ref aN, .ref aL, .ref q16, .ref q24, .ref q32, .int (nI 0)])), (q16, .inl (cI, 2, .inl (fun _ => nI 0))), (q24, .inl (cI, 24, .inl (fun _ => nI 0))), (q32, .inl (cI, 24, .inl (fun _ => nI 0)))] := hD
  have hP9 : va_P D vwCl [(aG, .inr (3, [.ref aN, .ref aL, .ref q16, .ref q24, .ref q32, .int (nI 0)])), (q16, .inl (cI, 2, .inl (fun _ => nI 0))), (q24, .inl (cI, 24, .inl (fun _ => nI 0))), (q32, .inl (cI, 24, .inl (fun _ => nI 0)))] H := hP
  have hD9 : va_D A [(aG, .inr (3, [.ref aN, .ref aL, .ref q16, .ref q24, .ref q32, .int (nI 0)])), (q16, .inl (cI, 2, .inl (fun _ => nI 0))), (q24, .inl (cI, 24, .inl (fun _ => nI 0))), (q32, .inl (cI, 24, .inl (fun _ => nI 0)))] := hD
  exact hret ⟨q16, q24, q32⟩ _ _ _ _ (trivial) hP9 hD9 hS zd_G_init_37
def zr_X_init : Room := { frames := 2, cells := 14, slots := 1006, locals := 42 }
set_option maxHeartbeats 4000000 in
set_option maxRecDepth 100000 in
theorem zc_X_init (ln : Launch) (D : va_G) (cI cZ : ClassId) (sz : Nat) (aX : Nat) : Met ln zm_X_init (Cond.code zm_X_init zo_X_init 1 none :: zb_big) zr_X_init (za_Pw D vwCl [(cI, .int), (cZ, .boolean)] [.ref aX] [(aX, .inr (4, [.null, .null, .null, .null]))] sz) (va_Qv (fun (u : Nat × Nat × Nat × Nat × Nat × Nat × Nat × Nat × Nat × Nat × Nat × Nat × Nat × Nat) => True) (za_B D vwCl [(aX, .inr (4, [.null, .null, .null, .null]))] sz (fun (u : Nat × Nat × Nat × Nat × Nat × Nat × Nat × Nat × Nat × Nat × Nat × Nat × Nat × Nat) => [(aX, .inr (4, [.ref u.1, .ref u.2.2.2.1, .ref u.2.2.2.2.2.2.2.1, .ref u.2.2.2.2.2.2.2.2.2.2.1])), (u.1, .inr (0, [.ref u.2.1, .ref u.2.2.1, .int (nI 0)])), (u.2.1, .inl (cI, 96, .inl (fun _ => nI 0))), (u.2.2.1, .inl (cI, 24, .inl (fun _ => nI 0))), (u.2.2.2.1, .inr (1, [.ref u.1, .ref u.2.2.2.2.1, .ref u.2.2.2.2.2.1, .ref u.2.2.2.2.2.2.1, .int (nI 0), .int (nI 0), .int (za_bi false)])), (u.2.2.2.2.1, .inl (cI, 576, .inl (fun _ => nI 0))), (u.2.2.2.2.2.1, .inl (cI, 96, .inl (fun _ => nI 0))), (u.2.2.2.2.2.2.1, .inl (cI, 24, .inl (fun _ => nI 0))), (u.2.2.2.2.2.2.2.1, .inr (2, [.ref u.1, .ref u.2.2.2.2.2.2.2.2.1, .ref u.2.2.2.2.2.2.2.2.2.1, .int (za_bi false)])), (u.2.2.2.2.2.2.2.2.1, .inl (cI, 24, .inl (fun _ => nI 0))), (u.2.2.2.2.2.2.2.2.2.1, .inl (cI, 96, .inl (fun _ => nI 0))), (u.2.2.2.2.2.2.2.2.2.2.1, .inr (3, [.ref u.1, .ref u.2.2.2.1, .ref u.2.2.2.2.2.2.2.2.2.2.2.1, .ref u.2.2.2.2.2.2.2.2.2.2.2.2.1, .ref u.2.2.2.2.2.2.2.2.2.2.2.2.2, .int (nI 0)])), (u.2.2.2.2.2.2.2.2.2.2.2.1, .inl (cI, 2, .inl (fun _ => nI 0))), (u.2.2.2.2.2.2.2.2.2.2.2.2.1, .inl (cI, 24, .inl (fun _ => nI 0))), (u.2.2.2.2.2.2.2.2.2.2.2.2.2, .inl (cI, 24, .inl (fun _ => nI 0)))])) (va_A [(aX, .inr (4, [.null, .null, .null, .null]))] sz)) 14 1006 (va_A [(aX, .inr (4, [.null, .null, .null, .null]))] sz) := by
  refine za_wv (cc := zo_X_init) (maxL := 1) (by decide) (Nat.le_of_ble_eq_true rfl) ?_
  intro p e sg m args below meth c H0 A Q hx hb hml hts hown hmn hP hK hN hD hA hS hret ls hl
  have hP : va_P D vwCl [(aX, .inr (4, [.null, .null, .null, .null]))] H0 := hP
  have hD : va_D A [(aX, .inr (4, [.null, .null, .null, .null]))] := hD
  have hl : lv_has ls 1 [(0, .ref aX)] := hl
  have hn_N := hts _ zw_50
  have hm_N := hts _ zw_51
  have ho_N := hts _ zw_36
  have hf10 := hts _ zw_139
  have hn_L := hts _ zw_67
  have hm_L := hts _ zw_68
  have ho_L := hts _ zw_37
  have hf21 := hts _ zw_140
  have hn_C := hts _ zw_95
  have hm_C := hts _ zw_96
  have ho_C := hts _ zw_38
  have hf28 := hts _ zw_141
  have hn_G := hts _ zw_114
  have hm_G := hts _ zw_115
  have ho_G := hts _ zw_39
  have hf37 := hts _ zw_142
  refine lv_aload_n hx hb zd_X_init_0 rfl (lv_at hl 0 rfl) ?_
  refine W.objInit hx hb hown (hts _ zw_47) (hts _ zw_48) (hts _ zw_49) rfl (by rw [hml]; exact hl.1) rfl zd_X_init_1 (Nat.le_of_ble_eq_true rfl) (Nat.le_of_ble_eq_true rfl) ?_
  refine W.eq (g2 := F0 m 4 ls []) rfl ?_
  refine lv_aload_n hx hb zd_X_init_4 rfl (lv_at hl 0 rfl) ?_
  refine va_new (D := D) (ci := 0) (fs := [.null, .null, .int (nI 0)]) (C := zs_N) (T := zt_N) (N := 3) hx hb hts zi_N zy_N zk_N hown hn_N hm_N ho_N hK hP hD hS hA rfl (fun j hj => by rcases (show j = 0 ∨ j = 1 ∨ j = 2 by omega) with rfl | rfl | rfl <;> rfl) (Nat.le_of_ble_eq_true rfl) (Nat.le_of_ble_eq_true rfl) zd_X_init_5 (fun q5 H hP hD hS => ?_)
  refine W.widen (k := 1) (n := 3) (by omega) (by omega) ?_
  have hP : va_P D vwCl [(aX, .inr (4, [.null, .null, .null, .null])), (q5, .inr (0, [.null, .null, .int (nI 0)]))] H := hP
  have hD : va_D A [(aX, .inr (4, [.null, .null, .null, .null])), (q5, .inr (0, [.null, .null, .int (nI 0)]))] := hD
  refine lv_dup hx hb zd_X_init_8 rfl ?_
  refine za_wIv (As := []) (rest := [.ref q5, .ref aX]) (wr := [(aX, .inr (4, [.null, .null, .null, .null]))]) (wz := (fun u => [(aX, .inr (4, [.null, .null, .null, .null])), (q5, .inr (0, [.ref u.1, .ref u.2, .int (nI 0)])), (u.1, .inl (cI, 96, .inl (fun _ => nI 0))), (u.2, .inl (cI, 24, .inl (fun _ => nI 0)))])) ⟨hx, hb, hml, hown, hts⟩ (zc_N_init ln D cI cZ _ q5 ) (za_gI 0 hts zw_52 zw_53 zw_36 zw_54 (by decide +kernel) rfl ⟨Nat.le_of_ble_eq_true rfl, Nat.le_of_ble_eq_true rfl⟩) hK hN hP hD hS hA [1] [0] [0, 1, 2, 3] rfl rfl (by decide) (by decide) (by decide) (by decide) (fun _ => rfl) hl rfl rfl (Nat.le_of_ble_eq_true rfl) zd_X_init_9 ⟨Nat.le_of_ble_eq_true rfl, Nat.le_of_ble_eq_true rfl⟩ (fun u9 H locs hq9 hP hD hS => ?_)
  obtain ⟨aT_9, aC_9⟩ := u9
  refine W.widen (k := 3) (n := 123) (by omega) (by omega) ?_
  have hP : va_P D vwCl [(aX, .inr (4, [.null, .null, .null, .null])), (q5, .inr (0, [.ref aT_9, .ref aC_9, .int (nI 0)])), (aT_9, .inl (cI, 96, .inl (fun _ => nI 0))), (aC_9, .inl (cI, 24, .inl (fun _ => nI 0)))] H := hP
  have hD : va_D A [(aX, .inr (4, [.null, .null, .null, .null])), (q5, .inr (0, [.ref aT_9, .ref aC_9, .int (nI 0)])), (aT_9, .inl (cI, 96, .inl (fun _ => nI 0))), (aC_9, .inl (cI, 24, .inl (fun _ => nI 0)))] := hD
  refine va_putF (D := D) (ci := 4) (v := .ref q5) (ty := .object "AlikeStates$Net") (C := zs_X) (T := zt_X) (N := 4) hx hb hts zi_X zy_X zk_X zn_X hown hK hP hD hS 0 rfl rfl 0 (by decide) hf10 (fun _ h9 => h9) rfl hmn rfl (by decide +kernel) rfl rfl (Nat.le_of_ble_eq_true rfl) zd_X_init_12 (fun H locs hP hD hS => ?_)
  have hP : va_P D vwCl [(aX, .inr (4, [.ref q5, .null, .null, .null])), (q5, .inr (0, [.ref aT_9, .ref aC_9, .int (nI 0)])), (aT_9, .inl (cI, 96, .inl (fun _ => nI 0))), (aC_9, .inl (cI, 24, .inl (fun _ => nI 0)))] H := hP
  have hD : va_D A [(aX, .inr (4, [.ref q5, .null, .null, .null])), (q5, .inr (0, [.ref aT_9, .ref aC_9, .int (nI 0)])), (aT_9, .inl (cI, 96, .inl (fun _ => nI 0))), (aC_9, .inl (cI, 24, .inl (fun _ => nI 0)))] := hD
  refine lv_aload_n hx hb zd_X_init_15 rfl (lv_at hl 0 rfl) ?_
  refine va_new (D := D) (ci := 1) (fs := [.null, .null, .null, .null, .int (nI 0), .int (nI 0), .int (za_bi false)]) (C := zs_L) (T := zt_L) (N := 7) hx hb hts zi_L zy_L zk_L hown hn_L hm_L ho_L hK hP hD hS hA rfl (fun j hj => by rcases (show j = 0 ∨ j = 1 ∨ j = 2 ∨ j = 3 ∨ j = 4 ∨ j = 5 ∨ j = 6 by omega) with rfl | rfl | rfl | rfl | rfl | rfl | rfl <;> rfl) (Nat.le_of_ble_eq_true rfl) (Nat.le_of_ble_eq_true rfl) zd_X_init_16 (fun q16 H hP hD hS => ?_)
  refine W.widen (k := 4) (n := 130) (by omega) (by omega) ?_
  have hP : va_P D vwCl [(aX, .inr (4, [.ref q5, .null, .null, .null])), (q5, .inr (0, [.ref aT_9, .ref aC_9, .int (nI 0)])), (aT_9, .inl (cI, 96, .inl (fun _ => nI 0))), (aC_9, .inl (cI, 24, .inl (fun _ => nI 0))), (q16, .inr (1, [.null, .null, .null, .null, .int (nI 0), .int (nI 0), .int (za_bi false)]))] H := hP
  have hD : va_D A [(aX, .inr (4, [.ref q5, .null, .null, .null])), (q5, .inr (0, [.ref aT_9, .ref aC_9, .int (nI 0)])), (aT_9, .inl (cI, 96, .inl (fun _ => nI 0))), (aC_9, .inl (cI, 24, .inl (fun _ => nI 0))), (q16, .inr (1, [.null, .null, .null, .null, .int (nI 0), .int (nI 0), .int (za_bi false)]))] := hD
  refine lv_dup hx hb zd_X_init_19 rfl ?_
  refine lv_aload_n hx hb zd_X_init_20 rfl (lv_at hl 0 rfl) ?_
  refine va_get (D := D) (ci := 4) (v := .ref q5) (C := zs_X) (T := zt_X) (N := 4) hx hb hts zi_X hown hK hP 0 rfl rfl 0 (by decide) hf10 (fun _ h9 => h9) rfl zd_X_init_21 ?_
  refine za_wIv (As := [.ref q5]) (rest := [.ref q16, .ref aX]) (wr := [(aX, .inr (4, [.ref q5, .null, .null, .null])), (q5, .inr (0, [.ref aT_9, .ref aC_9, .int (nI 0)])), (aT_9, .inl (cI, 96, .inl (fun _ => nI 0))), (aC_9, .inl (cI, 24, .inl (fun _ => nI 0)))]) (wz := (fun u => [(aX, .inr (4, [.ref q5, .null, .null, .null])), (q5, .inr (0, [.ref aT_9, .ref aC_9, .int (nI 0)])), (aT_9, .inl (cI, 96, .inl (fun _ => nI 0))), (aC_9, .inl (cI, 24, .inl (fun _ => nI 0))), (q16, .inr (1, [.ref q5, .ref u.1, .ref u.2.1, .ref u.2.2, .int (nI 0), .int (nI 0), .int (za_bi false)])), (u.1, .inl (cI, 576, .inl (fun _ => nI 0))), (u.2.1, .inl (cI, 96, .inl (fun _ => nI 0))), (u.2.2, .inl (cI, 24, .inl (fun _ => nI 0)))])) ⟨hx, hb, hml, hown, hts⟩ (zc_L_init ln D cI cZ _ q16 q5 ) (za_gI 1 hts zw_69 zw_70 zw_37 zw_71 (by decide +kernel) rfl ⟨Nat.le_of_ble_eq_true rfl, Nat.le_of_ble_eq_true rfl⟩) hK hN hP hD hS hA [4] [0, 1, 2, 3] [0, 1, 2, 3, 4, 5, 6, 7] rfl rfl (by decide) (by decide) (by decide) (by decide) (fun _ => rfl) hl rfl rfl (Nat.le_of_ble_eq_true rfl) zd_X_init_24 ⟨Nat.le_of_ble_eq_true rfl, Nat.le_of_ble_eq_true rfl⟩ (fun u24 H locs hq24 hP hD hS => ?_)
  obtain ⟨aR_24, aU_24, aK_24⟩ := u24
  refine W.widen (k := 7) (n := 826) (by omega) (by omega) ?_
  have hP : va_P D vwCl [(aX, .inr (4, [.ref q5, .null, .null, .null])), (q5, .inr (0, [.ref aT_9, .ref aC_9, .int (nI 0)])), (aT_9, .inl (cI, 96, .inl (fun _ => nI 0))), (aC_9, .inl (cI, 24, .inl (fun _ => nI 0))), (q16, .inr (1, [.ref q5, .ref aR_24, .ref aU_24, .ref aK_24, .int (nI 0), .int (nI 0), .int (za_bi false)])), (aR_24, .inl (cI, 576, .inl (fun _ => nI 0))), (aU_24, .inl (cI, 96, .inl (fun _ => nI 0))), (aK_24, .inl (cI, 24, .inl (fun _ => nI 0)))] H := hP
  have hD : va_D A [(aX, .inr (4, [.ref q5, .null, .null, .null])), (q5, .inr (0, [.ref aT_9, .ref aC_9, .int (nI 0)])), (aT_9, .inl (cI, 96, .inl (fun _ => nI 0))), (aC_9, .inl (cI, 24, .inl (fun _ => nI 0))), (q16, .inr (1, [.ref q5, .ref aR_24, .ref aU_24, .ref aK_24, .int (nI 0), .int (nI 0), .int (za_bi false)])), (aR_24, .inl (cI, 576, .inl (fun _ => nI 0))), (aU_24, .inl (cI, 96, .inl (fun _ => nI 0))), (aK_24, .inl (cI, 24, .inl (fun _ => nI 0)))] := hD
  refine va_putF (D := D) (ci := 4) (v := .ref q16) (ty := .object "AlikeStates$Likeness") (C := zs_X) (T := zt_X) (N := 4) hx hb hts zi_X zy_X zk_X zn_X hown hK hP hD hS 0 rfl rfl 1 (by decide) hf21 (fun _ h9 => h9) rfl hmn rfl (by decide +kernel) rfl rfl (Nat.le_of_ble_eq_true rfl) zd_X_init_27 (fun H locs hP hD hS => ?_)
  have hP : va_P D vwCl [(aX, .inr (4, [.ref q5, .ref q16, .null, .null])), (q5, .inr (0, [.ref aT_9, .ref aC_9, .int (nI 0)])), (aT_9, .inl (cI, 96, .inl (fun _ => nI 0))), (aC_9, .inl (cI, 24, .inl (fun _ => nI 0))), (q16, .inr (1, [.ref q5, .ref aR_24, .ref aU_24, .ref aK_24, .int (nI 0), .int (nI 0), .int (za_bi false)])), (aR_24, .inl (cI, 576, .inl (fun _ => nI 0))), (aU_24, .inl (cI, 96, .inl (fun _ => nI 0))), (aK_24, .inl (cI, 24, .inl (fun _ => nI 0)))] H := hP
  have hD : va_D A [(aX, .inr (4, [.ref q5, .ref q16, .null, .null])), (q5, .inr (0, [.ref aT_9, .ref aC_9, .int (nI 0)])), (aT_9, .inl (cI, 96, .inl (fun _ => nI 0))), (aC_9, .inl (cI, 24, .inl (fun _ => nI 0))), (q16, .inr (1, [.ref q5, .ref aR_24, .ref aU_24, .ref aK_24, .int (nI 0), .int (nI 0), .int (za_bi false)])), (aR_24, .inl (cI, 576, .inl (fun _ => nI 0))), (aU_24, .inl (cI, 96, .inl (fun _ => nI 0))), (aK_24, .inl (cI, 24, .inl (fun _ => nI 0)))] := hD
  refine lv_aload_n hx hb zd_X_init_30 rfl (lv_at hl 0 rfl) ?_
  refine va_new (D := D) (ci := 2) (fs := [.null, .null, .null, .int (za_bi false)]) (C := zs_C) (T := zt_C) (N := 4) hx hb hts zi_C zy_C zk_C hown hn_C hm_C ho_C hK hP hD hS hA rfl (fun j hj => by rcases (show j = 0 ∨ j = 1 ∨ j = 2 ∨ j = 3 by omega) with rfl | rfl | rfl | rfl <;> rfl) (Nat.le_of_ble_eq_true rfl) (Nat.le_of_ble_eq_true rfl) zd_X_init_31 (fun q31 H hP hD hS => ?_)
  refine W.widen (k := 8) (n := 830) (by omega) (by omega) ?_
  have hP : va_P D vwCl [(aX, .inr (4, [.ref q5, .ref q16, .null, .null])), (q5, .inr (0, [.ref aT_9, .ref aC_9, .int (nI 0)])), (aT_9, .inl (cI, 96, .inl (fun _ => nI 0))), (aC_9, .inl (cI, 24, .inl (fun _ => nI 0))), (q16, .inr (1, [.ref q5, .ref aR_24, .ref aU_24, .ref aK_24, .int (nI 0), .int (nI 0), .int (za_bi false)])), (aR_24, .inl (cI, 576, .inl (fun _ => nI 0))), (aU_24, .inl (cI, 96, .inl (fun _ => nI 0))), (aK_24, .inl (cI, 24, .inl (fun _ => nI 0))), (q31, .inr (2, [.null, .null, .null, .int (za_bi false)]))] H := hP
  have hD : va_D A [(aX, .inr (4, [.ref q5, .ref q16, .null, .null])), (q5, .inr (0, [.ref aT_9, .ref aC_9, .int (nI 0)])), (aT_9, .inl (cI, 96, .inl (fun _ => nI 0))), (aC_9, .inl (cI, 24, .inl (fun _ => nI 0))), (q16, .inr (1, [.ref q5, .ref aR_24, .ref aU_24, .ref aK_24, .int (nI 0), .int (nI 0), .int (za_bi false)])), (aR_24, .inl (cI, 576, .inl (fun _ => nI 0))), (aU_24, .inl (cI, 96, .inl (fun _ => nI 0))), (aK_24, .inl (cI, 24, .inl (fun _ => nI 0))), (q31, .inr (2, [.null, .null, .null, .int (za_bi false)]))] := hD
  refine lv_dup hx hb zd_X_init_34 rfl ?_
  refine lv_aload_n hx hb zd_X_init_35 rfl (lv_at hl 0 rfl) ?_
  refine va_get (D := D) (ci := 4) (v := .ref q5) (C := zs_X) (T := zt_X) (N := 4) hx hb hts zi_X hown hK hP 0 rfl rfl 0 (by decide) hf10 (fun _ h9 => h9) rfl zd_X_init_36 ?_
  refine za_wIv (As := [.ref q5]) (rest := [.ref q31, .ref aX]) (wr := [(aX, .inr (4, [.ref q5, .ref q16, .null, .null])), (q5, .inr (0, [.ref aT_9, .ref aC_9, .int (nI 0)])), (aT_9, .inl (cI, 96, .inl (fun _ => nI 0))), (aC_9, .inl (cI, 24, .inl (fun _ => nI 0))), (q16, .inr (1, [.ref q5, .ref aR_24, .ref aU_24, .ref aK_24, .int (nI 0), .int (nI 0), .int (za_bi false)])), (aR_24, .inl (cI, 576, .inl (fun _ => nI 0))), (aU_24, .inl (cI, 96, .inl (fun _ => nI 0))), (aK_24, .inl (cI, 24, .inl (fun _ => nI 0)))]) (wz := (fun u => [(aX, .inr (4, [.ref q5, .ref q16, .null, .null])), (q5, .inr (0, [.ref aT_9, .ref aC_9, .int (nI 0)])), (aT_9, .inl (cI, 96, .inl (fun _ => nI 0))), (aC_9, .inl (cI, 24, .inl (fun _ => nI 0))), (q16, .inr (1, [.ref q5, .ref aR_24, .ref aU_24, .ref aK_24, .int (nI 0), .int (nI 0), .int (za_bi false)])), (aR_24, .inl (cI, 576, .inl (fun _ => nI 0))), (aU_24, .inl (cI, 96, .inl (fun _ => nI 0))), (aK_24, .inl (cI, 24, .inl (fun _ => nI 0))), (q31, .inr (2, [.ref q5, .ref u.1, .ref u.2, .int (za_bi false)])), (u.1, .inl (cI, 24, .inl (fun _ => nI 0))), (u.2, .inl (cI, 96, .inl (fun _ => nI 0)))])) ⟨hx, hb, hml, hown, hts⟩ (zc_C_init ln D cI cZ _ q31 q5 ) (za_gI 1 hts zw_97 zw_98 zw_38 zw_99 (by decide +kernel) rfl ⟨Nat.le_of_ble_eq_true rfl, Nat.le_of_ble_eq_true rfl⟩) hK hN hP hD hS hA [8] [0, 1, 2, 3, 4, 5, 6, 7] [0, 1, 2, 3, 4, 5, 6, 7, 8, 9, 10] rfl rfl (by decide) (by decide) (by decide) (by decide) (fun _ => rfl) hl rfl rfl (Nat.le_of_ble_eq_true rfl) zd_X_init_39 ⟨Nat.le_of_ble_eq_true rfl, Nat.le_of_ble_eq_true rfl⟩ (fun u39 H locs hq39 hP hD hS => ?_)
  obtain ⟨aB_39, aW_39⟩ := u39
  refine W.widen (k := 10) (n := 950) (by omega) (by omega) ?_
  have hP : va_P D vwCl [(aX, .inr (4, [.ref q5, .ref q16, .null, .null])), (q5, .inr (0, [.ref aT_9, .ref aC_9, .int (nI 0)])), (aT_9, .inl (cI, 96, .inl (fun _ => nI 0))), (aC_9, .inl (cI, 24, .inl (fun _ => nI 0))), (q16, .inr (1, [.ref q5, .ref aR_24, .ref aU_24, .ref aK_24, .int (nI 0), .int (nI 0), .int (za_bi false)])), (aR_24, .inl (cI, 576, .inl (fun _ => nI 0))), (aU_24, .inl (cI, 96, .inl (fun _ => nI 0))), (aK_24, .inl (cI, 24, .inl (fun _ => nI 0))), (q31, .inr (2, [.ref q5, .ref aB_39, .ref aW_39, .int (za_bi false)])), (aB_39, .inl (cI, 24, .inl (fun _ => nI 0))), (aW_39, .inl (cI, 96, .inl (fun _ => nI 0)))] H := hP
  have hD : va_D A [(aX, .inr (4, [.ref q5, .ref q16, .null, .null])), (q5, .inr (0, [.ref aT_9, .ref aC_9, .int (nI 0)])), (aT_9, .inl (cI, 96, .inl (fun _ => nI 0))), (aC_9, .inl (cI, 24, .inl (fun _ => nI 0))), (q16, .inr (1, [.ref q5, .ref aR_24, .ref aU_24, .ref aK_24, .int (nI 0), .int (nI 0), .int (za_bi false)])), (aR_24, .inl (cI, 576, .inl (fun _ => nI 0))), (aU_24, .inl (cI, 96, .inl (fun _ => nI 0))), (aK_24, .inl (cI, 24, .inl (fun _ => nI 0))), (q31, .inr (2, [.ref q5, .ref aB_39, .ref aW_39, .int (za_bi false)])), (aB_39, .inl (cI, 24, .inl (fun _ => nI 0))), (aW_39, .inl (cI, 96, .inl (fun _ => nI 0)))] := hD
  refine va_putF (D := D) (ci := 4) (v := .ref q31) (ty := .object "AlikeStates$Cover") (C := zs_X) (T := zt_X) (N := 4) hx hb hts zi_X zy_X zk_X zn_X hown hK hP hD hS 0 rfl rfl 2 (by decide) hf28 (fun _ h9 => h9) rfl hmn rfl (by decide +kernel) rfl rfl (Nat.le_of_ble_eq_true rfl) zd_X_init_42 (fun H locs hP hD hS => ?_)
  have hP : va_P D vwCl [(aX, .inr (4, [.ref q5, .ref q16, .ref q31, .null])), (q5, .inr (0, [.ref aT_9, .ref aC_9, .int (nI 0)])), (aT_9, .inl (cI, 96, .inl (fun _ => nI 0))), (aC_9, .inl (cI, 24, .inl (fun _ => nI 0))), (q16, .inr (1, [.ref q5, .ref aR_24, .ref aU_24, .ref aK_24, .int (nI 0), .int (nI 0), .int (za_bi false)])), (aR_24, .inl (cI, 576, .inl (fun _ => nI 0))), (aU_24, .inl (cI, 96, .inl (fun _ => nI 0))), (aK_24, .inl (cI, 24, .inl (fun _ => nI 0))), (q31, .inr (2, [.ref q5, .ref aB_39, .ref aW_39, .int (za_bi false)])), (aB_39, .inl (cI, 24, .inl (fun _ => nI 0))), (aW_39, .inl (cI, 96, .inl (fun _ => nI 0)))] H := hP
  have hD : va_D A [(aX, .inr (4, [.ref q5, .ref q16, .ref q31, .null])), (q5, .inr (0, [.ref aT_9, .ref aC_9, .int (nI 0)])), (aT_9, .inl (cI, 96, .inl (fun _ => nI 0))), (aC_9, .inl (cI, 24, .inl (fun _ => nI 0))), (q16, .inr (1, [.ref q5, .ref aR_24, .ref aU_24, .ref aK_24, .int (nI 0), .int (nI 0), .int (za_bi false)])), (aR_24, .inl (cI, 576, .inl (fun _ => nI 0))), (aU_24, .inl (cI, 96, .inl (fun _ => nI 0))), (aK_24, .inl (cI, 24, .inl (fun _ => nI 0))), (q31, .inr (2, [.ref q5, .ref aB_39, .ref aW_39, .int (za_bi false)])), (aB_39, .inl (cI, 24, .inl (fun _ => nI 0))), (aW_39, .inl (cI, 96, .inl (fun _ => nI 0)))] := hD
  refine lv_aload_n hx hb zd_X_init_45 rfl (lv_at hl 0 rfl) ?_
  refine va_new (D := D) (ci := 3) (fs := [.null, .null, .null, .null, .null, .int (nI 0)]) (C := zs_G) (T := zt_G) (N := 6) hx hb hts zi_G zy_G zk_G hown hn_G hm_G ho_G hK hP hD hS hA rfl (fun j hj => by rcases (show j = 0 ∨ j = 1 ∨ j = 2 ∨ j = 3 ∨ j = 4 ∨ j = 5 by omega) with rfl | rfl | rfl | rfl | rfl | rfl <;> rfl) (Nat.le_of_ble_eq_true rfl) (Nat.le_of_ble_eq_true rfl) zd_X_init_46 (fun q46 H hP hD hS => ?_)
  refine W.widen (k := 11) (n := 956) (by omega) (by omega) ?_
  have hP : va_P D vwCl [(aX, .inr (4, [.ref q5, .ref q16, .ref q31, .null])), (q5, .inr (0, [.ref aT_9, .ref aC_9, .int (nI 0)])), (aT_9, .inl (cI, 96, .inl (fun _ => nI 0))), (aC_9, .inl (cI, 24, .inl (fun _ => nI 0))), (q16, .inr (1, [.ref q5, .ref aR_24, .ref aU_24, .ref aK_24, .int (nI 0), .int (nI 0), .int (za_bi false)])), (aR_24, .inl (cI, 576, .inl (fun _ => nI 0))), (aU_24, .inl (cI, 96, .inl (fun _ => nI 0))), (aK_24, .inl (cI, 24, .inl (fun _ => nI 0))), (q31, .inr (2, [.ref q5, .ref aB_39, .ref aW_39, .int (za_bi false)])), (aB_39, .inl (cI, 24, .inl (fun _ => nI 0))), (aW_39, .inl (cI, 96, .inl (fun _ => nI 0))), (q46, .inr (3, [.null, .null, .null, .null, .null, .int (nI 0)]))] H := hP
  have hD : va_D A [(aX, .inr (4, [.ref q5, .ref q16, .ref q31, .null])), (q5, .inr (0, [.ref aT_9, .ref aC_9, .int (nI 0)])), (aT_9, .inl (cI, 96, .inl (fun _ => nI 0))), (aC_9, .inl (cI, 24, .inl (fun _ => nI 0))), (q16, .inr (1, [.ref q5, .ref aR_24, .ref aU_24, .ref aK_24, .int (nI 0), .int (nI 0), .int (za_bi false)])), (aR_24, .inl (cI, 576, .inl (fun _ => nI 0))), (aU_24, .inl (cI, 96, .inl (fun _ => nI 0))), (aK_24, .inl (cI, 24, .inl (fun _ => nI 0))), (q31, .inr (2, [.ref q5, .ref aB_39, .ref aW_39, .int (za_bi false)])), (aB_39, .inl (cI, 24, .inl (fun _ => nI 0))), (aW_39, .inl (cI, 96, .inl (fun _ => nI 0))), (q46, .inr (3, [.null, .null, .null, .null, .null, .int (nI 0)]))] := hD
  refine lv_dup hx hb zd_X_init_49 rfl ?_
  refine lv_aload_n hx hb zd_X_init_50 rfl (lv_at hl 0 rfl) ?_
  refine va_get (D := D) (ci := 4) (v := .ref q5) (C := zs_X) (T := zt_X) (N := 4) hx hb hts zi_X hown hK hP 0 rfl rfl 0 (by decide) hf10 (fun _ h9 => h9) rfl zd_X_init_51 ?_
  refine lv_aload_n hx hb zd_X_init_54 rfl (lv_at hl 0 rfl) ?_
  refine va_get (D := D) (ci := 4) (v := .ref q16) (C := zs_X) (T := zt_X) (N := 4) hx hb hts zi_X hown hK hP 0 rfl rfl 1 (by decide) hf21 (fun _ h9 => h9) rfl zd_X_init_55 ?_
  refine za_wIv (As := [.ref q5, .ref q16]) (rest := [.ref q46, .ref aX]) (wr := [(aX, .inr (4, [.ref q5, .ref q16, .ref q31, .null])), (q5, .inr (0, [.ref aT_9, .ref aC_9, .int (nI 0)])), (aT_9, .inl (cI, 96, .inl (fun _ => nI 0))), (aC_9, .inl (cI, 24, .inl (fun _ => nI 0))), (q16, .inr (1, [.ref q5, .ref aR_24, .ref aU_24, .ref aK_24, .int (nI 0), .int (nI 0), .int (za_bi false)])), (aR_24, .inl (cI, 576, .inl (fun _ => nI 0))), (aU_24, .inl (cI, 96, .inl (fun _ => nI 0))), (aK_24, .inl (cI, 24, .inl (fun _ => nI 0))), (q31, .inr (2, [.ref q5, .ref aB_39, .ref aW_39, .int (za_bi false)])), (aB_39, .inl (cI, 24, .inl (fun _ => nI 0))), (aW_39, .inl (cI, 96, .inl (fun _ => nI 0)))]) (wz := (fun u => [(aX, .inr (4, [.ref q5, .ref q16, .ref q31, .null])), (q5, .inr (0, [.ref aT_9, .ref aC_9, .int (nI 0)])), (aT_9, .inl (cI, 96, .inl (fun _ => nI 0))), (aC_9, .inl (cI, 24, .inl (fun _ => nI 0))), (q16, .inr (1, [.ref q5, .ref aR_24, .ref aU_24, .ref aK_24, .int (nI 0), .int (nI 0), .int (za_bi false)])), (aR_24, .inl (cI, 576, .inl (fun _ => nI 0))), (aU_24, .inl (cI, 96, .inl (fun _ => nI 0))), (aK_24, .inl (cI, 24, .inl (fun _ => nI 0))), (q31, .inr (2, [.ref q5, .ref aB_39, .ref aW_39, .int (za_bi false)])), (aB_39, .inl (cI, 24, .inl (fun _ => nI 0))), (aW_39, .inl (cI, 96, .inl (fun _ => nI 0))), (q46, .inr (3, [.ref q5, .ref q16, .ref u.1, .ref u.2.1, .ref u.2.2, .int (nI 0)])), (u.1, .inl (cI, 2, .inl (fun _ => nI 0))), (u.2.1, .inl (cI, 24, .inl (fun _ => nI 0))), (u.2.2, .inl (cI, 24, .inl (fun _ => nI 0)))])) ⟨hx, hb, hml, hown, hts⟩ (zc_G_init ln D cI cZ _ q46 q5 q16 ) (za_gI 2 hts zw_116 zw_117 zw_39 zw_118 (by decide +kernel) rfl ⟨Nat.le_of_ble_eq_true rfl, Nat.le_of_ble_eq_true rfl⟩) hK hN hP hD hS hA [11] [0, 1, 2, 3, 4, 5, 6, 7, 8, 9, 10] [0, 1, 2, 3, 4, 5, 6, 7, 8, 9, 10, 11, 12, 13, 14] rfl rfl (by decide) (by decide) (by decide) (by decide) (fun _ => rfl) hl rfl rfl (Nat.le_of_ble_eq_true rfl) zd_X_init_58 ⟨Nat.le_of_ble_eq_true rfl, Nat.le_of_ble_eq_true rfl⟩ (fun u58 H locs hq58 hP hD hS => ?_)
  obtain ⟨aS_58, aM_58, aA_58⟩ := u58
  refine W.widen (k := 14) (n := 1006) (by omega) (by omega) ?_
  have hP : va_P D vwCl [(aX, .inr (4, [.ref q5, .ref q16, .ref q31, .null])), (q5, .inr (0, [.ref aT_9, .ref aC_9, .int (nI 0)])), (aT_9, .inl (cI, 96, .inl (fun _ => nI 0))), (aC_9, .inl (cI, 24, .inl (fun _ => nI 0))), (q16, .inr (1, [.ref q5, .ref aR_24, .ref aU_24, .ref aK_24, .int (nI 0), .int (nI 0), .int (za_bi false)])), (aR_24, .inl (cI, 576, .inl (fun _ => nI 0))), (aU_24, .inl (cI, 96, .inl (fun _ => nI 0))), (aK_24, .inl (cI, 24, .inl (fun _ => nI 0))), (q31, .inr (2, [.ref q5, .ref aB_39, .ref aW_39, .int (za_bi false)])), (aB_39, .inl (cI, 24, .inl (fun _ => nI 0))), (aW_39, .inl (cI, 96, .inl (fun _ => nI 0))), (q46, .inr (3, [.ref q5, .ref q16, .ref aS_58, .ref aM_58, .ref aA_58, .int (nI 0)])), (aS_58, .inl (cI, 2, .inl (fun _ => nI 0))), (aM_58, .inl (cI, 24, .inl (fun _ => nI 0))), (aA_58, .inl (cI, 24, .inl (fun _ => nI 0)))] H := hP
  have hD : va_D A [(aX, .inr (4, [.ref q5, .ref q16, .ref q31, .null])), (q5, .inr (0, [.ref aT_9, .ref aC_9, .int (nI 0)])), (aT_9, .inl (cI, 96, .inl (fun _ => nI 0))), (aC_9, .inl (cI, 24, .inl (fun _ => nI 0))), (q16, .inr (1, [.ref q5, .ref aR_24, .ref aU_24, .ref aK_24, .int (nI 0), .int (nI 0), .int (za_bi false)])), (aR_24, .inl (cI, 576, .inl (fun _ => nI 0))), (aU_24, .inl (cI, 96, .inl (fun _ => nI 0))), (aK_24, .inl (cI, 24, .inl (fun _ => nI 0))), (q31, .inr (2, [.ref q5, .ref aB_39, .ref aW_39, .int (za_bi false)])), (aB_39, .inl (cI, 24, .inl (fun _ => nI 0))), (aW_39, .inl (cI, 96, .inl (fun _ => nI 0))), (q46, .inr (3, [.ref q5, .ref q16, .ref aS_58, .ref aM_58, .ref aA_58, .int (nI 0)])), (aS_58, .inl (cI, 2, .inl (fun _ => nI 0))), (aM_58, .inl (cI, 24, .inl (fun _ => nI 0))), (aA_58, .inl (cI, 24, .inl (fun _ => nI 0)))] := hD
  refine va_putF (D := D) (ci := 4) (v := .ref q46) (ty := .object "AlikeStates$Game") (C := zs_X) (T := zt_X) (N := 4) hx hb hts zi_X zy_X zk_X zn_X hown hK hP hD hS 0 rfl rfl 3 (by decide) hf37 (fun _ h9 => h9) rfl hmn rfl (by decide +kernel) rfl rfl (Nat.le_of_ble_eq_true rfl) zd_X_init_61 (fun H locs hP hD hS => ?_)
  have hP : va_P D vwCl [(aX, .inr (4, [.ref q5, .ref q16, .ref q31, .ref q46])), (q5, .inr (0, [.ref aT_9, .ref aC_9, .int (nI 0)])), (aT_9, .inl (cI, 96, .inl (fun _ => nI 0))), (aC_9, .inl (cI, 24, .inl (fun _ => nI 0))), (q16, .inr (1, [.ref q5, .ref aR_24, .ref aU_24, .ref aK_24, .int (nI 0), .int (nI 0), .int (za_bi false)])), (aR_24, .inl (cI, 576, .inl (fun _ => nI 0))), (aU_24, .inl (cI, 96, .inl (fun _ => nI 0))), (aK_24, .inl (cI, 24, .inl (fun _ => nI 0))), (q31, .inr (2, [.ref q5, .ref aB_39, .ref aW_39, .int (za_bi false)])), (aB_39, .inl (cI, 24, .inl (fun _ => nI 0))), (aW_39, .inl (cI, 96, .inl (fun _ => nI 0))), (q46, .inr (3, [.ref q5, .ref q16, .ref aS_58, .ref aM_58, .ref aA_58, .int (nI 0)])), (aS_58, .inl (cI, 2, .inl (fun _ => nI 0))), (aM_58, .inl (cI, 24, .inl (fun _ => nI 0))), (aA_58, .inl (cI, 24, .inl (fun _ => nI 0)))] H := hP
  have hD : va_D A [(aX, .inr (4, [.ref q5, .ref q16, .ref q31, .ref q46])), (q5, .inr (0, [.ref aT_9, .ref aC_9, .int (nI 0)])), (aT_9, .inl (cI, 96, .inl (fun _ => nI 0))), (aC_9, .inl (cI, 24, .inl (fun _ => nI 0))), (q16, .inr (1, [.ref q5, .ref aR_24, .ref aU_24, .ref aK_24, .int (nI 0), .int (nI 0), .int (za_bi false)])), (aR_24, .inl (cI, 576, .inl (fun _ => nI 0))), (aU_24, .inl (cI, 96, .inl (fun _ => nI 0))), (aK_24, .inl (cI, 24, .inl (fun _ => nI 0))), (q31, .inr (2, [.ref q5, .ref aB_39, .ref aW_39, .int (za_bi false)])), (aB_39, .inl (cI, 24, .inl (fun _ => nI 0))), (aW_39, .inl (cI, 96, .inl (fun _ => nI 0))), (q46, .inr (3, [.ref q5, .ref q16, .ref aS_58, .ref aM_58, .ref aA_58, .int (nI 0)])), (aS_58, .inl (cI, 2, .inl (fun _ => nI 0))), (aM_58, .inl (cI, 24, .inl (fun _ => nI 0))), (aA_58, .inl (cI, 24, .inl (fun _ => nI 0)))] := hD
  have hP9 : va_P D vwCl [(aX, .inr (4, [.ref q5, .ref q16, .ref q31, .ref q46])), (q5, .inr (0, [.ref aT_9, .ref aC_9, .int (nI 0)])), (aT_9, .inl (cI, 96, .inl (fun _ => nI 0))), (aC_9, .inl (cI, 24, .inl (fun _ => nI 0))), (q16, .inr (1, [.ref q5, .ref aR_24, .ref aU_24, .ref aK_24, .int (nI 0), .int (nI 0), .int (za_bi false)])), (aR_24, .inl (cI, 576, .inl (fun _ => nI 0))), (aU_24, .inl (cI, 96, .inl (fun _ => nI 0))), (aK_24, .inl (cI, 24, .inl (fun _ => nI 0))), (q31, .inr (2, [.ref q5, .ref aB_39, .ref aW_39, .int (za_bi false)])), (aB_39, .inl (cI, 24, .inl (fun _ => nI 0))), (aW_39, .inl (cI, 96, .inl (fun _ => nI 0))), (q46, .inr (3, [.ref q5, .ref q16, .ref aS_58, .ref aM_58, .ref aA_58, .int (nI 0)])), (aS_58, .inl (cI, 2, .inl (fun _ => nI 0))), (aM_58, .inl (cI, 24, .inl (fun _ => nI 0))), (aA_58, .inl (cI, 24, .inl (fun _ => nI 0)))] H := hP
  have hD9 : va_D A [(aX, .inr (4, [.ref q5, .ref q16, .ref q31, .ref q46])), (q5, .inr (0, [.ref aT_9, .ref aC_9, .int (nI 0)])), (aT_9, .inl (cI, 96, .inl (fun _ => nI 0))), (aC_9, .inl (cI, 24, .inl (fun _ => nI 0))), (q16, .inr (1, [.ref q5, .ref aR_24, .ref aU_24, .ref aK_24, .int (nI 0), .int (nI 0), .int (za_bi false)])), (aR_24, .inl (cI, 576, .inl (fun _ => nI 0))), (aU_24, .inl (cI, 96, .inl (fun _ => nI 0))), (aK_24, .inl (cI, 24, .inl (fun _ => nI 0))), (q31, .inr (2, [.ref q5, .ref aB_39, .ref aW_39, .int (za_bi false)])), (aB_39, .inl (cI, 24, .inl (fun _ => nI 0))), (aW_39, .inl (cI, 96, .inl (fun _ => nI 0))), (q46, .inr (3, [.ref q5, .ref q16, .ref aS_58, .ref aM_58, .ref aA_58, .int (nI 0)])), (aS_58, .inl (cI, 2, .inl (fun _ => nI 0))), (aM_58, .inl (cI, 24, .inl (fun _ => nI 0))), (aA_58, .inl (cI, 24, .inl (fun _ => nI 0)))] := hD
  exact hret ⟨q5, aT_9, aC_9, q16, aR_24, aU_24, aK_24, q31, aB_39, aW_39, q46, aS_58, aM_58, aA_58⟩ _ _ _ _ (trivial) hP9 hD9 hS zd_X_init_64
