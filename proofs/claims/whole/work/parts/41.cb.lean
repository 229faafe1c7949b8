def zr_L_forget : Room := { frames := 0, cells := 0, slots := 0, locals := 0 }
set_option maxHeartbeats 4000000 in
set_option maxRecDepth 100000 in
theorem zc_L_forget (ln : Launch) (D : va_G) (cI cZ : ClassId) (sz : Nat) (aL : Nat) (aN : Nat) (aR : Nat) (aU : Nat) (aK : Nat) (lr : Nat) (kc : Nat) (sd : Bool) : Met ln zm_L_forget (Cond.code zm_L_forget zo_L_forget 1 none :: zb_big) zr_L_forget (za_Pw D vwCl [(cI, .int), (cZ, .boolean)] [.ref aL] [(aL, .inr (1, [.ref aN, .ref aR, .ref aU, .ref aK, .int (nI lr), .int (nI kc), .int (za_bi sd)]))] sz) (va_Qv (fun (_u : Unit) => True) (za_B D vwCl [(aL, .inr (1, [.ref aN, .ref aR, .ref aU, .ref aK, .int (nI lr), .int (nI kc), .int (za_bi sd)]))] sz (fun (_u : Unit) => [(aL, .inr (1, [.ref aN, .ref aR, .ref aU, .ref aK, .int (nI lr), .int (nI kc), .int (za_bi false)]))])) (va_A [(aL, .inr (1, [.ref aN, .ref aR, .ref aU, .ref aK, .int (nI lr), .int (nI kc), .int (za_bi sd)]))] sz)) 0 0 (va_A [(aL, .inr (1, [.ref aN, .ref aR, .ref aU, .ref aK, .int (nI lr), .int (nI kc), .int (za_bi sd)]))] sz) := by
  refine za_wv (cc := zo_L_forget) (maxL := 1) (by decide) (Nat.le_of_ble_eq_true rfl) ?_
  intro p e sg m args below meth c H0 A Q hx hb hml hts hown hmn hP hK hN hD hA hS hret ls hl
  have hP : va_P D vwCl [(aL, .inr (1, [.ref aN, .ref aR, .ref aU, .ref aK, .int (nI lr), .int (nI kc), .int (za_bi sd)]))] H0 := hP
  have hD : va_D A [(aL, .inr (1, [.ref aN, .ref aR, .ref aU, .ref aK, .int (nI lr), .int (nI kc), .int (za_bi sd)]))] := hD
  have hl : lv_has ls 1 [(0, .ref aL)] := hl
  have hf25 := hts _ zw_79
  refine lv_aload_n hx hb zd_L_forget_0 rfl (lv_at hl 0 rfl) ?_
  refine lv_iconst (v := nI 0) hx hb zd_L_forget_1 (by decide) ?_
  refine za_eqi (y := za_bi false) rfl ?_
  refine va_put (D := D) (ci := 1) (v := .int (za_bi false)) (ty := .boolean) (C := zs_L) (T := zt_L) (N := 7) hx hb hts zi_L zy_L zk_L zn_L hown hK hP hD hS 0 rfl rfl 6 (by decide) hf25 (fun _ h9 => h9) rfl (by decide +kernel) (za_nar _) (za_fit _) (Nat.le_of_ble_eq_true rfl) zd_L_forget_2 (fun H locs hP hD hS => ?_)
  have hP : va_P D vwCl [(aL, .inr (1, [.ref aN, .ref aR, .ref aU, .ref aK, .int (nI lr), .int (nI kc), .int (za_bi false)]))] H := hP
  have hD : va_D A [(aL, .inr (1, [.ref aN, .ref aR, .ref aU, .ref aK, .int (nI lr), .int (nI kc), .int (za_bi false)]))] := hD
  have hP9 : va_P D vwCl [(aL, .inr (1, [.ref aN, .ref aR, .ref aU, .ref aK, .int (nI lr), .int (nI kc), .int (za_bi false)]))] H := hP
  have hD9 : va_D A [(aL, .inr (1, [.ref aN, .ref aR, .ref aU, .ref aK, .int (nI lr), .int (nI kc), .int (za_bi false)]))] := hD
  exact hret () _ _ _ _ (trivial) hP9 hD9 hS zd_L_forget_5
def zr_L_movesAlike : Room := { frames := 0, cells := 0, slots := 0, locals := 0 }
set_option maxHeartbeats 4000000 in
set_option maxRecDepth 100000 in
theorem zc_L_movesAlike (ln : Launch) (D : va_G) (cI cZ : ClassId) (aL : Nat) (aN : Nat) (aR : Nat) (aU : Nat) (aK : Nat) (lr : Nat) (kc : Nat) (sd : Bool) (Un : Nat → Int32) (s : Nat) (t : Nat) (hs0 : s < 24) (ht0 : t < 24) : Met ln zm_L_movesAlike (Cond.code zm_L_movesAlike zo_L_movesAlike 4 (some .boolean) :: zb_big) zr_L_movesAlike (za_Pr D vwCl [(cI, .int), (cZ, .boolean)] [.ref aL, .int (nI s), .int (nI t)] [(aL, .inr (1, [.ref aN, .ref aR, .ref aU, .ref aK, .int (nI lr), .int (nI kc), .int (za_bi sd)])), (aU, .inl (cI, 96, .inl Un))]) (vp_Si (fun r => r = za_bi (za_mvA Un s t))) 0 0 (fun _ => False) := by
  refine za_reader (cc := zo_L_movesAlike) (maxL := 4) (ty := .boolean) (by decide) (Nat.le_of_ble_eq_true rfl) (fun _ h => by rw [h]; exact za_nar _) ?_
  intro p e sg m args below meth c H Q hx hb hml hts hown hP hK hN hret ls hl
  have hP : va_P D vwCl [(aL, .inr (1, [.ref aN, .ref aR, .ref aU, .ref aK, .int (nI lr), .int (nI kc), .int (za_bi sd)])), (aU, .inl (cI, 96, .inl Un))] H := hP
  have hl : lv_has ls 4 [(0, .ref aL), (1, .int (nI s)), (2, .int (nI t))] := hl
  have hf19 := hts _ zw_75
  refine lv_iconst (v := nI 0) hx hb zd_L_movesAlike_0 (by decide) ?_
  refine lv_istore_n (lv' := [(3, .int (nI 0)), (0, .ref aL), (1, .int (nI s)), (2, .int (nI t))]) hx hb zd_L_movesAlike_1 rfl hl (by decide) rfl (fun ls hl => ?_)
  have hC2 : ∀ (n2 : Nat) (i : Nat) (ls : Array Slot), 4 - i < n2 → i ≤ 4 → (∀ j, j < i → (fun x => decide (Un (s * 4 + x) = Un (t * 4 + x))) j = true) → lv_has ls 4 [(0, .ref aL), (1, .int (nI s)), (2, .int (nI t)), (3, .int (nI i))] → W p ln e zr_L_movesAlike sg m args below meth c H [] 0 0 Q (F0 m 2 ls []) := by
    intro n2
    induction n2 with
    | zero => intro i ls hn2 hi_i hq hl; exact absurd hn2 (Nat.not_lt_zero _)
    | succ n2 ih2 =>
      intro i ls hn2 hi_i hq hl
      refine lv_iload_n hx hb zd_L_movesAlike_2 rfl (lv_at hl 3 rfl) ?_
      refine lv_iconst (v := nI 4) hx hb zd_L_movesAlike_3 (by decide) ?_
      refine lv_icmp_ge hx hb (tgt := 38) zd_L_movesAlike_4 (by decide) (fun h4 => ?_) (fun h4 => ?_)
      · have h4 := za_leN h4 (by omega) (by omega)
        refine lv_iconst (v := nI 1) hx hb zd_L_movesAlike_38 (by decide) ?_
        exact hret _ _ _ (za_b1 (by exact za_al_iff.mpr (fun j hj => hq j (by omega)))) zd_L_movesAlike_39
      · have h4 := za_nleN h4 (by omega) (by omega)
        refine lv_aload_n hx hb zd_L_movesAlike_7 rfl (lv_at hl 0 rfl) ?_
        refine va_get (D := D) (ci := 1) (v := .ref aU) (C := zs_L) (T := zt_L) (N := 7) hx hb hts zi_L hown hK hP 0 rfl rfl 2 (by decide) hf19 (fun _ h9 => h9) rfl zd_L_movesAlike_8 ?_
        refine lv_iload_n hx hb zd_L_movesAlike_11 rfl (lv_at hl 1 rfl) ?_
        refine lv_iconst (v := nI 4) hx hb zd_L_movesAlike_12 (by decide) ?_
        refine za_mulN hx hb zd_L_movesAlike_13 ?_
        refine lv_iload_n hx hb zd_L_movesAlike_14 rfl (lv_at hl 3 rfl) ?_
        refine za_addN hx hb zd_L_movesAlike_15 ?_
        refine za_ild hx hb hK hP 1 0 rfl rfl (k := (s * 4) + i) (by omega) (by decide) zd_L_movesAlike_16 ?_
        refine lv_aload_n hx hb zd_L_movesAlike_17 rfl (lv_at hl 0 rfl) ?_
        refine va_get (D := D) (ci := 1) (v := .ref aU) (C := zs_L) (T := zt_L) (N := 7) hx hb hts zi_L hown hK hP 0 rfl rfl 2 (by decide) hf19 (fun _ h9 => h9) rfl zd_L_movesAlike_18 ?_
        refine lv_iload_n hx hb zd_L_movesAlike_21 rfl (lv_at hl 2 rfl) ?_
        refine lv_iconst (v := nI 4) hx hb zd_L_movesAlike_22 (by decide) ?_
        refine za_mulN hx hb zd_L_movesAlike_23 ?_
        refine lv_iload_n hx hb zd_L_movesAlike_24 rfl (lv_at hl 3 rfl) ?_
        refine za_addN hx hb zd_L_movesAlike_25 ?_
        refine za_ild hx hb hK hP 1 0 rfl rfl (k := (t * 4) + i) (by omega) (by decide) zd_L_movesAlike_26 ?_
        refine lv_icmp_eq hx hb (tgt := 32) zd_L_movesAlike_27 (by decide) (fun h27 => ?_) (fun h27 => ?_)
        · skip
          refine lv_iinc (k := 3) (v := nI (i + 1)) (lv' := [(3, .int (nI (i + 1))), (0, .ref aL), (1, .int (nI s)), (2, .int (nI t))]) hx hb zd_L_movesAlike_32 hl rfl (za_inc _) (by decide) rfl (fun ls hl => ?_)
          refine lv_goto hx hb (tgt := 2) zd_L_movesAlike_35 (by decide) ?_
          exact ih2 (i + 1) ls (by omega) (by omega) (by exact za_all_s (p := (fun x => decide (Un (s * 4 + x) = Un (t * 4 + x)))) hq (by simp [h27])) (lv_sub hl [1, 2, 3, 0] rfl)
        · skip
          refine lv_iconst (v := nI 0) hx hb zd_L_movesAlike_30 (by decide) ?_
          exact hret _ _ _ (za_b0 (by exact za_al_f (i := i) (by omega) (by simp [h27]))) zd_L_movesAlike_31
  exact hC2 (4 - 0 + 1) 0 ls (Nat.lt_succ_self _) (by omega) (by exact za_all_0) (lv_sub hl [1, 2, 3, 0] rfl)
def zr_L_stillAlike : Room := { frames := 1, cells := 0, slots := 0, locals := 23 }
set_option maxHeartbeats 4000000 in
set_option maxRecDepth 100000 in
theorem zc_L_stillAlike (ln : Launch) (D : va_G) (cI cZ : ClassId) (aL : Nat) (aN : Nat) (aR : Nat) (aU : Nat) (aK : Nat) (lr : Nat) (kc : Nat) (sd : Bool) (Un : Nat → Int32) (s : Nat) (w : Int32) (hs0 : s < 24) : Met ln zm_L_stillAlike (Cond.code zm_L_stillAlike zo_L_stillAlike 5 (some .int) :: zb_big) zr_L_stillAlike (za_Pr D vwCl [(cI, .int), (cZ, .boolean)] [.ref aL, .int (nI s), .int w] [(aL, .inr (1, [.ref aN, .ref aR, .ref aU, .ref aK, .int (nI lr), .int (nI kc), .int (za_bi sd)])), (aU, .inl (cI, 96, .inl Un))]) (vp_Si (fun r => r = za_st w Un s)) 0 0 (fun _ => False) := by
  refine za_reader (cc := zo_L_stillAlike) (maxL := 5) (ty := .int) (by decide) (Nat.le_of_ble_eq_true rfl) (fun _ _ => rfl) ?_
  intro p e sg m args below meth c H Q hx hb hml hts hown hP hK hN hret ls hl
  have hP : va_P D vwCl [(aL, .inr (1, [.ref aN, .ref aR, .ref aU, .ref aK, .int (nI lr), .int (nI kc), .int (za_bi sd)])), (aU, .inl (cI, 96, .inl Un))] H := hP
  have hl : lv_has ls 5 [(0, .ref aL), (1, .int (nI s)), (2, .int w)] := hl
  refine lv_iconst (v := nI 0) hx hb zd_L_stillAlike_0 (by decide) ?_
  refine lv_istore_n (lv' := [(3, .int (nI 0)), (0, .ref aL), (1, .int (nI s)), (2, .int w)]) hx hb zd_L_stillAlike_1 rfl hl (by decide) rfl (fun ls hl => ?_)
  refine lv_iconst (v := nI 0) hx hb zd_L_stillAlike_2 (by decide) ?_
  refine lv_istore (lv' := [(4, .int (nI 0)), (3, .int (nI 0)), (0, .ref aL), (1, .int (nI s)), (2, .int w)]) hx hb zd_L_stillAlike_3 hl (by decide) rfl (fun ls hl => ?_)
  have hC5 : ∀ (n5 : Nat) (i : Nat) (ls : Array Slot), 24 - i < n5 → i ≤ 24 → lv_has ls 5 [(0, .ref aL), (1, .int (nI s)), (2, .int w), (3, .int (za_mk (fun x => bt w x && za_mvA Un s x) i)), (4, .int (nI i))] → W p ln e zr_L_stillAlike sg m args below meth c H [] 0 0 Q (F0 m 5 ls []) := by
    intro n5
    induction n5 with
    | zero => intro i ls hn5 hi_i hl; exact absurd hn5 (Nat.not_lt_zero _)
    | succ n5 ih5 =>
      intro i ls hn5 hi_i hl
      refine lv_iload hx hb zd_L_stillAlike_5 (lv_at hl 4 rfl) ?_
      refine lv_bipush (v := nI 24) hx hb zd_L_stillAlike_7 (by decide) ?_
      refine lv_icmp_ge hx hb (tgt := 44) zd_L_stillAlike_9 (by decide) (fun h9 => ?_) (fun h9 => ?_)
      · have h9 := za_leN h9 (by omega) (by omega)
        refine lv_iload_n hx hb zd_L_stillAlike_44 rfl (lv_at hl 3 rfl) ?_
        exact hret _ _ _ (by first | with_reducible rfl | (unfold za_st; congr 1; omega)) zd_L_stillAlike_45
      · have h9 := za_nleN h9 (by omega) (by omega)
        refine lv_iload_n hx hb zd_L_stillAlike_12 rfl (lv_at hl 2 rfl) ?_
        refine lv_iload hx hb zd_L_stillAlike_13 (lv_at hl 4 rfl) ?_
        refine za_cSN (As := [.int w, .int (nI i)]) (rest := []) ⟨hx, hb, hml, hown, hts⟩ (zc_X_hasBit ln D cI cZ w i (by omega)) (za_gSN 2 hts hN.2.1 zw_177 zw_35 zw_178 (by decide +kernel) ⟨Nat.le_of_ble_eq_true rfl, Nat.le_of_ble_eq_true rfl⟩) hK hN hP [] rfl hl rfl rfl (Nat.le_of_ble_eq_true rfl) zd_L_stillAlike_15 ⟨Nat.le_of_ble_eq_true rfl, Nat.le_of_ble_eq_true rfl⟩ ?_
        refine lv_if_eq hx hb (tgt := 38) zd_L_stillAlike_18 (by decide) (fun h18 => ?_) (fun h18 => ?_)
        · have h18 := za_bF h18
          refine lv_iinc (k := 4) (v := nI (i + 1)) (lv' := [(4, .int (nI (i + 1))), (0, .ref aL), (1, .int (nI s)), (2, .int w), (3, .int (za_mk (fun x => bt w x && za_mvA Un s x) i))]) hx hb zd_L_stillAlike_38 hl rfl (za_inc _) (by decide) rfl (fun ls hl => ?_)
          refine lv_goto hx hb (tgt := 5) zd_L_stillAlike_41 (by decide) ?_
          have e1 : za_mk (fun x => bt w x && za_mvA Un s x) (i + 1) = za_mk (fun x => bt w x && za_mvA Un s x) i := by first | with_reducible rfl | (simp [za_mk, h9, h18])
          exact ih5 (i + 1) ls (by omega) (by omega) (by rw [e1]; exact lv_sub hl [1, 2, 3, 4, 0] rfl)
        · have h18 := za_bT h18
          refine lv_aload_n hx hb zd_L_stillAlike_21 rfl (lv_at hl 0 rfl) ?_
          refine lv_iload_n hx hb zd_L_stillAlike_22 rfl (lv_at hl 1 rfl) ?_
          refine lv_iload hx hb zd_L_stillAlike_23 (lv_at hl 4 rfl) ?_
          refine za_cV (As := [.int (nI s), .int (nI i)]) (rest := []) ⟨hx, hb, hml, hown, hts⟩ (zc_L_movesAlike ln D cI cZ aL aN aR aU aK lr kc sd Un s i (by omega) (by omega)) (za_gV 2 hts zw_263 zw_265 zw_5 zw_37 zw_266 (by decide +kernel) ⟨Nat.le_of_ble_eq_true rfl, Nat.le_of_ble_eq_true rfl⟩) hK hN hP [0, 1] rfl (q0 := 0) rfl rfl hl rfl rfl (Nat.le_of_ble_eq_true rfl) zd_L_stillAlike_25 ⟨Nat.le_of_ble_eq_true rfl, Nat.le_of_ble_eq_true rfl⟩ ?_
          refine lv_if_eq hx hb (tgt := 38) zd_L_stillAlike_28 (by decide) (fun h28 => ?_) (fun h28 => ?_)
          · have h28 := za_bF h28
            refine lv_iinc (k := 4) (v := nI (i + 1)) (lv' := [(4, .int (nI (i + 1))), (0, .ref aL), (1, .int (nI s)), (2, .int w), (3, .int (za_mk (fun x => bt w x && za_mvA Un s x) i))]) hx hb zd_L_stillAlike_38 hl rfl (za_inc _) (by decide) rfl (fun ls hl => ?_)
            refine lv_goto hx hb (tgt := 5) zd_L_stillAlike_41 (by decide) ?_
            have e1 : za_mk (fun x => bt w x && za_mvA Un s x) (i + 1) = za_mk (fun x => bt w x && za_mvA Un s x) i := by first | with_reducible rfl | (simp [za_mk, h9, h18, h28])
            exact ih5 (i + 1) ls (by omega) (by omega) (by rw [e1]; exact lv_sub hl [1, 2, 3, 4, 0] rfl)
          · have h28 := za_bT h28
            refine lv_iload_n hx hb zd_L_stillAlike_31 rfl (lv_at hl 3 rfl) ?_
            refine lv_iconst (v := nI 1) hx hb zd_L_stillAlike_32 (by decide) ?_
            refine lv_iload hx hb zd_L_stillAlike_33 (lv_at hl 4 rfl) ?_
            refine lv_ishl hx hb zd_L_stillAlike_35 ?_
            refine lv_ior hx hb zd_L_stillAlike_36 ?_
            refine lv_istore_n (lv' := [(3, .int ((za_mk (fun x => bt w x && za_mvA Un s x) i) ||| ((nI 1) <<< ((nI i) &&& 31)))), (0, .ref aL), (1, .int (nI s)), (2, .int w), (4, .int (nI i))]) hx hb zd_L_stillAlike_37 rfl hl (by decide) rfl (fun ls hl => ?_)
            refine lv_iinc (k := 4) (v := nI (i + 1)) (lv' := [(4, .int (nI (i + 1))), (3, .int ((za_mk (fun x => bt w x && za_mvA Un s x) i) ||| ((nI 1) <<< ((nI i) &&& 31)))), (0, .ref aL), (1, .int (nI s)), (2, .int w)]) hx hb zd_L_stillAlike_38 hl rfl (za_inc _) (by decide) rfl (fun ls hl => ?_)
            refine lv_goto hx hb (tgt := 5) zd_L_stillAlike_41 (by decide) ?_
            have e1 : za_mk (fun x => bt w x && za_mvA Un s x) (i + 1) = ((za_mk (fun x => bt w x && za_mvA Un s x) i) ||| ((nI 1) <<< ((nI i) &&& 31))) := by first | with_reducible rfl | (simp [za_mk, h9, h18, h28])
            exact ih5 (i + 1) ls (by omega) (by omega) (by rw [e1]; exact lv_sub hl [2, 3, 4, 1, 0] rfl)
  have e1 : za_mk (fun x => bt w x && za_mvA Un s x) 0 = nI 0 := by first | with_reducible rfl | (rfl)
  exact hC5 (24 - 0 + 1) 0 ls (Nat.lt_succ_self _) (by omega) (by rw [e1]; exact lv_sub hl [2, 3, 4, 1, 0] rfl)
def zr_L_alikeFor : Room := { frames := 0, cells := 0, slots := 0, locals := 0 }
set_option maxHeartbeats 4000000 in
set_option maxRecDepth 100000 in
theorem zc_L_alikeFor (ln : Launch) (D : va_G) (cI cZ : ClassId) (aL : Nat) (aN : Nat) (aR : Nat) (aU : Nat) (aK : Nat) (lr : Nat) (kc : Nat) (sd : Bool) (Rw : Nat → Int32) (k : Nat) (s : Nat) (hk0 : k < 24) (hs0 : s < 24) : Met ln zm_L_alikeFor (Cond.code zm_L_alikeFor zo_L_alikeFor 3 (some .int) :: zb_big) zr_L_alikeFor (za_Pr D vwCl [(cI, .int), (cZ, .boolean)] [.ref aL, .int (nI k), .int (nI s)] [(aL, .inr (1, [.ref aN, .ref aR, .ref aU, .ref aK, .int (nI lr), .int (nI kc), .int (za_bi sd)])), (aR, .inl (cI, 576, .inl Rw))]) (vp_Si (fun r => r = Rw (k * 24 + s))) 0 0 (fun _ => False) := by
  refine za_reader (cc := zo_L_alikeFor) (maxL := 3) (ty := .int) (by decide) (Nat.le_of_ble_eq_true rfl) (fun _ _ => rfl) ?_
  intro p e sg m args below meth c H Q hx hb hml hts hown hP hK hN hret ls hl
  have hP : va_P D vwCl [(aL, .inr (1, [.ref aN, .ref aR, .ref aU, .ref aK, .int (nI lr), .int (nI kc), .int (za_bi sd)])), (aR, .inl (cI, 576, .inl Rw))] H := hP
  have hl : lv_has ls 3 [(0, .ref aL), (1, .int (nI k)), (2, .int (nI s))] := hl
  have hf15 := hts _ zw_74
  refine lv_aload_n hx hb zd_L_alikeFor_0 rfl (lv_at hl 0 rfl) ?_
  refine va_get (D := D) (ci := 1) (v := .ref aR) (C := zs_L) (T := zt_L) (N := 7) hx hb hts zi_L hown hK hP 0 rfl rfl 1 (by decide) hf15 (fun _ h9 => h9) rfl zd_L_alikeFor_1 ?_
  refine lv_iload_n hx hb zd_L_alikeFor_4 rfl (lv_at hl 1 rfl) ?_
  refine lv_bipush (v := nI 24) hx hb zd_L_alikeFor_5 (by decide) ?_
  refine za_mulN hx hb zd_L_alikeFor_7 ?_
  refine lv_iload_n hx hb zd_L_alikeFor_8 rfl (lv_at hl 2 rfl) ?_
  refine za_addN hx hb zd_L_alikeFor_9 ?_
  refine za_ild hx hb hK hP 1 0 rfl rfl (k := (k * 24) + s) (by omega) (by decide) zd_L_alikeFor_10 ?_
  exact hret _ _ _ (by first | with_reducible rfl | (simp [])) zd_L_alikeFor_11
def zr_L_leastAlike : Room := { frames := 1, cells := 0, slots := 0, locals := 22 }
set_option maxHeartbeats 4000000 in
set_option maxRecDepth 100000 in
theorem zc_L_leastAlike (ln : Launch) (D : va_G) (cI cZ : ClassId) (aL : Nat) (aN : Nat) (aR : Nat) (aU : Nat) (aK : Nat) (lr : Nat) (kc : Nat) (sd : Bool) (Rw : Nat → Int32) (s : Nat) (hs0 : s < 24) (hr0 : lr < 24) : Met ln zm_L_leastAlike (Cond.code zm_L_leastAlike zo_L_leastAlike 4 (some .int) :: zb_big) zr_L_leastAlike (za_Pr D vwCl [(cI, .int), (cZ, .boolean)] [.ref aL, .int (nI s)] [(aL, .inr (1, [.ref aN, .ref aR, .ref aU, .ref aK, .int (nI lr), .int (nI kc), .int (za_bi sd)])), (aR, .inl (cI, 576, .inl Rw))]) (vp_Si (fun r => r = nI (za_lf Rw lr s))) 0 0 (fun _ => False) := by
  refine za_reader (cc := zo_L_leastAlike) (maxL := 4) (ty := .int) (by decide) (Nat.le_of_ble_eq_true rfl) (fun _ _ => rfl) ?_
  intro p e sg m args below meth c H Q hx hb hml hts hown hP hK hN hret ls hl
  have hP : va_P D vwCl [(aL, .inr (1, [.ref aN, .ref aR, .ref aU, .ref aK, .int (nI lr), .int (nI kc), .int (za_bi sd)])), (aR, .inl (cI, 576, .inl Rw))] H := hP
  have hl : lv_has ls 4 [(0, .ref aL), (1, .int (nI s))] := hl
  have hf35 := hts _ zw_77
  refine lv_aload_n hx hb zd_L_leastAlike_0 rfl (lv_at hl 0 rfl) ?_
  refine lv_aload_n hx hb zd_L_leastAlike_1 rfl (lv_at hl 0 rfl) ?_
  refine va_get (D := D) (ci := 1) (v := .int (nI lr)) (C := zs_L) (T := zt_L) (N := 7) hx hb hts zi_L hown hK hP 0 rfl rfl 4 (by decide) hf35 (fun _ h9 => h9) rfl zd_L_leastAlike_2 ?_
  refine lv_iload_n hx hb zd_L_leastAlike_5 rfl (lv_at hl 1 rfl) ?_
  refine za_cV (As := [.int (nI lr), .int (nI s)]) (rest := []) ⟨hx, hb, hml, hown, hts⟩ (zc_L_alikeFor ln D cI cZ aL aN aR aU aK lr kc sd Rw lr s (by omega) (by omega)) (za_gV 2 hts zw_275 zw_276 zw_277 zw_37 zw_278 (by decide +kernel) ⟨Nat.le_of_ble_eq_true rfl, Nat.le_of_ble_eq_true rfl⟩) hK hN hP [0, 1] rfl (q0 := 0) rfl rfl hl rfl rfl (Nat.le_of_ble_eq_true rfl) zd_L_leastAlike_6 ⟨Nat.le_of_ble_eq_true rfl, Nat.le_of_ble_eq_true rfl⟩ ?_
  refine lv_istore_n (lv' := [(2, .int (Rw (lr * 24 + s))), (0, .ref aL), (1, .int (nI s))]) hx hb zd_L_leastAlike_9 rfl hl (by decide) rfl (fun ls hl => ?_)
  refine lv_iconst (v := nI 0) hx hb zd_L_leastAlike_10 (by decide) ?_
  refine lv_istore_n (lv' := [(3, .int (nI 0)), (2, .int (Rw (lr * 24 + s))), (0, .ref aL), (1, .int (nI s))]) hx hb zd_L_leastAlike_11 rfl hl (by decide) rfl (fun ls hl => ?_)
  have hC12 : ∀ (n12 : Nat) (i : Nat) (ls : Array Slot), s - i < n12 → i ≤ s → (∀ j, j < i → (fun x => !bt (Rw (lr * 24 + s)) x) j = true) → lv_has ls 4 [(0, .ref aL), (1, .int (nI s)), (2, .int (Rw (lr * 24 + s))), (3, .int (nI i))] → W p ln e zr_L_leastAlike sg m args below meth c H [] 0 0 Q (F0 m 12 ls []) := by
    intro n12
    induction n12 with
    | zero => intro i ls hn12 hi_i hq hl; exact absurd hn12 (Nat.not_lt_zero _)
    | succ n12 ih12 =>
      intro i ls hn12 hi_i hq hl
      refine lv_iload_n hx hb zd_L_leastAlike_12 rfl (lv_at hl 3 rfl) ?_
      refine lv_iload_n hx hb zd_L_leastAlike_13 rfl (lv_at hl 1 rfl) ?_
      refine lv_icmp_ge hx hb (tgt := 33) zd_L_leastAlike_14 (by decide) (fun h14 => ?_) (fun h14 => ?_)
      · have h14 := za_leN h14 (by omega) (by omega)
        refine lv_iload_n hx hb zd_L_leastAlike_33 rfl (lv_at hl 1 rfl) ?_
        exact hret _ _ _ (by first | with_reducible rfl | (unfold za_lf; rw [za_fi_all (fun j hj => hq j (by omega))])) zd_L_leastAlike_34
      · have h14 := za_nleN h14 (by omega) (by omega)
        refine lv_iload_n hx hb zd_L_leastAlike_17 rfl (lv_at hl 2 rfl) ?_
        refine lv_iload_n hx hb zd_L_leastAlike_18 rfl (lv_at hl 3 rfl) ?_
        refine za_cSN (As := [.int (Rw (lr * 24 + s)), .int (nI i)]) (rest := []) ⟨hx, hb, hml, hown, hts⟩ (zc_X_hasBit ln D cI cZ (Rw (lr * 24 + s)) i (by omega)) (za_gSN 2 hts hN.2.1 zw_177 zw_35 zw_178 (by decide +kernel) ⟨Nat.le_of_ble_eq_true rfl, Nat.le_of_ble_eq_true rfl⟩) hK hN hP [] rfl hl rfl rfl (Nat.le_of_ble_eq_true rfl) zd_L_leastAlike_19 ⟨Nat.le_of_ble_eq_true rfl, Nat.le_of_ble_eq_true rfl⟩ ?_
        refine lv_if_eq hx hb (tgt := 27) zd_L_leastAlike_22 (by decide) (fun h22 => ?_) (fun h22 => ?_)
        · have h22 := za_bF h22
          refine lv_iinc (k := 3) (v := nI (i + 1)) (lv' := [(3, .int (nI (i + 1))), (0, .ref aL), (1, .int (nI s)), (2, .int (Rw (lr * 24 + s)))]) hx hb zd_L_leastAlike_27 hl rfl (za_inc _) (by decide) rfl (fun ls hl => ?_)
          refine lv_goto hx hb (tgt := 12) zd_L_leastAlike_30 (by decide) ?_
          exact ih12 (i + 1) ls (by omega) (by omega) (by exact za_all_s (p := (fun x => !bt (Rw (lr * 24 + s)) x)) hq (by simp [h22])) (lv_sub hl [1, 2, 3, 0] rfl)
        · have h22 := za_bT h22
          refine lv_iload_n hx hb zd_L_leastAlike_25 rfl (lv_at hl 3 rfl) ?_
          exact hret _ _ _ (by first | with_reducible rfl | (unfold za_lf; rw [za_fi_at (by omega) hq (by simp [h22])])) zd_L_leastAlike_26
  exact hC12 (s - 0 + 1) 0 ls (Nat.lt_succ_self _) (by omega) (by exact za_all_0) (lv_sub hl [2, 3, 1, 0] rfl)
def zr_L_breachOf : Room := { frames := 1, cells := 0, slots := 0, locals := 22 }
set_option maxHeartbeats 4000000 in
set_option maxRecDepth 100000 in
theorem zc_L_breachOf (ln : Launch) (D : va_G) (cI cZ : ClassId) (aL : Nat) (aN : Nat) (aR : Nat) (aU : Nat) (aK : Nat) (lr : Nat) (kc : Nat) (sd : Bool) (Rw : Nat → Int32) (s : Nat) (t : Nat) (hs0 : s < 24) (ht0 : t < 24) (hr0 : lr < 24) : Met ln zm_L_breachOf (Cond.code zm_L_breachOf zo_L_breachOf 4 (some .int) :: zb_big) zr_L_breachOf (za_Pr D vwCl [(cI, .int), (cZ, .boolean)] [.ref aL, .int (nI s), .int (nI t)] [(aL, .inr (1, [.ref aN, .ref aR, .ref aU, .ref aK, .int (nI lr), .int (nI kc), .int (za_bi sd)])), (aR, .inl (cI, 576, .inl Rw))]) (vp_Si (fun r => r = za_ff (fun x => bt (Rw (x * 24 + s)) t) (lr + 1))) 0 0 (fun _ => False) := by
  refine za_reader (cc := zo_L_breachOf) (maxL := 4) (ty := .int) (by decide) (Nat.le_of_ble_eq_true rfl) (fun _ _ => rfl) ?_
  intro p e sg m args below meth c H Q hx hb hml hts hown hP hK hN hret ls hl
  have hP : va_P D vwCl [(aL, .inr (1, [.ref aN, .ref aR, .ref aU, .ref aK, .int (nI lr), .int (nI kc), .int (za_bi sd)])), (aR, .inl (cI, 576, .inl Rw))] H := hP
  have hl : lv_has ls 4 [(0, .ref aL), (1, .int (nI s)), (2, .int (nI t))] := hl
  have hf35 := hts _ zw_77
  refine lv_iconst (v := nI 0) hx hb zd_L_breachOf_0 (by decide) ?_
  refine lv_istore_n (lv' := [(3, .int (nI 0)), (0, .ref aL), (1, .int (nI s)), (2, .int (nI t))]) hx hb zd_L_breachOf_1 rfl hl (by decide) rfl (fun ls hl => ?_)
  have hC2 : ∀ (n2 : Nat) (i : Nat) (ls : Array Slot), (lr + 1) - i < n2 → i ≤ lr + 1 → (∀ j, j < i → (fun x => bt (Rw (x * 24 + s)) t) j = true) → lv_has ls 4 [(0, .ref aL), (1, .int (nI s)), (2, .int (nI t)), (3, .int (nI i))] → W p ln e zr_L_breachOf sg m args below meth c H [] 0 0 Q (F0 m 2 ls []) := by
    intro n2
    induction n2 with
    | zero => intro i ls hn2 hi_i hq hl; exact absurd hn2 (Nat.not_lt_zero _)
    | succ n2 ih2 =>
      intro i ls hn2 hi_i hq hl
      refine lv_iload_n hx hb zd_L_breachOf_2 rfl (lv_at hl 3 rfl) ?_
      refine lv_aload_n hx hb zd_L_breachOf_3 rfl (lv_at hl 0 rfl) ?_
      refine va_get (D := D) (ci := 1) (v := .int (nI lr)) (C := zs_L) (T := zt_L) (N := 7) hx hb hts zi_L hown hK hP 0 rfl rfl 4 (by decide) hf35 (fun _ h9 => h9) rfl zd_L_breachOf_4 ?_
      refine lv_icmp_gt hx hb (tgt := 31) zd_L_breachOf_7 (by decide) (fun h7 => ?_) (fun h7 => ?_)
      · have h7 := za_ltN h7 (by omega) (by omega)
        refine lv_iconst (v := (-1)) hx hb zd_L_breachOf_31 (by decide) ?_
        exact hret _ _ _ (by first | with_reducible rfl | (exact za_ff_all (fun j hj => hq j (by omega)))) zd_L_breachOf_32
      · have h7 := za_nltN h7 (by omega) (by omega)
        refine lv_aload_n hx hb zd_L_breachOf_10 rfl (lv_at hl 0 rfl) ?_
        refine lv_iload_n hx hb zd_L_breachOf_11 rfl (lv_at hl 3 rfl) ?_
        refine lv_iload_n hx hb zd_L_breachOf_12 rfl (lv_at hl 1 rfl) ?_
        refine za_cV (As := [.int (nI i), .int (nI s)]) (rest := []) ⟨hx, hb, hml, hown, hts⟩ (zc_L_alikeFor ln D cI cZ aL aN aR aU aK lr kc sd Rw i s (by omega) (by omega)) (za_gV 2 hts zw_275 zw_276 zw_277 zw_37 zw_278 (by decide +kernel) ⟨Nat.le_of_ble_eq_true rfl, Nat.le_of_ble_eq_true rfl⟩) hK hN hP [0, 1] rfl (q0 := 0) rfl rfl hl rfl rfl (Nat.le_of_ble_eq_true rfl) zd_L_breachOf_13 ⟨Nat.le_of_ble_eq_true rfl, Nat.le_of_ble_eq_true rfl⟩ ?_
        refine lv_iload_n hx hb zd_L_breachOf_16 rfl (lv_at hl 2 rfl) ?_
        refine za_cSN (As := [.int (Rw (i * 24 + s)), .int (nI t)]) (rest := []) ⟨hx, hb, hml, hown, hts⟩ (zc_X_hasBit ln D cI cZ (Rw (i * 24 + s)) t (by omega)) (za_gSN 2 hts hN.2.1 zw_177 zw_35 zw_178 (by decide +kernel) ⟨Nat.le_of_ble_eq_true rfl, Nat.le_of_ble_eq_true rfl⟩) hK hN hP [] rfl hl rfl rfl (Nat.le_of_ble_eq_true rfl) zd_L_breachOf_17 ⟨Nat.le_of_ble_eq_true rfl, Nat.le_of_ble_eq_true rfl⟩ ?_
        refine lv_if_ne hx hb (tgt := 25) zd_L_breachOf_20 (by decide) (fun h20 => ?_) (fun h20 => ?_)
        · have h20 := za_bT h20
          refine lv_iinc (k := 3) (v := nI (i + 1)) (lv' := [(3, .int (nI (i + 1))), (0, .ref aL), (1, .int (nI s)), (2, .int (nI t))]) hx hb zd_L_breachOf_25 hl rfl (za_inc _) (by decide) rfl (fun ls hl => ?_)
          refine lv_goto hx hb (tgt := 2) zd_L_breachOf_28 (by decide) ?_
          exact ih2 (i + 1) ls (by omega) (by omega) (by exact za_all_s (p := (fun x => bt (Rw (x * 24 + s)) t)) hq (by simp [h20])) (lv_sub hl [1, 2, 3, 0] rfl)
        · have h20 := za_bF h20
          refine lv_iload_n hx hb zd_L_breachOf_23 rfl (lv_at hl 3 rfl) ?_
          exact hret _ _ _ (by first | with_reducible rfl | (exact za_ff_at (by omega) hq (by simp [h20]))) zd_L_breachOf_24
  exact hC2 ((lr + 1) - 0 + 1) 0 ls (Nat.lt_succ_self _) (by omega) (by exact za_all_0) (lv_sub hl [1, 2, 3, 0] rfl)
def zr_L_kindCount : Room := { frames := 0, cells := 0, slots := 0, locals := 0 }
set_option maxHeartbeats 4000000 in
set_option maxRecDepth 100000 in
theorem zc_L_kindCount (ln : Launch) (D : va_G) (cI cZ : ClassId) (aL : Nat) (aN : Nat) (aR : Nat) (aU : Nat) (aK : Nat) (lr : Nat) (kc : Nat) (sd : Bool) : Met ln zm_L_kindCount (Cond.code zm_L_kindCount zo_L_kindCount 1 (some .int) :: zb_big) zr_L_kindCount (za_Pr D vwCl [(cI, .int), (cZ, .boolean)] [.ref aL] [(aL, .inr (1, [.ref aN, .ref aR, .ref aU, .ref aK, .int (nI lr), .int (nI kc), .int (za_bi sd)]))]) (vp_Si (fun r => r = nI kc)) 0 0 (fun _ => False) := by
  refine za_reader (cc := zo_L_kindCount) (maxL := 1) (ty := .int) (by decide) (Nat.le_of_ble_eq_true rfl) (fun _ _ => rfl) ?_
  intro p e sg m args below meth c H Q hx hb hml hts hown hP hK hN hret ls hl
  have hP : va_P D vwCl [(aL, .inr (1, [.ref aN, .ref aR, .ref aU, .ref aK, .int (nI lr), .int (nI kc), .int (za_bi sd)]))] H := hP
  have hl : lv_has ls 1 [(0, .ref aL)] := hl
  have hf61 := hts _ zw_78
  refine lv_aload_n hx hb zd_L_kindCount_0 rfl (lv_at hl 0 rfl) ?_
  refine va_get (D := D) (ci := 1) (v := .int (nI kc)) (C := zs_L) (T := zt_L) (N := 7) hx hb hts zi_L hown hK hP 0 rfl rfl 5 (by decide) hf61 (fun _ h9 => h9) rfl zd_L_kindCount_1 ?_
  exact hret _ _ _ (rfl) zd_L_kindCount_4
def zr_L_kindOf : Room := { frames := 0, cells := 0, slots := 0, locals := 0 }
set_option maxHeartbeats 4000000 in
set_option maxRecDepth 100000 in
theorem zc_L_kindOf (ln : Launch) (D : va_G) (cI cZ : ClassId) (aL : Nat) (aN : Nat) (aR : Nat) (aU : Nat) (aK : Nat) (lr : Nat) (kc : Nat) (sd : Bool) (Kd : Nat → Int32) (s : Nat) (hs0 : s < 24) : Met ln zm_L_kindOf (Cond.code zm_L_kindOf zo_L_kindOf 2 (some .int) :: zb_big) zr_L_kindOf (za_Pr D vwCl [(cI, .int), (cZ, .boolean)] [.ref aL, .int (nI s)] [(aL, .inr (1, [.ref aN, .ref aR, .ref aU, .ref aK, .int (nI lr), .int (nI kc), .int (za_bi sd)])), (aK, .inl (cI, 24, .inl Kd))]) (vp_Si (fun r => r = Kd s)) 0 0 (fun _ => False) := by
  refine za_reader (cc := zo_L_kindOf) (maxL := 2) (ty := .int) (by decide) (Nat.le_of_ble_eq_true rfl) (fun _ _ => rfl) ?_
  intro p e sg m args below meth c H Q hx hb hml hts hown hP hK hN hret ls hl
  have hP : va_P D vwCl [(aL, .inr (1, [.ref aN, .ref aR, .ref aU, .ref aK, .int (nI lr), .int (nI kc), .int (za_bi sd)])), (aK, .inl (cI, 24, .inl Kd))] H := hP
  have hl : lv_has ls 2 [(0, .ref aL), (1, .int (nI s))] := hl
  have hf22 := hts _ zw_76
  refine lv_aload_n hx hb zd_L_kindOf_0 rfl (lv_at hl 0 rfl) ?_
  refine va_get (D := D) (ci := 1) (v := .ref aK) (C := zs_L) (T := zt_L) (N := 7) hx hb hts zi_L hown hK hP 0 rfl rfl 3 (by decide) hf22 (fun _ h9 => h9) rfl zd_L_kindOf_1 ?_
  refine lv_iload_n hx hb zd_L_kindOf_4 rfl (lv_at hl 1 rfl) ?_
  refine za_ild hx hb hK hP 1 0 rfl rfl (k := s) (by omega) (by decide) zd_L_kindOf_5 ?_
  exact hret _ _ _ (rfl) zd_L_kindOf_6
def zr_L_sizeOf : Room := { frames := 0, cells := 0, slots := 0, locals := 0 }
set_option maxHeartbeats 4000000 in
set_option maxRecDepth 100000 in
theorem zc_L_sizeOf (ln : Launch) (D : va_G) (cI cZ : ClassId) (aL : Nat) (aN : Nat) (aR : Nat) (aU : Nat) (aK : Nat) (lr : Nat) (kc : Nat) (sd : Bool) (Kd : Nat → Int32) (w : Int32) : Met ln zm_L_sizeOf (Cond.code zm_L_sizeOf zo_L_sizeOf 4 (some .int) :: zb_big) zr_L_sizeOf (za_Pr D vwCl [(cI, .int), (cZ, .boolean)] [.ref aL, .int w] [(aL, .inr (1, [.ref aN, .ref aR, .ref aU, .ref aK, .int (nI lr), .int (nI kc), .int (za_bi sd)])), (aK, .inl (cI, 24, .inl Kd))]) (vp_Si (fun r => r = nI (za_cn (fun x => decide (Kd x = w)) 24))) 0 0 (fun _ => False) := by
  refine za_reader (cc := zo_L_sizeOf) (maxL := 4) (ty := .int) (by decide) (Nat.le_of_ble_eq_true rfl) (fun _ _ => rfl) ?_
  intro p e sg m args below meth c H Q hx hb hml hts hown hP hK hN hret ls hl
  have hP : va_P D vwCl [(aL, .inr (1, [.ref aN, .ref aR, .ref aU, .ref aK, .int (nI lr), .int (nI kc), .int (za_bi sd)])), (aK, .inl (cI, 24, .inl Kd))] H := hP
  have hl : lv_has ls 4 [(0, .ref aL), (1, .int w)] := hl
  have hf22 := hts _ zw_76
  refine lv_iconst (v := nI 0) hx hb zd_L_sizeOf_0 (by decide) ?_
  refine lv_istore_n (lv' := [(2, .int (nI 0)), (0, .ref aL), (1, .int w)]) hx hb zd_L_sizeOf_1 rfl hl (by decide) rfl (fun ls hl => ?_)
  refine lv_iconst (v := nI 0) hx hb zd_L_sizeOf_2 (by decide) ?_
  refine lv_istore_n (lv' := [(3, .int (nI 0)), (2, .int (nI 0)), (0, .ref aL), (1, .int w)]) hx hb zd_L_sizeOf_3 rfl hl (by decide) rfl (fun ls hl => ?_)
  have hC4 : ∀ (n4 : Nat) (i : Nat) (ls : Array Slot), 24 - i < n4 → i ≤ 24 → lv_has ls 4 [(0, .ref aL), (1, .int w), (2, .int (nI (za_cn (fun x => decide (Kd x = w)) i))), (3, .int (nI i))] → W p ln e zr_L_sizeOf sg m args below meth c H [] 0 0 Q (F0 m 4 ls []) := by
    intro n4
    induction n4 with
    | zero => intro i ls hn4 hi_i hl; exact absurd hn4 (Nat.not_lt_zero _)
    | succ n4 ih4 =>
      intro i ls hn4 hi_i hl
      refine lv_iload_n hx hb zd_L_sizeOf_4 rfl (lv_at hl 3 rfl) ?_
      refine lv_bipush (v := nI 24) hx hb zd_L_sizeOf_5 (by decide) ?_
      refine lv_icmp_ge hx hb (tgt := 29) zd_L_sizeOf_7 (by decide) (fun h7 => ?_) (fun h7 => ?_)
      · have h7 := za_leN h7 (by omega) (by omega)
        refine lv_iload_n hx hb zd_L_sizeOf_29 rfl (lv_at hl 2 rfl) ?_
        exact hret _ _ _ (by first | with_reducible rfl | (congr 2; omega)) zd_L_sizeOf_30
      · have h7 := za_nleN h7 (by omega) (by omega)
        refine lv_aload_n hx hb zd_L_sizeOf_10 rfl (lv_at hl 0 rfl) ?_
        refine va_get (D := D) (ci := 1) (v := .ref aK) (C := zs_L) (T := zt_L) (N := 7) hx hb hts zi_L hown hK hP 0 rfl rfl 3 (by decide) hf22 (fun _ h9 => h9) rfl zd_L_sizeOf_11 ?_
        refine lv_iload_n hx hb zd_L_sizeOf_14 rfl (lv_at hl 3 rfl) ?_
        refine za_ild hx hb hK hP 1 0 rfl rfl (k := i) (by omega) (by decide) zd_L_sizeOf_15 ?_
        refine lv_iload_n hx hb zd_L_sizeOf_16 rfl (lv_at hl 1 rfl) ?_
        refine lv_icmp_ne hx hb (tgt := 23) zd_L_sizeOf_17 (by decide) (fun h17 => ?_) (fun h17 => ?_)
        · skip
          refine lv_iinc (k := 3) (v := nI (i + 1)) (lv' := [(3, .int (nI (i + 1))), (0, .ref aL), (1, .int w), (2, .int (nI (za_cn (fun x => decide (Kd x = w)) i)))]) hx hb zd_L_sizeOf_23 hl rfl (za_inc _) (by decide) rfl (fun ls hl => ?_)
          refine lv_goto hx hb (tgt := 4) zd_L_sizeOf_26 (by decide) ?_
          have e1 : nI (za_cn (fun x => decide (Kd x = w)) (i + 1)) = nI (za_cn (fun x => decide (Kd x = w)) i) := by first | with_reducible rfl | (simp [za_cn, h7, h17])
          exact ih4 (i + 1) ls (by omega) (by omega) (by rw [e1]; exact lv_sub hl [1, 2, 3, 0] rfl)
        · skip
          refine lv_iinc (k := 2) (v := nI (za_cn (fun x => decide (Kd x = w)) i + 1)) (lv' := [(2, .int (nI (za_cn (fun x => decide (Kd x = w)) i + 1))), (0, .ref aL), (1, .int w), (3, .int (nI i))]) hx hb zd_L_sizeOf_20 hl rfl (za_inc _) (by decide) rfl (fun ls hl => ?_)
          refine lv_iinc (k := 3) (v := nI (i + 1)) (lv' := [(3, .int (nI (i + 1))), (2, .int (nI (za_cn (fun x => decide (Kd x = w)) i + 1))), (0, .ref aL), (1, .int w)]) hx hb zd_L_sizeOf_23 hl rfl (za_inc _) (by decide) rfl (fun ls hl => ?_)
          refine lv_goto hx hb (tgt := 4) zd_L_sizeOf_26 (by decide) ?_
          have e1 : nI (za_cn (fun x => decide (Kd x = w)) (i + 1)) = nI (za_cn (fun x => decide (Kd x = w)) i + 1) := by first | with_reducible rfl | (simp [za_cn, h7, h17])
          exact ih4 (i + 1) ls (by omega) (by omega) (by rw [e1]; exact lv_sub hl [2, 3, 1, 0] rfl)
  have e1 : nI (za_cn (fun x => decide (Kd x = w)) 0) = nI 0 := by first | with_reducible rfl | (rfl)
  exact hC4 (24 - 0 + 1) 0 ls (Nat.lt_succ_self _) (by omega) (by rw [e1]; exact lv_sub hl [2, 3, 1, 0] rfl)
def zr_L_kindsAmong : Room := { frames := 1, cells := 0, slots := 0, locals := 21 }
set_option maxHeartbeats 4000000 in
set_option maxRecDepth 100000 in
theorem zc_L_kindsAmong (ln : Launch) (D : va_G) (cI cZ : ClassId) (aL : Nat) (aN : Nat) (aR : Nat) (aU : Nat) (aK : Nat) (lr : Nat) (kc : Nat) (sd : Bool) (Kd : Nat → Int32) (w : Int32) : Met ln zm_L_kindsAmong (Cond.code zm_L_kindsAmong zo_L_kindsAmong 4 (some .int) :: zb_big) zr_L_kindsAmong (za_Pr D vwCl [(cI, .int), (cZ, .boolean)] [.ref aL, .int w] [(aL, .inr (1, [.ref aN, .ref aR, .ref aU, .ref aK, .int (nI lr), .int (nI kc), .int (za_bi sd)])), (aK, .inl (cI, 24, .inl Kd))]) (vp_Si (fun r => r = za_ka w Kd 24)) 0 0 (fun _ => False) := by
  refine za_reader (cc := zo_L_kindsAmong) (maxL := 4) (ty := .int) (by decide) (Nat.le_of_ble_eq_true rfl) (fun _ _ => rfl) ?_
  intro p e sg m args below meth c H Q hx hb hml hts hown hP hK hN hret ls hl
  have hP : va_P D vwCl [(aL, .inr (1, [.ref aN, .ref aR, .ref aU, .ref aK, .int (nI lr), .int (nI kc), .int (za_bi sd)])), (aK, .inl (cI, 24, .inl Kd))] H := hP
  have hl : lv_has ls 4 [(0, .ref aL), (1, .int w)] := hl
  have hf22 := hts _ zw_76
  refine lv_iconst (v := nI 0) hx hb zd_L_kindsAmong_0 (by decide) ?_
  refine lv_istore_n (lv' := [(2, .int (nI 0)), (0, .ref aL), (1, .int w)]) hx hb zd_L_kindsAmong_1 rfl hl (by decide) rfl (fun ls hl => ?_)
  refine lv_iconst (v := nI 0) hx hb zd_L_kindsAmong_2 (by decide) ?_
  refine lv_istore_n (lv' := [(3, .int (nI 0)), (2, .int (nI 0)), (0, .ref aL), (1, .int w)]) hx hb zd_L_kindsAmong_3 rfl hl (by decide) rfl (fun ls hl => ?_)
  have hC4 : ∀ (n4 : Nat) (i : Nat) (ls : Array Slot), 24 - i < n4 → i ≤ 24 → lv_has ls 4 [(0, .ref aL), (1, .int w), (2, .int (za_ka w Kd i)), (3, .int (nI i))] → W p ln e zr_L_kindsAmong sg m args below meth c H [] 0 0 Q (F0 m 4 ls []) := by
    intro n4
    induction n4 with
    | zero => intro i ls hn4 hi_i hl; exact absurd hn4 (Nat.not_lt_zero _)
    | succ n4 ih4 =>
      intro i ls hn4 hi_i hl
      refine lv_iload_n hx hb zd_L_kindsAmong_4 rfl (lv_at hl 3 rfl) ?_
      refine lv_bipush (v := nI 24) hx hb zd_L_kindsAmong_5 (by decide) ?_
      refine lv_icmp_ge hx hb (tgt := 35) zd_L_kindsAmong_7 (by decide) (fun h7 => ?_) (fun h7 => ?_)
      · have h7 := za_leN h7 (by omega) (by omega)
        refine lv_iload_n hx hb zd_L_kindsAmong_35 rfl (lv_at hl 2 rfl) ?_
        exact hret _ _ _ (by first | with_reducible rfl | (congr 1; omega)) zd_L_kindsAmong_36
      · have h7 := za_nleN h7 (by omega) (by omega)
        refine lv_iload_n hx hb zd_L_kindsAmong_10 rfl (lv_at hl 1 rfl) ?_
        refine lv_iload_n hx hb zd_L_kindsAmong_11 rfl (lv_at hl 3 rfl) ?_
        refine za_cSN (As := [.int w, .int (nI i)]) (rest := []) ⟨hx, hb, hml, hown, hts⟩ (zc_X_hasBit ln D cI cZ w i (by omega)) (za_gSN 2 hts hN.2.1 zw_177 zw_35 zw_178 (by decide +kernel) ⟨Nat.le_of_ble_eq_true rfl, Nat.le_of_ble_eq_true rfl⟩) hK hN hP [] rfl hl rfl rfl (Nat.le_of_ble_eq_true rfl) zd_L_kindsAmong_12 ⟨Nat.le_of_ble_eq_true rfl, Nat.le_of_ble_eq_true rfl⟩ ?_
        refine lv_if_eq hx hb (tgt := 29) zd_L_kindsAmong_15 (by decide) (fun h15 => ?_) (fun h15 => ?_)
        · have h15 := za_bF h15
          refine lv_iinc (k := 3) (v := nI (i + 1)) (lv' := [(3, .int (nI (i + 1))), (0, .ref aL), (1, .int w), (2, .int (za_ka w Kd i))]) hx hb zd_L_kindsAmong_29 hl rfl (za_inc _) (by decide) rfl (fun ls hl => ?_)
          refine lv_goto hx hb (tgt := 4) zd_L_kindsAmong_32 (by decide) ?_
          have e1 : za_ka w Kd (i + 1) = za_ka w Kd i := by first | with_reducible rfl | (simp [za_ka, h7, h15])
          exact ih4 (i + 1) ls (by omega) (by omega) (by rw [e1]; exact lv_sub hl [1, 2, 3, 0] rfl)
        · have h15 := za_bT h15
          refine lv_iload_n hx hb zd_L_kindsAmong_18 rfl (lv_at hl 2 rfl) ?_
          refine lv_iconst (v := nI 1) hx hb zd_L_kindsAmong_19 (by decide) ?_
          refine lv_aload_n hx hb zd_L_kindsAmong_20 rfl (lv_at hl 0 rfl) ?_
          refine va_get (D := D) (ci := 1) (v := .ref aK) (C := zs_L) (T := zt_L) (N := 7) hx hb hts zi_L hown hK hP 0 rfl rfl 3 (by decide) hf22 (fun _ h9 => h9) rfl zd_L_kindsAmong_21 ?_
          refine lv_iload_n hx hb zd_L_kindsAmong_24 rfl (lv_at hl 3 rfl) ?_
          refine za_ild hx hb hK hP 1 0 rfl rfl (k := i) (by omega) (by decide) zd_L_kindsAmong_25 ?_
          refine lv_ishl hx hb zd_L_kindsAmong_26 ?_
          refine lv_ior hx hb zd_L_kindsAmong_27 ?_
          refine lv_istore_n (lv' := [(2, .int ((za_ka w Kd i) ||| ((nI 1) <<< ((Kd i) &&& 31)))), (0, .ref aL), (1, .int w), (3, .int (nI i))]) hx hb zd_L_kindsAmong_28 rfl hl (by decide) rfl (fun ls hl => ?_)
          refine lv_iinc (k := 3) (v := nI (i + 1)) (lv' := [(3, .int (nI (i + 1))), (2, .int ((za_ka w Kd i) ||| ((nI 1) <<< ((Kd i) &&& 31)))), (0, .ref aL), (1, .int w)]) hx hb zd_L_kindsAmong_29 hl rfl (za_inc _) (by decide) rfl (fun ls hl => ?_)
          refine lv_goto hx hb (tgt := 4) zd_L_kindsAmong_32 (by decide) ?_
          have e1 : za_ka w Kd (i + 1) = ((za_ka w Kd i) ||| ((nI 1) <<< ((Kd i) &&& 31))) := by first | with_reducible rfl | (simp [za_ka, h7, h15])
          exact ih4 (i + 1) ls (by omega) (by omega) (by rw [e1]; exact lv_sub hl [2, 3, 1, 0] rfl)
  have e1 : za_ka w Kd 0 = nI 0 := by first | with_reducible rfl | (rfl)
  exact hC4 (24 - 0 + 1) 0 ls (Nat.lt_succ_self _) (by omega) (by rw [e1]; exact lv_sub hl [2, 3, 1, 0] rfl)
def zr_L_kindsReached : Room := { frames := 2, cells := 0, slots := 0, locals := 44 }
set_option maxHeartbeats 4000000 in
set_option maxRecDepth 100000 in
theorem zc_L_kindsReached (ln : Launch) (D : va_G) (cI cZ : ClassId) (aL : Nat) (aN : Nat) (aR : Nat) (aU : Nat) (aK : Nat) (lr : Nat) (kc : Nat) (sd : Bool) (aT : Nat) (aC : Nat) (ct : Int32) (Tg : Nat → Int32) (Kd : Nat → Int32) (w : Int32) (l : Nat) (hl0 : l < 4) : Met ln zm_L_kindsReached (Cond.code zm_L_kindsReached zo_L_kindsReached 5 (some .int) :: zb_big) zr_L_kindsReached (za_Pr D vwCl [(cI, .int), (cZ, .boolean)] [.ref aL, .int w, .int (nI l)] [(aL, .inr (1, [.ref aN, .ref aR, .ref aU, .ref aK, .int (nI lr), .int (nI kc), .int (za_bi sd)])), (aK, .inl (cI, 24, .inl Kd)), (aN, .inr (0, [.ref aT, .ref aC, .int ct])), (aT, .inl (cI, 96, .inl Tg))]) (vp_Si (fun r => r = za_kr w l Tg Kd 24)) 0 0 (fun _ => False) := by
  refine za_reader (cc := zo_L_kindsReached) (maxL := 5) (ty := .int) (by decide) (Nat.le_of_ble_eq_true rfl) (fun _ _ => rfl) ?_
  intro p e sg m args below meth c H Q hx hb hml hts hown hP hK hN hret ls hl
  have hP : va_P D vwCl [(aL, .inr (1, [.ref aN, .ref aR, .ref aU, .ref aK, .int (nI lr), .int (nI kc), .int (za_bi sd)])), (aK, .inl (cI, 24, .inl Kd)), (aN, .inr (0, [.ref aT, .ref aC, .int ct])), (aT, .inl (cI, 96, .inl Tg))] H := hP
  have hl : lv_has ls 5 [(0, .ref aL), (1, .int w), (2, .int (nI l))] := hl
  have hf22 := hts _ zw_76
  have hf9 := hts _ zw_73
  refine lv_iconst (v := nI 0) hx hb zd_L_kindsReached_0 (by decide) ?_
  refine lv_istore_n (lv' := [(3, .int (nI 0)), (0, .ref aL), (1, .int w), (2, .int (nI l))]) hx hb zd_L_kindsReached_1 rfl hl (by decide) rfl (fun ls hl => ?_)
  refine lv_iconst (v := nI 0) hx hb zd_L_kindsReached_2 (by decide) ?_
  refine lv_istore (lv' := [(4, .int (nI 0)), (3, .int (nI 0)), (0, .ref aL), (1, .int w), (2, .int (nI l))]) hx hb zd_L_kindsReached_3 hl (by decide) rfl (fun ls hl => ?_)
  have hC5 : ∀ (n5 : Nat) (i : Nat) (ls : Array Slot), 24 - i < n5 → i ≤ 24 → lv_has ls 5 [(0, .ref aL), (1, .int w), (2, .int (nI l)), (3, .int (za_kr w l Tg Kd i)), (4, .int (nI i))] → W p ln e zr_L_kindsReached sg m args below meth c H [] 0 0 Q (F0 m 5 ls []) := by
    intro n5
    induction n5 with
    | zero => intro i ls hn5 hi_i hl; exact absurd hn5 (Nat.not_lt_zero _)
    | succ n5 ih5 =>
      intro i ls hn5 hi_i hl
      refine lv_iload hx hb zd_L_kindsReached_5 (lv_at hl 4 rfl) ?_
      refine lv_bipush (v := nI 24) hx hb zd_L_kindsReached_7 (by decide) ?_
      refine lv_icmp_ge hx hb (tgt := 46) zd_L_kindsReached_9 (by decide) (fun h9 => ?_) (fun h9 => ?_)
      · have h9 := za_leN h9 (by omega) (by omega)
        refine lv_iload_n hx hb zd_L_kindsReached_46 rfl (lv_at hl 3 rfl) ?_
        exact hret _ _ _ (by first | with_reducible rfl | (congr 1; omega)) zd_L_kindsReached_47
      · have h9 := za_nleN h9 (by omega) (by omega)
        refine lv_aload_n hx hb zd_L_kindsReached_12 rfl (lv_at hl 0 rfl) ?_
        refine va_get (D := D) (ci := 1) (v := .ref aK) (C := zs_L) (T := zt_L) (N := 7) hx hb hts zi_L hown hK hP 0 rfl rfl 3 (by decide) hf22 (fun _ h9 => h9) rfl zd_L_kindsReached_13 ?_
        refine lv_iload hx hb zd_L_kindsReached_16 (lv_at hl 4 rfl) ?_
        refine za_ild hx hb hK hP 1 0 rfl rfl (k := i) (by omega) (by decide) zd_L_kindsReached_18 ?_
        refine lv_iload_n hx hb zd_L_kindsReached_19 rfl (lv_at hl 1 rfl) ?_
        refine lv_icmp_ne hx hb (tgt := 40) zd_L_kindsReached_20 (by decide) (fun h20 => ?_) (fun h20 => ?_)
        · skip
          refine lv_iinc (k := 4) (v := nI (i + 1)) (lv' := [(4, .int (nI (i + 1))), (0, .ref aL), (1, .int w), (2, .int (nI l)), (3, .int (za_kr w l Tg Kd i))]) hx hb zd_L_kindsReached_40 hl rfl (za_inc _) (by decide) rfl (fun ls hl => ?_)
          refine lv_goto hx hb (tgt := 5) zd_L_kindsReached_43 (by decide) ?_
          have e1 : za_kr w l Tg Kd (i + 1) = za_kr w l Tg Kd i := by first | with_reducible rfl | (simp [za_kr, h9, h20])
          exact ih5 (i + 1) ls (by omega) (by omega) (by rw [e1]; exact lv_sub hl [1, 2, 3, 4, 0] rfl)
        · skip
          refine lv_iload_n hx hb zd_L_kindsReached_23 rfl (lv_at hl 3 rfl) ?_
          refine lv_aload_n hx hb zd_L_kindsReached_24 rfl (lv_at hl 0 rfl) ?_
          refine lv_aload_n hx hb zd_L_kindsReached_25 rfl (lv_at hl 0 rfl) ?_
          refine va_get (D := D) (ci := 1) (v := .ref aN) (C := zs_L) (T := zt_L) (N := 7) hx hb hts zi_L hown hK hP 0 rfl rfl 0 (by decide) hf9 (fun _ h9 => h9) rfl zd_L_kindsReached_26 ?_
          refine lv_iload hx hb zd_L_kindsReached_29 (lv_at hl 4 rfl) ?_
          refine lv_iload_n hx hb zd_L_kindsReached_31 rfl (lv_at hl 2 rfl) ?_
          refine za_cV (As := [.int (nI i), .int (nI l)]) (rest := [.ref aL, .int (za_kr w l Tg Kd i)]) ⟨hx, hb, hml, hown, hts⟩ (zc_N_targetsOf ln D cI cZ aN aT aC ct Tg i l (by omega) (by omega)) (za_gV 2 hts zw_319 zw_173 zw_174 zw_36 zw_175 (by decide +kernel) ⟨Nat.le_of_ble_eq_true rfl, Nat.le_of_ble_eq_true rfl⟩) hK hN hP [2, 3] rfl (q0 := 2) rfl rfl hl rfl rfl (Nat.le_of_ble_eq_true rfl) zd_L_kindsReached_32 ⟨Nat.le_of_ble_eq_true rfl, Nat.le_of_ble_eq_true rfl⟩ ?_
          refine za_cV (As := [.int (Tg (i * 4 + l))]) (rest := [.int (za_kr w l Tg Kd i)]) ⟨hx, hb, hml, hown, hts⟩ (zc_L_kindsAmong ln D cI cZ aL aN aR aU aK lr kc sd Kd (Tg (i * 4 + l)) ) (za_gV 1 hts zw_320 zw_322 zw_8 zw_37 zw_323 (by decide +kernel) ⟨Nat.le_of_ble_eq_true rfl, Nat.le_of_ble_eq_true rfl⟩) hK hN hP [0, 1] rfl (q0 := 0) rfl rfl hl rfl rfl (Nat.le_of_ble_eq_true rfl) zd_L_kindsReached_35 ⟨Nat.le_of_ble_eq_true rfl, Nat.le_of_ble_eq_true rfl⟩ ?_
          refine lv_ior hx hb zd_L_kindsReached_38 ?_
          refine lv_istore_n (lv' := [(3, .int ((za_kr w l Tg Kd i) ||| (za_ka (Tg (i * 4 + l)) Kd 24))), (0, .ref aL), (1, .int w), (2, .int (nI l)), (4, .int (nI i))]) hx hb zd_L_kindsReached_39 rfl hl (by decide) rfl (fun ls hl => ?_)
          refine lv_iinc (k := 4) (v := nI (i + 1)) (lv' := [(4, .int (nI (i + 1))), (3, .int ((za_kr w l Tg Kd i) ||| (za_ka (Tg (i * 4 + l)) Kd 24))), (0, .ref aL), (1, .int w), (2, .int (nI l))]) hx hb zd_L_kindsReached_40 hl rfl (za_inc _) (by decide) rfl (fun ls hl => ?_)
          refine lv_goto hx hb (tgt := 5) zd_L_kindsReached_43 (by decide) ?_
          have e1 : za_kr w l Tg Kd (i + 1) = ((za_kr w l Tg Kd i) ||| (za_ka (Tg (i * 4 + l)) Kd 24)) := by first | with_reducible rfl | (simp [za_kr, h9, h20])
          exact ih5 (i + 1) ls (by omega) (by omega) (by rw [e1]; exact lv_sub hl [2, 3, 4, 1, 0] rfl)
  have e1 : za_kr w l Tg Kd 0 = nI 0 := by first | with_reducible rfl | (rfl)
  exact hC5 (24 - 0 + 1) 0 ls (Nat.lt_succ_self _) (by omega) (by rw [e1]; exact lv_sub hl [2, 3, 4, 1, 0] rfl)
def zr_C_forget : Room := { frames := 0, cells := 0, slots := 0, locals := 0 }
set_option maxHeartbeats 4000000 in
set_option maxRecDepth 100000 in
theorem zc_C_forget (ln : Launch) (D : va_G) (cI cZ : ClassId) (sz : Nat) (aV : Nat) (aN : Nat) (aB : Nat) (aW : Nat) (sc : Bool) : Met ln zm_C_forget (Cond.code zm_C_forget zo_C_forget 1 none :: zb_big) zr_C_forget (za_Pw D vwCl [(cI, .int), (cZ, .boolean)] [.ref aV] [(aV, .inr (2, [.ref aN, .ref aB, .ref aW, .int (za_bi sc)]))] sz) (va_Qv (fun (_u : Unit) => True) (za_B D vwCl [(aV, .inr (2, [.ref aN, .ref aB, .ref aW, .int (za_bi sc)]))] sz (fun (_u : Unit) => [(aV, .inr (2, [.ref aN, .ref aB, .ref aW, .int (za_bi false)]))])) (va_A [(aV, .inr (2, [.ref aN, .ref aB, .ref aW, .int (za_bi sc)]))] sz)) 0 0 (va_A [(aV, .inr (2, [.ref aN, .ref aB, .ref aW, .int (za_bi sc)]))] sz) := by
  refine za_wv (cc := zo_C_forget) (maxL := 1) (by decide) (Nat.le_of_ble_eq_true rfl) ?_
  intro p e sg m args below meth c H0 A Q hx hb hml hts hown hmn hP hK hN hD hA hS hret ls hl
  have hP : va_P D vwCl [(aV, .inr (2, [.ref aN, .ref aB, .ref aW, .int (za_bi sc)]))] H0 := hP
  have hD : va_D A [(aV, .inr (2, [.ref aN, .ref aB, .ref aW, .int (za_bi sc)]))] := hD
  have hl : lv_has ls 1 [(0, .ref aV)] := hl
  have hf22 := hts _ zw_104
  refine lv_aload_n hx hb zd_C_forget_0 rfl (lv_at hl 0 rfl) ?_
  refine lv_iconst (v := nI 0) hx hb zd_C_forget_1 (by decide) ?_
  refine za_eqi (y := za_bi false) rfl ?_
  refine va_put (D := D) (ci := 2) (v := .int (za_bi false)) (ty := .boolean) (C := zs_C) (T := zt_C) (N := 4) hx hb hts zi_C zy_C zk_C zn_C hown hK hP hD hS 0 rfl rfl 3 (by decide) hf22 (fun _ h9 => h9) rfl (by decide +kernel) (za_nar _) (za_fit _) (Nat.le_of_ble_eq_true rfl) zd_C_forget_2 (fun H locs hP hD hS => ?_)
  have hP : va_P D vwCl [(aV, .inr (2, [.ref aN, .ref aB, .ref aW, .int (za_bi false)]))] H := hP
  have hD : va_D A [(aV, .inr (2, [.ref aN, .ref aB, .ref aW, .int (za_bi false)]))] := hD
  have hP9 : va_P D vwCl [(aV, .inr (2, [.ref aN, .ref aB, .ref aW, .int (za_bi false)]))] H := hP
  have hD9 : va_D A [(aV, .inr (2, [.ref aN, .ref aB, .ref aW, .int (za_bi false)]))] := hD
  exact hret () _ _ _ _ (trivial) hP9 hD9 hS zd_C_forget_5
def zr_C_canFollow : Room := { frames := 1, cells := 0, slots := 0, locals := 22 }
set_option maxHeartbeats 4000000 in
set_option maxRecDepth 100000 in
theorem zc_C_canFollow (ln : Launch) (D : va_G) (cI cZ : ClassId) (aV : Nat) (aN : Nat) (aB : Nat) (aW : Nat) (sc : Bool) (aT : Nat) (aC : Nat) (ct : Int32) (Tg : Nat → Int32) (Uc : Nat → Int32) (s : Nat) (t : Nat) (hs0 : s < 24) (ht0 : t < 24) : Met ln zm_C_canFollow (Cond.code zm_C_canFollow zo_C_canFollow 4 (some .boolean) :: zb_big) zr_C_canFollow (za_Pr D vwCl [(cI, .int), (cZ, .boolean)] [.ref aV, .int (nI s), .int (nI t)] [(aV, .inr (2, [.ref aN, .ref aB, .ref aW, .int (za_bi sc)])), (aN, .inr (0, [.ref aT, .ref aC, .int ct])), (aT, .inl (cI, 96, .inl Tg)), (aW, .inl (cI, 96, .inl Uc))]) (vp_Si (fun r => r = za_bi (za_foll Tg Uc s t))) 0 0 (fun _ => False) := by
  refine za_reader (cc := zo_C_canFollow) (maxL := 4) (ty := .boolean) (by decide) (Nat.le_of_ble_eq_true rfl) (fun _ h => by rw [h]; exact za_nar _) ?_
  intro p e sg m args below meth c H Q hx hb hml hts hown hP hK hN hret ls hl
  have hP : va_P D vwCl [(aV, .inr (2, [.ref aN, .ref aB, .ref aW, .int (za_bi sc)])), (aN, .inr (0, [.ref aT, .ref aC, .int ct])), (aT, .inl (cI, 96, .inl Tg)), (aW, .inl (cI, 96, .inl Uc))] H := hP
  have hl : lv_has ls 4 [(0, .ref aV), (1, .int (nI s)), (2, .int (nI t))] := hl
  have hf9 := hts _ zw_101
  have hf19 := hts _ zw_103
  refine lv_iconst (v := nI 0) hx hb zd_C_canFollow_0 (by decide) ?_
  refine lv_istore_n (lv' := [(3, .int (nI 0)), (0, .ref aV), (1, .int (nI s)), (2, .int (nI t))]) hx hb zd_C_canFollow_1 rfl hl (by decide) rfl (fun ls hl => ?_)
  have hC2 : ∀ (n2 : Nat) (i : Nat) (ls : Array Slot), 4 - i < n2 → i ≤ 4 → (∀ j, j < i → (fun x => decide ((Tg (t * 4 + x) &&& (Uc (s * 4 + x) ^^^ (-1))) = 0)) j = true) → lv_has ls 4 [(0, .ref aV), (1, .int (nI s)), (2, .int (nI t)), (3, .int (nI i))] → W p ln e zr_C_canFollow sg m args below meth c H [] 0 0 Q (F0 m 2 ls []) := by
    intro n2
    induction n2 with
    | zero => intro i ls hn2 hi_i hq hl; exact absurd hn2 (Nat.not_lt_zero _)
    | succ n2 ih2 =>
      intro i ls hn2 hi_i hq hl
      refine lv_iload_n hx hb zd_C_canFollow_2 rfl (lv_at hl 3 rfl) ?_
      refine lv_iconst (v := nI 4) hx hb zd_C_canFollow_3 (by decide) ?_
      refine lv_icmp_ge hx hb (tgt := 40) zd_C_canFollow_4 (by decide) (fun h4 => ?_) (fun h4 => ?_)
      · have h4 := za_leN h4 (by omega) (by omega)
        refine lv_iconst (v := nI 1) hx hb zd_C_canFollow_40 (by decide) ?_
        exact hret _ _ _ (za_b1 (by exact za_al_iff.mpr (fun j hj => hq j (by omega)))) zd_C_canFollow_41
      · have h4 := za_nleN h4 (by omega) (by omega)
        refine lv_aload_n hx hb zd_C_canFollow_7 rfl (lv_at hl 0 rfl) ?_
        refine va_get (D := D) (ci := 2) (v := .ref aN) (C := zs_C) (T := zt_C) (N := 4) hx hb hts zi_C hown hK hP 0 rfl rfl 0 (by decide) hf9 (fun _ h9 => h9) rfl zd_C_canFollow_8 ?_
        refine lv_iload_n hx hb zd_C_canFollow_11 rfl (lv_at hl 2 rfl) ?_
        refine lv_iload_n hx hb zd_C_canFollow_12 rfl (lv_at hl 3 rfl) ?_
        refine za_cV (As := [.int (nI t), .int (nI i)]) (rest := []) ⟨hx, hb, hml, hown, hts⟩ (zc_N_targetsOf ln D cI cZ aN aT aC ct Tg t i (by omega) (by omega)) (za_gV 2 hts zw_366 zw_173 zw_174 zw_36 zw_175 (by decide +kernel) ⟨Nat.le_of_ble_eq_true rfl, Nat.le_of_ble_eq_true rfl⟩) hK hN hP [1, 2] rfl (q0 := 1) rfl rfl hl rfl rfl (Nat.le_of_ble_eq_true rfl) zd_C_canFollow_13 ⟨Nat.le_of_ble_eq_true rfl, Nat.le_of_ble_eq_true rfl⟩ ?_
        refine lv_aload_n hx hb zd_C_canFollow_16 rfl (lv_at hl 0 rfl) ?_
        refine va_get (D := D) (ci := 2) (v := .ref aW) (C := zs_C) (T := zt_C) (N := 4) hx hb hts zi_C hown hK hP 0 rfl rfl 2 (by decide) hf19 (fun _ h9 => h9) rfl zd_C_canFollow_17 ?_
        refine lv_iload_n hx hb zd_C_canFollow_20 rfl (lv_at hl 1 rfl) ?_
        refine lv_iconst (v := nI 4) hx hb zd_C_canFollow_21 (by decide) ?_
        refine za_mulN hx hb zd_C_canFollow_22 ?_
        refine lv_iload_n hx hb zd_C_canFollow_23 rfl (lv_at hl 3 rfl) ?_
        refine za_addN hx hb zd_C_canFollow_24 ?_
        refine za_ild hx hb hK hP 3 0 rfl rfl (k := (s * 4) + i) (by omega) (by decide) zd_C_canFollow_25 ?_
        refine lv_iconst (v := (-1)) hx hb zd_C_canFollow_26 (by decide) ?_
        refine lv_ixor hx hb zd_C_canFollow_27 ?_
        refine lv_iand hx hb zd_C_canFollow_28 ?_
        refine lv_if_eq hx hb (tgt := 34) zd_C_canFollow_29 (by decide) (fun h29 => ?_) (fun h29 => ?_)
        · skip
          refine lv_iinc (k := 3) (v := nI (i + 1)) (lv' := [(3, .int (nI (i + 1))), (0, .ref aV), (1, .int (nI s)), (2, .int (nI t))]) hx hb zd_C_canFollow_34 hl rfl (za_inc _) (by decide) rfl (fun ls hl => ?_)
          refine lv_goto hx hb (tgt := 2) zd_C_canFollow_37 (by decide) ?_
          exact ih2 (i + 1) ls (by omega) (by omega) (by exact za_all_s (p := (fun x => decide ((Tg (t * 4 + x) &&& (Uc (s * 4 + x) ^^^ (-1))) = 0))) hq (decide_eq_true h29)) (lv_sub hl [1, 2, 3, 0] rfl)
        · skip
          refine lv_iconst (v := nI 0) hx hb zd_C_canFollow_32 (by decide) ?_
          exact hret _ _ _ (za_b0 (by exact za_al_f (i := i) (by omega) (decide_eq_false h29))) zd_C_canFollow_33
  exact hC2 (4 - 0 + 1) 0 ls (Nat.lt_succ_self _) (by omega) (by exact za_all_0) (lv_sub hl [1, 2, 3, 0] rfl)
def zr_C_stillBelow : Room := { frames := 2, cells := 0, slots := 0, locals := 45 }
set_option maxHeartbeats 4000000 in
set_option maxRecDepth 100000 in
theorem zc_C_stillBelow (ln : Launch) (D : va_G) (cI cZ : ClassId) (aV : Nat) (aN : Nat) (aB : Nat) (aW : Nat) (sc : Bool) (aT : Nat) (aC : Nat) (ct : Int32) (Tg : Nat → Int32) (Bl : Nat → Int32) (Uc : Nat → Int32) (s : Nat) (hs0 : s < 24) : Met ln zm_C_stillBelow (Cond.code zm_C_stillBelow zo_C_stillBelow 4 (some .int) :: zb_big) zr_C_stillBelow (za_Pr D vwCl [(cI, .int), (cZ, .boolean)] [.ref aV, .int (nI s)] [(aV, .inr (2, [.ref aN, .ref aB, .ref aW, .int (za_bi sc)])), (aN, .inr (0, [.ref aT, .ref aC, .int ct])), (aT, .inl (cI, 96, .inl Tg)), (aB, .inl (cI, 24, .inl Bl)), (aW, .inl (cI, 96, .inl Uc))]) (vp_Si (fun r => r = za_sb (Bl s) Tg Uc s)) 0 0 (fun _ => False) := by
  refine za_reader (cc := zo_C_stillBelow) (maxL := 4) (ty := .int) (by decide) (Nat.le_of_ble_eq_true rfl) (fun _ _ => rfl) ?_
  intro p e sg m args below meth c H Q hx hb hml hts hown hP hK hN hret ls hl
  have hP : va_P D vwCl [(aV, .inr (2, [.ref aN, .ref aB, .ref aW, .int (za_bi sc)])), (aN, .inr (0, [.ref aT, .ref aC, .int ct])), (aT, .inl (cI, 96, .inl Tg)), (aB, .inl (cI, 24, .inl Bl)), (aW, .inl (cI, 96, .inl Uc))] H := hP
  have hl : lv_has ls 4 [(0, .ref aV), (1, .int (nI s))] := hl
  have hf15 := hts _ zw_102
  refine lv_iconst (v := nI 0) hx hb zd_C_stillBelow_0 (by decide) ?_
  refine lv_istore_n (lv' := [(2, .int (nI 0)), (0, .ref aV), (1, .int (nI s))]) hx hb zd_C_stillBelow_1 rfl hl (by decide) rfl (fun ls hl => ?_)
  refine lv_iconst (v := nI 0) hx hb zd_C_stillBelow_2 (by decide) ?_
  refine lv_istore_n (lv' := [(3, .int (nI 0)), (2, .int (nI 0)), (0, .ref aV), (1, .int (nI s))]) hx hb zd_C_stillBelow_3 rfl hl (by decide) rfl (fun ls hl => ?_)
  have hC4 : ∀ (n4 : Nat) (i : Nat) (ls : Array Slot), 24 - i < n4 → i ≤ 24 → lv_has ls 4 [(0, .ref aV), (1, .int (nI s)), (2, .int (za_mk (fun x => bt (Bl s) x && za_foll Tg Uc s x) i)), (3, .int (nI i))] → W p ln e zr_C_stillBelow sg m args below meth c H [] 0 0 Q (F0 m 4 ls []) := by
    intro n4
    induction n4 with
    | zero => intro i ls hn4 hi_i hl; exact absurd hn4 (Nat.not_lt_zero _)
    | succ n4 ih4 =>
      intro i ls hn4 hi_i hl
      refine lv_iload_n hx hb zd_C_stillBelow_4 rfl (lv_at hl 3 rfl) ?_
      refine lv_bipush (v := nI 24) hx hb zd_C_stillBelow_5 (by decide) ?_
      refine lv_icmp_ge hx hb (tgt := 44) zd_C_stillBelow_7 (by decide) (fun h7 => ?_) (fun h7 => ?_)
      · have h7 := za_leN h7 (by omega) (by omega)
        refine lv_iload_n hx hb zd_C_stillBelow_44 rfl (lv_at hl 2 rfl) ?_
        exact hret _ _ _ (by first | with_reducible rfl | (unfold za_sb; congr 1; omega)) zd_C_stillBelow_45
      · have h7 := za_nleN h7 (by omega) (by omega)
        refine lv_aload_n hx hb zd_C_stillBelow_10 rfl (lv_at hl 0 rfl) ?_
        refine va_get (D := D) (ci := 2) (v := .ref aB) (C := zs_C) (T := zt_C) (N := 4) hx hb hts zi_C hown hK hP 0 rfl rfl 1 (by decide) hf15 (fun _ h9 => h9) rfl zd_C_stillBelow_11 ?_
        refine lv_iload_n hx hb zd_C_stillBelow_14 rfl (lv_at hl 1 rfl) ?_
        refine za_ild hx hb hK hP 3 0 rfl rfl (k := s) (by omega) (by decide) zd_C_stillBelow_15 ?_
        refine lv_iload_n hx hb zd_C_stillBelow_16 rfl (lv_at hl 3 rfl) ?_
        refine za_cSN (As := [.int (Bl s), .int (nI i)]) (rest := []) ⟨hx, hb, hml, hown, hts⟩ (zc_X_hasBit ln D cI cZ (Bl s) i (by omega)) (za_gSN 2 hts hN.2.2.1 zw_177 zw_35 zw_178 (by decide +kernel) ⟨Nat.le_of_ble_eq_true rfl, Nat.le_of_ble_eq_true rfl⟩) hK hN hP [] rfl hl rfl rfl (Nat.le_of_ble_eq_true rfl) zd_C_stillBelow_17 ⟨Nat.le_of_ble_eq_true rfl, Nat.le_of_ble_eq_true rfl⟩ ?_
        refine lv_if_eq hx hb (tgt := 38) zd_C_stillBelow_20 (by decide) (fun h20 => ?_) (fun h20 => ?_)
        · have h20 := za_bF h20
          refine lv_iinc (k := 3) (v := nI (i + 1)) (lv' := [(3, .int (nI (i + 1))), (0, .ref aV), (1, .int (nI s)), (2, .int (za_mk (fun x => bt (Bl s) x && za_foll Tg Uc s x) i))]) hx hb zd_C_stillBelow_38 hl rfl (za_inc _) (by decide) rfl (fun ls hl => ?_)
          refine lv_goto hx hb (tgt := 4) zd_C_stillBelow_41 (by decide) ?_
          have e1 : za_mk (fun x => bt (Bl s) x && za_foll Tg Uc s x) (i + 1) = za_mk (fun x => bt (Bl s) x && za_foll Tg Uc s x) i := by first | with_reducible rfl | (simp [za_mk, h7, h20])
          exact ih4 (i + 1) ls (by omega) (by omega) (by rw [e1]; exact lv_sub hl [1, 2, 3, 0] rfl)
        · have h20 := za_bT h20
          refine lv_aload_n hx hb zd_C_stillBelow_23 rfl (lv_at hl 0 rfl) ?_
          refine lv_iload_n hx hb zd_C_stillBelow_24 rfl (lv_at hl 1 rfl) ?_
          refine lv_iload_n hx hb zd_C_stillBelow_25 rfl (lv_at hl 3 rfl) ?_
          refine za_cV (As := [.int (nI s), .int (nI i)]) (rest := []) ⟨hx, hb, hml, hown, hts⟩ (zc_C_canFollow ln D cI cZ aV aN aB aW sc aT aC ct Tg Uc s i (by omega) (by omega)) (za_gV 2 hts zw_362 zw_364 zw_12 zw_38 zw_365 (by decide +kernel) ⟨Nat.le_of_ble_eq_true rfl, Nat.le_of_ble_eq_true rfl⟩) hK hN hP [0, 1, 2, 4] rfl (q0 := 0) rfl rfl hl rfl rfl (Nat.le_of_ble_eq_true rfl) zd_C_stillBelow_26 ⟨Nat.le_of_ble_eq_true rfl, Nat.le_of_ble_eq_true rfl⟩ ?_
          refine lv_if_eq hx hb (tgt := 38) zd_C_stillBelow_29 (by decide) (fun h29 => ?_) (fun h29 => ?_)
          · have h29 := za_bF h29
            refine lv_iinc (k := 3) (v := nI (i + 1)) (lv' := [(3, .int (nI (i + 1))), (0, .ref aV), (1, .int (nI s)), (2, .int (za_mk (fun x => bt (Bl s) x && za_foll Tg Uc s x) i))]) hx hb zd_C_stillBelow_38 hl rfl (za_inc _) (by decide) rfl (fun ls hl => ?_)
            refine lv_goto hx hb (tgt := 4) zd_C_stillBelow_41 (by decide) ?_
            have e1 : za_mk (fun x => bt (Bl s) x && za_foll Tg Uc s x) (i + 1) = za_mk (fun x => bt (Bl s) x && za_foll Tg Uc s x) i := by first | with_reducible rfl | (simp [za_mk, h7, h20, h29])
            exact ih4 (i + 1) ls (by omega) (by omega) (by rw [e1]; exact lv_sub hl [1, 2, 3, 0] rfl)
          · have h29 := za_bT h29
            refine lv_iload_n hx hb zd_C_stillBelow_32 rfl (lv_at hl 2 rfl) ?_
            refine lv_iconst (v := nI 1) hx hb zd_C_stillBelow_33 (by decide) ?_
            refine lv_iload_n hx hb zd_C_stillBelow_34 rfl (lv_at hl 3 rfl) ?_
            refine lv_ishl hx hb zd_C_stillBelow_35 ?_
            refine lv_ior hx hb zd_C_stillBelow_36 ?_
            refine lv_istore_n (lv' := [(2, .int ((za_mk (fun x => bt (Bl s) x && za_foll Tg Uc s x) i) ||| ((nI 1) <<< ((nI i) &&& 31)))), (0, .ref aV), (1, .int (nI s)), (3, .int (nI i))]) hx hb zd_C_stillBelow_37 rfl hl (by decide) rfl (fun ls hl => ?_)
            refine lv_iinc (k := 3) (v := nI (i + 1)) (lv' := [(3, .int (nI (i + 1))), (2, .int ((za_mk (fun x => bt (Bl s) x && za_foll Tg Uc s x) i) ||| ((nI 1) <<< ((nI i) &&& 31)))), (0, .ref aV), (1, .int (nI s))]) hx hb zd_C_stillBelow_38 hl rfl (za_inc _) (by decide) rfl (fun ls hl => ?_)
            refine lv_goto hx hb (tgt := 4) zd_C_stillBelow_41 (by decide) ?_
            have e1 : za_mk (fun x => bt (Bl s) x && za_foll Tg Uc s x) (i + 1) = ((za_mk (fun x => bt (Bl s) x && za_foll Tg Uc s x) i) ||| ((nI 1) <<< ((nI i) &&& 31))) := by first | with_reducible rfl | (simp [za_mk, h7, h20, h29])
            exact ih4 (i + 1) ls (by omega) (by omega) (by rw [e1]; exact lv_sub hl [2, 3, 1, 0] rfl)
  have e1 : za_mk (fun x => bt (Bl s) x && za_foll Tg Uc s x) 0 = nI 0 := by first | with_reducible rfl | (rfl)
  exact hC4 (24 - 0 + 1) 0 ls (Nat.lt_succ_self _) (by omega) (by rw [e1]; exact lv_sub hl [2, 3, 1, 0] rfl)
def zr_C_belowOf : Room := { frames := 0, cells := 0, slots := 0, locals := 0 }
set_option maxHeartbeats 4000000 in
set_option maxRecDepth 100000 in
theorem zc_C_belowOf (ln : Launch) (D : va_G) (cI cZ : ClassId) (aV : Nat) (aN : Nat) (aB : Nat) (aW : Nat) (sc : Bool) (Bl : Nat → Int32) (s : Nat) (hs0 : s < 24) : Met ln zm_C_belowOf (Cond.code zm_C_belowOf zo_C_belowOf 2 (some .int) :: zb_big) zr_C_belowOf (za_Pr D vwCl [(cI, .int), (cZ, .boolean)] [.ref aV, .int (nI s)] [(aV, .inr (2, [.ref aN, .ref aB, .ref aW, .int (za_bi sc)])), (aB, .inl (cI, 24, .inl Bl))]) (vp_Si (fun r => r = Bl s)) 0 0 (fun _ => False) := by
  refine za_reader (cc := zo_C_belowOf) (maxL := 2) (ty := .int) (by decide) (Nat.le_of_ble_eq_true rfl) (fun _ _ => rfl) ?_
  intro p e sg m args below meth c H Q hx hb hml hts hown hP hK hN hret ls hl
  have hP : va_P D vwCl [(aV, .inr (2, [.ref aN, .ref aB, .ref aW, .int (za_bi sc)])), (aB, .inl (cI, 24, .inl Bl))] H := hP
  have hl : lv_has ls 2 [(0, .ref aV), (1, .int (nI s))] := hl
  have hf15 := hts _ zw_102
  refine lv_aload_n hx hb zd_C_belowOf_0 rfl (lv_at hl 0 rfl) ?_
  refine va_get (D := D) (ci := 2) (v := .ref aB) (C := zs_C) (T := zt_C) (N := 4) hx hb hts zi_C hown hK hP 0 rfl rfl 1 (by decide) hf15 (fun _ h9 => h9) rfl zd_C_belowOf_1 ?_
  refine lv_iload_n hx hb zd_C_belowOf_4 rfl (lv_at hl 1 rfl) ?_
  refine za_ild hx hb hK hP 1 0 rfl rfl (k := s) (by omega) (by decide) zd_C_belowOf_5 ?_
  exact hret _ _ _ (rfl) zd_C_belowOf_6
def zr_G_isAttack : Room := { frames := 1, cells := 0, slots := 0, locals := 22 }
set_option maxHeartbeats 4000000 in
set_option maxRecDepth 100000 in
theorem zc_G_isAttack (ln : Launch) (D : va_G) (cI cZ : ClassId) (aG : Nat) (aN : Nat) (aL : Nat) (aS : Nat) (aM : Nat) (aA : Nat) (ln0 : Nat) (aT : Nat) (aC : Nat) (ct : Int32) (aR : Nat) (aU : Nat) (aK : Nat) (lr : Nat) (kc : Nat) (sd : Bool) (Tg : Nat → Int32) (Rw : Nat → Int32) (a : Nat) (b : Nat) (l : Nat) (u : Nat) (k : Nat) (ha0 : a < 24) (hb0 : b < 24) (hl0 : l < 4) (hu0 : u < 24) (hk0 : k < 24) : Met ln zm_G_isAttack (Cond.code zm_G_isAttack zo_G_isAttack 6 (some .boolean) :: zb_big) zr_G_isAttack (za_Pr D vwCl [(cI, .int), (cZ, .boolean)] [.ref aG, .int (nI a), .int (nI b), .int (nI l), .int (nI u), .int (nI k)] [(aG, .inr (3, [.ref aN, .ref aL, .ref aS, .ref aM, .ref aA, .int (nI ln0)])), (aN, .inr (0, [.ref aT, .ref aC, .int ct])), (aT, .inl (cI, 96, .inl Tg)), (aL, .inr (1, [.ref aN, .ref aR, .ref aU, .ref aK, .int (nI lr), .int (nI kc), .int (za_bi sd)])), (aR, .inl (cI, 576, .inl Rw))]) (vp_Si (fun r => r = za_bi (za_att Tg Rw a b l u k))) 0 0 (fun _ => False) := by
  refine za_reader (cc := zo_G_isAttack) (maxL := 6) (ty := .boolean) (by decide) (Nat.le_of_ble_eq_true rfl) (fun _ h => by rw [h]; exact za_nar _) ?_
  intro p e sg m args below meth c H Q hx hb hml hts hown hP hK hN hret ls hl
  have hP : va_P D vwCl [(aG, .inr (3, [.ref aN, .ref aL, .ref aS, .ref aM, .ref aA, .int (nI ln0)])), (aN, .inr (0, [.ref aT, .ref aC, .int ct])), (aT, .inl (cI, 96, .inl Tg)), (aL, .inr (1, [.ref aN, .ref aR, .ref aU, .ref aK, .int (nI lr), .int (nI kc), .int (za_bi sd)])), (aR, .inl (cI, 576, .inl Rw))] H := hP
  have hl : lv_has ls 6 [(0, .ref aG), (1, .int (nI a)), (2, .int (nI b)), (3, .int (nI l)), (4, .int (nI u)), (5, .int (nI k))] := hl
  have hf9 := hts _ zw_120
  have hf15 := hts _ zw_121
  refine lv_aload_n hx hb zd_G_isAttack_0 rfl (lv_at hl 0 rfl) ?_
  refine va_get (D := D) (ci := 3) (v := .ref aN) (C := zs_G) (T := zt_G) (N := 6) hx hb hts zi_G hown hK hP 0 rfl rfl 0 (by decide) hf9 (fun _ h9 => h9) rfl zd_G_isAttack_1 ?_
  refine lv_iload_n hx hb zd_G_isAttack_4 rfl (lv_at hl 1 rfl) ?_
  refine lv_iload_n hx hb zd_G_isAttack_5 rfl (lv_at hl 3 rfl) ?_
  refine za_cV (As := [.int (nI a), .int (nI l)]) (rest := []) ⟨hx, hb, hml, hown, hts⟩ (zc_N_targetsOf ln D cI cZ aN aT aC ct Tg a l (by omega) (by omega)) (za_gV 2 hts zw_394 zw_173 zw_174 zw_36 zw_175 (by decide +kernel) ⟨Nat.le_of_ble_eq_true rfl, Nat.le_of_ble_eq_true rfl⟩) hK hN hP [1, 2] rfl (q0 := 1) rfl rfl hl rfl rfl (Nat.le_of_ble_eq_true rfl) zd_G_isAttack_6 ⟨Nat.le_of_ble_eq_true rfl, Nat.le_of_ble_eq_true rfl⟩ ?_
  refine lv_iload hx hb zd_G_isAttack_9 (lv_at hl 4 rfl) ?_
  refine za_cSN (As := [.int (Tg (a * 4 + l)), .int (nI u)]) (rest := []) ⟨hx, hb, hml, hown, hts⟩ (zc_X_hasBit ln D cI cZ (Tg (a * 4 + l)) u (by omega)) (za_gSN 2 hts hN.2.2.2 zw_177 zw_35 zw_178 (by decide +kernel) ⟨Nat.le_of_ble_eq_true rfl, Nat.le_of_ble_eq_true rfl⟩) hK hN hP [] rfl hl rfl rfl (Nat.le_of_ble_eq_true rfl) zd_G_isAttack_11 ⟨Nat.le_of_ble_eq_true rfl, Nat.le_of_ble_eq_true rfl⟩ ?_
  refine lv_if_eq hx hb (tgt := 45) zd_G_isAttack_14 (by decide) (fun h14 => ?_) (fun h14 => ?_)
  · have h14 := za_bF h14
    refine lv_iconst (v := nI 0) hx hb zd_G_isAttack_45 (by decide) ?_
    exact hret _ _ _ (za_b0 (by simp [za_att, h14])) zd_G_isAttack_46
  · have h14 := za_bT h14
    refine lv_aload_n hx hb zd_G_isAttack_17 rfl (lv_at hl 0 rfl) ?_
    refine va_get (D := D) (ci := 3) (v := .ref aL) (C := zs_G) (T := zt_G) (N := 6) hx hb hts zi_G hown hK hP 0 rfl rfl 1 (by decide) hf15 (fun _ h9 => h9) rfl zd_G_isAttack_18 ?_
    refine lv_iload hx hb zd_G_isAttack_21 (lv_at hl 5 rfl) ?_
    refine lv_iload hx hb zd_G_isAttack_23 (lv_at hl 4 rfl) ?_
    refine za_cV (As := [.int (nI k), .int (nI u)]) (rest := []) ⟨hx, hb, hml, hown, hts⟩ (zc_L_alikeFor ln D cI cZ aL aN aR aU aK lr kc sd Rw k u (by omega) (by omega)) (za_gV 2 hts zw_396 zw_276 zw_277 zw_37 zw_278 (by decide +kernel) ⟨Nat.le_of_ble_eq_true rfl, Nat.le_of_ble_eq_true rfl⟩) hK hN hP [3, 4] rfl (q0 := 3) rfl rfl hl rfl rfl (Nat.le_of_ble_eq_true rfl) zd_G_isAttack_25 ⟨Nat.le_of_ble_eq_true rfl, Nat.le_of_ble_eq_true rfl⟩ ?_
    refine lv_aload_n hx hb zd_G_isAttack_28 rfl (lv_at hl 0 rfl) ?_
    refine va_get (D := D) (ci := 3) (v := .ref aN) (C := zs_G) (T := zt_G) (N := 6) hx hb hts zi_G hown hK hP 0 rfl rfl 0 (by decide) hf9 (fun _ h9 => h9) rfl zd_G_isAttack_29 ?_
    refine lv_iload_n hx hb zd_G_isAttack_32 rfl (lv_at hl 2 rfl) ?_
    refine lv_iload_n hx hb zd_G_isAttack_33 rfl (lv_at hl 3 rfl) ?_
    refine za_cV (As := [.int (nI b), .int (nI l)]) (rest := [.int (Rw (k * 24 + u))]) ⟨hx, hb, hml, hown, hts⟩ (zc_N_targetsOf ln D cI cZ aN aT aC ct Tg b l (by omega) (by omega)) (za_gV 2 hts zw_394 zw_173 zw_174 zw_36 zw_175 (by decide +kernel) ⟨Nat.le_of_ble_eq_true rfl, Nat.le_of_ble_eq_true rfl⟩) hK hN hP [1, 2] rfl (q0 := 1) rfl rfl hl rfl rfl (Nat.le_of_ble_eq_true rfl) zd_G_isAttack_34 ⟨Nat.le_of_ble_eq_true rfl, Nat.le_of_ble_eq_true rfl⟩ ?_
    refine lv_iand hx hb zd_G_isAttack_37 ?_
    refine lv_if_ne hx hb (tgt := 45) zd_G_isAttack_38 (by decide) (fun h38 => ?_) (fun h38 => ?_)
    · skip
      refine lv_iconst (v := nI 0) hx hb zd_G_isAttack_45 (by decide) ?_
      exact hret _ _ _ (za_b0 (by simp [za_att, h14, h38])) zd_G_isAttack_46
    · skip
      refine lv_iconst (v := nI 1) hx hb zd_G_isAttack_41 (by decide) ?_
      refine lv_goto hx hb (tgt := 46) zd_G_isAttack_42 (by decide) ?_
      exact hret _ _ _ (za_b1 (by simp [za_att, h14, h38])) zd_G_isAttack_46
def zr_L_numberKinds : Room := { frames := 2, cells := 0, slots := 0, locals := 45 }
set_option maxHeartbeats 4000000 in
set_option maxRecDepth 100000 in
theorem zc_L_numberKinds (ln : Launch) (D : va_G) (cI cZ : ClassId) (sz : Nat) (aL : Nat) (aN : Nat) (aR : Nat) (aU : Nat) (aK : Nat) (lr : Nat) (kc : Nat) (sd : Bool) (Rw : Nat → Int32) (Kd : Nat → Int32) (hr0 : lr < 24) : Met ln zm_L_numberKinds (Cond.code zm_L_numberKinds zo_L_numberKinds 3 none :: zb_big) zr_L_numberKinds (za_Pw D vwCl [(cI, .int), (cZ, .boolean)] [.ref aL] [(aL, .inr (1, [.ref aN, .ref aR, .ref aU, .ref aK, .int (nI lr), .int (nI kc), .int (za_bi sd)])), (aR, .inl (cI, 576, .inl Rw)), (aK, .inl (cI, 24, .inl Kd))] sz) (va_Qv (fun (_u : Unit) => True) (za_B D vwCl [(aL, .inr (1, [.ref aN, .ref aR, .ref aU, .ref aK, .int (nI lr), .int (nI kc), .int (za_bi sd)])), (aR, .inl (cI, 576, .inl Rw)), (aK, .inl (cI, 24, .inl Kd))] sz (fun (_u : Unit) => [(aL, .inr (1, [.ref aN, .ref aR, .ref aU, .ref aK, .int (nI lr), .int (nI ((za_nk (za_lf Rw lr) Kd 24).2)), .int (za_bi sd)])), (aR, .inl (cI, 576, .inl Rw)), (aK, .inl (cI, 24, .inl ((za_nk (za_lf Rw lr) Kd 24).1)))])) (va_A [(aL, .inr (1, [.ref aN, .ref aR, .ref aU, .ref aK, .int (nI lr), .int (nI kc), .int (za_bi sd)])), (aR, .inl (cI, 576, .inl Rw)), (aK, .inl (cI, 24, .inl Kd))] sz)) 0 0 (va_A [(aL, .inr (1, [.ref aN, .ref aR, .ref aU, .ref aK, .int (nI lr), .int (nI kc), .int (za_bi sd)])), (aR, .inl (cI, 576, .inl Rw)), (aK, .inl (cI, 24, .inl Kd))] sz) := by
  refine za_wv (cc := zo_L_numberKinds) (maxL := 3) (by decide) (Nat.le_of_ble_eq_true rfl) ?_
  intro p e sg m args below meth c H0 A Q hx hb hml hts hown hmn hP hK hN hD hA hS hret ls hl
  have hP : va_P D vwCl [(aL, .inr (1, [.ref aN, .ref aR, .ref aU, .ref aK, .int (nI lr), .int (nI kc), .int (za_bi sd)])), (aR, .inl (cI, 576, .inl Rw)), (aK, .inl (cI, 24, .inl Kd))] H0 := hP
  have hD : va_D A [(aL, .inr (1, [.ref aN, .ref aR, .ref aU, .ref aK, .int (nI lr), .int (nI kc), .int (za_bi sd)])), (aR, .inl (cI, 576, .inl Rw)), (aK, .inl (cI, 24, .inl Kd))] := hD
  have hl : lv_has ls 3 [(0, .ref aL)] := hl
  have hf61 := hts _ zw_78
  have hf22 := hts _ zw_76
  refine lv_aload_n hx hb zd_L_numberKinds_0 rfl (lv_at hl 0 rfl) ?_
  refine lv_iconst (v := nI 0) hx hb zd_L_numberKinds_1 (by decide) ?_
  refine va_put (D := D) (ci := 1) (v := .int (nI 0)) (ty := .int) (C := zs_L) (T := zt_L) (N := 7) hx hb hts zi_L zy_L zk_L zn_L hown hK hP hD hS 0 rfl rfl 5 (by decide) hf61 (fun _ h9 => h9) rfl (by decide +kernel) rfl rfl (Nat.le_of_ble_eq_true rfl) zd_L_numberKinds_2 (fun H locs hP hD hS => ?_)
  have hP : va_P D vwCl [(aL, .inr (1, [.ref aN, .ref aR, .ref aU, .ref aK, .int (nI lr), .int (nI 0), .int (za_bi sd)])), (aR, .inl (cI, 576, .inl Rw)), (aK, .inl (cI, 24, .inl Kd))] H := hP
  have hD : va_D A [(aL, .inr (1, [.ref aN, .ref aR, .ref aU, .ref aK, .int (nI lr), .int (nI 0), .int (za_bi sd)])), (aR, .inl (cI, 576, .inl Rw)), (aK, .inl (cI, 24, .inl Kd))] := hD
  refine lv_iconst (v := nI 0) hx hb zd_L_numberKinds_5 (by decide) ?_
  refine lv_istore_n (lv' := [(1, .int (nI 0)), (0, .ref aL)]) hx hb zd_L_numberKinds_6 rfl hl (by decide) rfl (fun ls hl => ?_)
  have hC7 : ∀ (n7 : Nat) (i : Nat) (ls : Array Slot) (H : Heap) (locs : List Loc), 24 - i < n7 → i ≤ 24 → lv_has ls 3 [(0, .ref aL), (1, .int (nI i))] → va_P D vwCl [(aL, .inr (1, [.ref aN, .ref aR, .ref aU, .ref aK, .int (nI lr), .int (nI ((za_nk (za_lf Rw lr) Kd i).2)), .int (za_bi sd)])), (aR, .inl (cI, 576, .inl Rw)), (aK, .inl (cI, 24, .inl ((za_nk (za_lf Rw lr) Kd i).1)))] H → va_D A [(aL, .inr (1, [.ref aN, .ref aR, .ref aU, .ref aK, .int (nI lr), .int (nI ((za_nk (za_lf Rw lr) Kd i).2)), .int (za_bi sd)])), (aR, .inl (cI, 576, .inl Rw)), (aK, .inl (cI, 24, .inl ((za_nk (za_lf Rw lr) Kd i).1)))] → va_S A H0 H locs → W p ln e zr_L_numberKinds sg m args below meth c H locs 0 0 Q (F0 m 7 ls []) := by
    intro n7
    induction n7 with
    | zero => intro i ls H locs hn7 hi_i hl hP hD hS; exact absurd hn7 (Nat.not_lt_zero _)
    | succ n7 ih7 =>
      intro i ls H locs hn7 hi_i hl hP hD hS
      refine lv_iload_n hx hb zd_L_numberKinds_7 rfl (lv_at hl 1 rfl) ?_
      refine lv_bipush (v := nI 24) hx hb zd_L_numberKinds_8 (by decide) ?_
      refine lv_icmp_ge hx hb (tgt := 65) zd_L_numberKinds_10 (by decide) (fun h10 => ?_) (fun h10 => ?_)
      · have h10 := za_leN h10 (by omega) (by omega)
        have e1 : nI ((za_nk (za_lf Rw lr) Kd 24).2) = nI ((za_nk (za_lf Rw lr) Kd i).2) := by first | with_reducible rfl | (rw [show i = 24 by omega])
        have e2 : (za_nk (za_lf Rw lr) Kd 24).1 = (za_nk (za_lf Rw lr) Kd i).1 := by first | with_reducible rfl | (rw [show i = 24 by omega])
        have hP9 : va_P D vwCl [(aL, .inr (1, [.ref aN, .ref aR, .ref aU, .ref aK, .int (nI lr), .int (nI ((za_nk (za_lf Rw lr) Kd 24).2)), .int (za_bi sd)])), (aR, .inl (cI, 576, .inl Rw)), (aK, .inl (cI, 24, .inl ((za_nk (za_lf Rw lr) Kd 24).1)))] H := by rw [e1, e2]; exact hP
        have hD9 : va_D A [(aL, .inr (1, [.ref aN, .ref aR, .ref aU, .ref aK, .int (nI lr), .int (nI ((za_nk (za_lf Rw lr) Kd 24).2)), .int (za_bi sd)])), (aR, .inl (cI, 576, .inl Rw)), (aK, .inl (cI, 24, .inl ((za_nk (za_lf Rw lr) Kd 24).1)))] := by rw [e1, e2]; exact hD
        exact hret () _ _ _ _ (trivial) hP9 hD9 hS zd_L_numberKinds_65
      · have h10 := za_nleN h10 (by omega) (by omega)
        refine lv_aload_n hx hb zd_L_numberKinds_13 rfl (lv_at hl 0 rfl) ?_
        refine lv_iload_n hx hb zd_L_numberKinds_14 rfl (lv_at hl 1 rfl) ?_
        refine za_cV (As := [.int (nI i)]) (rest := []) ⟨hx, hb, hml, hown, hts⟩ (zc_L_leastAlike ln D cI cZ aL aN aR aU aK lr ((za_nk (za_lf Rw lr) Kd i).2) sd Rw i (by omega) (by omega)) (za_gV 1 hts zw_271 zw_273 zw_7 zw_37 zw_274 (by decide +kernel) ⟨Nat.le_of_ble_eq_true rfl, Nat.le_of_ble_eq_true rfl⟩) hK hN hP [0, 1] rfl (q0 := 0) rfl rfl hl rfl rfl (Nat.le_of_ble_eq_true rfl) zd_L_numberKinds_15 ⟨Nat.le_of_ble_eq_true rfl, Nat.le_of_ble_eq_true rfl⟩ ?_
        have hle := za_fi_le (fun x => !bt (Rw (lr * 24 + i)) x) i
        have hle : za_lf Rw lr i ≤ i := hle
        refine lv_istore_n (lv' := [(2, .int (nI (za_lf Rw lr i))), (0, .ref aL), (1, .int (nI i))]) hx hb zd_L_numberKinds_18 rfl hl (by decide) rfl (fun ls hl => ?_)
        refine lv_iload_n hx hb zd_L_numberKinds_19 rfl (lv_at hl 0 rfl) ?_
        refine lv_iload_n hx hb zd_L_numberKinds_20 rfl (lv_at hl 2 rfl) ?_
        refine lv_icmp_ne hx hb (tgt := 47) zd_L_numberKinds_21 (by decide) (fun h21 => ?_) (fun h21 => ?_)
        · have h21 := za_neN h21
          refine lv_aload_n hx hb zd_L_numberKinds_47 rfl (lv_at hl 1 rfl) ?_
          refine va_get (D := D) (ci := 1) (v := .ref aK) (C := zs_L) (T := zt_L) (N := 7) hx hb hts zi_L hown hK hP 0 rfl rfl 3 (by decide) hf22 (fun _ h9 => h9) rfl zd_L_numberKinds_48 ?_
          refine lv_iload_n hx hb zd_L_numberKinds_51 rfl (lv_at hl 2 rfl) ?_
          refine lv_aload_n hx hb zd_L_numberKinds_52 rfl (lv_at hl 1 rfl) ?_
          refine va_get (D := D) (ci := 1) (v := .ref aK) (C := zs_L) (T := zt_L) (N := 7) hx hb hts zi_L hown hK hP 0 rfl rfl 3 (by decide) hf22 (fun _ h9 => h9) rfl zd_L_numberKinds_53 ?_
          refine lv_iload_n hx hb zd_L_numberKinds_56 rfl (lv_at hl 0 rfl) ?_
          refine za_ild hx hb hK hP 2 0 rfl rfl (k := za_lf Rw lr i) (by omega) (by decide) zd_L_numberKinds_57 ?_
          refine za_ist hx hb hK hP hD hS 2 0 rfl rfl (k := i) (by omega) (by decide) zd_L_numberKinds_58 (fun H locs hP hD hS => ?_)
          have hP : va_P D vwCl [(aL, .inr (1, [.ref aN, .ref aR, .ref aU, .ref aK, .int (nI lr), .int (nI ((za_nk (za_lf Rw lr) Kd i).2)), .int (za_bi sd)])), (aR, .inl (cI, 576, .inl Rw)), (aK, .inl (cI, 24, .inl (upd ((za_nk (za_lf Rw lr) Kd i).1) i (((za_nk (za_lf Rw lr) Kd i).1) (za_lf Rw lr i)))))] H := hP
          have hD : va_D A [(aL, .inr (1, [.ref aN, .ref aR, .ref aU, .ref aK, .int (nI lr), .int (nI ((za_nk (za_lf Rw lr) Kd i).2)), .int (za_bi sd)])), (aR, .inl (cI, 576, .inl Rw)), (aK, .inl (cI, 24, .inl (upd ((za_nk (za_lf Rw lr) Kd i).1) i (((za_nk (za_lf Rw lr) Kd i).1) (za_lf Rw lr i)))))] := hD
          refine lv_iinc (k := 2) (v := nI (i + 1)) (lv' := [(1, .int (nI (i + 1))), (2, .int (nI (za_lf Rw lr i))), (0, .ref aL)]) hx hb zd_L_numberKinds_59 hl rfl (za_inc _) (by decide) rfl (fun ls hl => ?_)
          refine lv_goto hx hb (tgt := 7) zd_L_numberKinds_62 (by decide) ?_
          have e1 : nI ((za_nk (za_lf Rw lr) Kd (i + 1)).2) = nI ((za_nk (za_lf Rw lr) Kd i).2) := by first | with_reducible rfl | (first | rw [za_nk_t (La := za_lf Rw lr) h21] | rw [za_nk_f (La := za_lf Rw lr) h21])
          have e2 : (za_nk (za_lf Rw lr) Kd (i + 1)).1 = upd ((za_nk (za_lf Rw lr) Kd i).1) i (((za_nk (za_lf Rw lr) Kd i).1) (za_lf Rw lr i)) := by first | with_reducible rfl | (first | rw [za_nk_t (La := za_lf Rw lr) h21] | rw [za_nk_f (La := za_lf Rw lr) h21])
          exact ih7 (i + 1) ls H locs (by omega) (by omega) (lv_sub hl [2, 0] rfl) (by rw [e1, e2]; exact hP) (by rw [e1, e2]; exact hD) hS
        · have h21 := za_eqN h21 (by omega) (by omega)
          refine lv_aload_n hx hb zd_L_numberKinds_24 rfl (lv_at hl 1 rfl) ?_
          refine va_get (D := D) (ci := 1) (v := .ref aK) (C := zs_L) (T := zt_L) (N := 7) hx hb hts zi_L hown hK hP 0 rfl rfl 3 (by decide) hf22 (fun _ h9 => h9) rfl zd_L_numberKinds_25 ?_
          refine lv_iload_n hx hb zd_L_numberKinds_28 rfl (lv_at hl 2 rfl) ?_
          refine lv_aload_n hx hb zd_L_numberKinds_29 rfl (lv_at hl 1 rfl) ?_
          refine va_get (D := D) (ci := 1) (v := .int (nI ((za_nk (za_lf Rw lr) Kd i).2))) (C := zs_L) (T := zt_L) (N := 7) hx hb hts zi_L hown hK hP 0 rfl rfl 5 (by decide) hf61 (fun _ h9 => h9) rfl zd_L_numberKinds_30 ?_
          refine za_ist hx hb hK hP hD hS 2 0 rfl rfl (k := i) (by omega) (by decide) zd_L_numberKinds_33 (fun H locs hP hD hS => ?_)
          have hP : va_P D vwCl [(aL, .inr (1, [.ref aN, .ref aR, .ref aU, .ref aK, .int (nI lr), .int (nI ((za_nk (za_lf Rw lr) Kd i).2)), .int (za_bi sd)])), (aR, .inl (cI, 576, .inl Rw)), (aK, .inl (cI, 24, .inl (upd ((za_nk (za_lf Rw lr) Kd i).1) i (nI ((za_nk (za_lf Rw lr) Kd i).2)))))] H := hP
          have hD : va_D A [(aL, .inr (1, [.ref aN, .ref aR, .ref aU, .ref aK, .int (nI lr), .int (nI ((za_nk (za_lf Rw lr) Kd i).2)), .int (za_bi sd)])), (aR, .inl (cI, 576, .inl Rw)), (aK, .inl (cI, 24, .inl (upd ((za_nk (za_lf Rw lr) Kd i).1) i (nI ((za_nk (za_lf Rw lr) Kd i).2)))))] := hD
          refine lv_aload_n hx hb zd_L_numberKinds_34 rfl (lv_at hl 1 rfl) ?_
          refine lv_dup hx hb zd_L_numberKinds_35 rfl ?_
          refine va_get (D := D) (ci := 1) (v := .int (nI ((za_nk (za_lf Rw lr) Kd i).2))) (C := zs_L) (T := zt_L) (N := 7) hx hb hts zi_L hown hK hP 0 rfl rfl 5 (by decide) hf61 (fun _ h9 => h9) rfl zd_L_numberKinds_36 ?_
          refine lv_iconst (v := nI 1) hx hb zd_L_numberKinds_39 (by decide) ?_
          refine za_addN hx hb zd_L_numberKinds_40 ?_
          refine va_put (D := D) (ci := 1) (v := .int (nI (((za_nk (za_lf Rw lr) Kd i).2) + 1))) (ty := .int) (C := zs_L) (T := zt_L) (N := 7) hx hb hts zi_L zy_L zk_L zn_L hown hK hP hD hS 0 rfl rfl 5 (by decide) hf61 (fun _ h9 => h9) rfl (by decide +kernel) rfl rfl (Nat.le_of_ble_eq_true rfl) zd_L_numberKinds_41 (fun H locs hP hD hS => ?_)
          have hP : va_P D vwCl [(aL, .inr (1, [.ref aN, .ref aR, .ref aU, .ref aK, .int (nI lr), .int (nI (((za_nk (za_lf Rw lr) Kd i).2) + 1)), .int (za_bi sd)])), (aR, .inl (cI, 576, .inl Rw)), (aK, .inl (cI, 24, .inl (upd ((za_nk (za_lf Rw lr) Kd i).1) i (nI ((za_nk (za_lf Rw lr) Kd i).2)))))] H := hP
          have hD : va_D A [(aL, .inr (1, [.ref aN, .ref aR, .ref aU, .ref aK, .int (nI lr), .int (nI (((za_nk (za_lf Rw lr) Kd i).2) + 1)), .int (za_bi sd)])), (aR, .inl (cI, 576, .inl Rw)), (aK, .inl (cI, 24, .inl (upd ((za_nk (za_lf Rw lr) Kd i).1) i (nI ((za_nk (za_lf Rw lr) Kd i).2)))))] := hD
          refine lv_goto hx hb (tgt := 59) zd_L_numberKinds_44 (by decide) ?_
          refine lv_iinc (k := 2) (v := nI (i + 1)) (lv' := [(1, .int (nI (i + 1))), (2, .int (nI (za_lf Rw lr i))), (0, .ref aL)]) hx hb zd_L_numberKinds_59 hl rfl (za_inc _) (by decide) rfl (fun ls hl => ?_)
          refine lv_goto hx hb (tgt := 7) zd_L_numberKinds_62 (by decide) ?_
          have e1 : nI ((za_nk (za_lf Rw lr) Kd (i + 1)).2) = nI (((za_nk (za_lf Rw lr) Kd i).2) + 1) := by first | with_reducible rfl | (first | rw [za_nk_t (La := za_lf Rw lr) h21] | rw [za_nk_f (La := za_lf Rw lr) h21])
          have e2 : (za_nk (za_lf Rw lr) Kd (i + 1)).1 = upd ((za_nk (za_lf Rw lr) Kd i).1) i (nI ((za_nk (za_lf Rw lr) Kd i).2)) := by first | with_reducible rfl | (first | rw [za_nk_t (La := za_lf Rw lr) h21] | rw [za_nk_f (La := za_lf Rw lr) h21])
          exact ih7 (i + 1) ls H locs (by omega) (by omega) (lv_sub hl [2, 0] rfl) (by rw [e1, e2]; exact hP) (by rw [e1, e2]; exact hD) hS
  have e1 : nI ((za_nk (za_lf Rw lr) Kd 0).2) = nI 0 := by first | with_reducible rfl | (rw [za_nk0])
  have e2 : (za_nk (za_lf Rw lr) Kd 0).1 = Kd := by first | with_reducible rfl | (rw [za_nk0])
  exact hC7 (24 - 0 + 1) 0 ls H locs (Nat.lt_succ_self _) (by omega) (lv_sub hl [1, 0] rfl) (by rw [e1, e2]; exact hP) (by rw [e1, e2]; exact hD) hS
def zr_L_partsMore : Room := { frames := 3, cells := 0, slots := 0, locals := 69 }
set_option maxHeartbeats 4000000 in
set_option maxRecDepth 100000 in
theorem zc_L_partsMore (ln : Launch) (D : va_G) (cI cZ : ClassId) (sz : Nat) (aL : Nat) (aN : Nat) (aR : Nat) (aU : Nat) (aK : Nat) (lr : Nat) (kc : Nat) (sd : Bool) (aT : Nat) (aC : Nat) (ct : Int32) (Tg : Nat → Int32) (Rw : Nat → Int32) (Un : Nat → Int32) (k : Nat) (hk1 : 1 ≤ k) (hk0 : k < 24) : Met ln zm_L_partsMore (Cond.code zm_L_partsMore zo_L_partsMore 6 (some .boolean) :: zb_big) zr_L_partsMore (za_Pw D vwCl [(cI, .int), (cZ, .boolean)] [.ref aL, .int (nI k)] [(aL, .inr (1, [.ref aN, .ref aR, .ref aU, .ref aK, .int (nI lr), .int (nI kc), .int (za_bi sd)])), (aR, .inl (cI, 576, .inl Rw)), (aU, .inl (cI, 96, .inl Un)), (aN, .inr (0, [.ref aT, .ref aC, .int ct])), (aT, .inl (cI, 96, .inl Tg))] sz) (va_Qi (fun (r : Int32) (_u : Unit) => r = za_bi (za_ex (za_pd Tg Rw Un k) 24)) (za_B D vwCl [(aL, .inr (1, [.ref aN, .ref aR, .ref aU, .ref aK, .int (nI lr), .int (nI kc), .int (za_bi sd)])), (aR, .inl (cI, 576, .inl Rw)), (aU, .inl (cI, 96, .inl Un)), (aN, .inr (0, [.ref aT, .ref aC, .int ct])), (aT, .inl (cI, 96, .inl Tg))] sz (fun (_u : Unit) => [(aL, .inr (1, [.ref aN, .ref aR, .ref aU, .ref aK, .int (nI lr), .int (nI kc), .int (za_bi sd)])), (aR, .inl (cI, 576, .inl (za_of (za_pr Tg Rw Un k) Rw (k * 24) 24))), (aU, .inl (cI, 96, .inl (za_ua Tg Rw ((k - 1) * 24) Un))), (aN, .inr (0, [.ref aT, .ref aC, .int ct])), (aT, .inl (cI, 96, .inl Tg))])) (va_A [(aL, .inr (1, [.ref aN, .ref aR, .ref aU, .ref aK, .int (nI lr), .int (nI kc), .int (za_bi sd)])), (aR, .inl (cI, 576, .inl Rw)), (aU, .inl (cI, 96, .inl Un)), (aN, .inr (0, [.ref aT, .ref aC, .int ct])), (aT, .inl (cI, 96, .inl Tg))] sz)) 0 0 (va_A [(aL, .inr (1, [.ref aN, .ref aR, .ref aU, .ref aK, .int (nI lr), .int (nI kc), .int (za_bi sd)])), (aR, .inl (cI, 576, .inl Rw)), (aU, .inl (cI, 96, .inl Un)), (aN, .inr (0, [.ref aT, .ref aC, .int ct])), (aT, .inl (cI, 96, .inl Tg))] sz) := by
  refine za_wi (cc := zo_L_partsMore) (maxL := 6) (ty := .boolean) (by decide) (Nat.le_of_ble_eq_true rfl) (fun _ _ h => by rw [h]; exact za_nar _) ?_
  intro p e sg m args below meth c H0 A Q hx hb hml hts hown hmn hP hK hN hD hA hS hret ls hl
  have hP : va_P D vwCl [(aL, .inr (1, [.ref aN, .ref aR, .ref aU, .ref aK, .int (nI lr), .int (nI kc), .int (za_bi sd)])), (aR, .inl (cI, 576, .inl Rw)), (aU, .inl (cI, 96, .inl Un)), (aN, .inr (0, [.ref aT, .ref aC, .int ct])), (aT, .inl (cI, 96, .inl Tg))] H0 := hP
  have hD : va_D A [(aL, .inr (1, [.ref aN, .ref aR, .ref aU, .ref aK, .int (nI lr), .int (nI kc), .int (za_bi sd)])), (aR, .inl (cI, 576, .inl Rw)), (aU, .inl (cI, 96, .inl Un)), (aN, .inr (0, [.ref aT, .ref aC, .int ct])), (aT, .inl (cI, 96, .inl Tg))] := hD
  have hl : lv_has ls 6 [(0, .ref aL), (1, .int (nI k))] := hl
  have hf9 := hts _ zw_73
  have hf15 := hts _ zw_74
  have hf19 := hts _ zw_75
  refine lv_iload_n hx hb zd_L_partsMore_0 rfl (lv_at hl 1 rfl) ?_
  refine lv_iconst (v := nI 1) hx hb zd_L_partsMore_1 (by decide) ?_
  refine za_subN hx hb (by omega) zd_L_partsMore_2 ?_
  refine lv_bipush (v := nI 24) hx hb zd_L_partsMore_3 (by decide) ?_
  refine za_mulN hx hb zd_L_partsMore_5 ?_
  refine lv_istore_n (lv' := [(2, .int (nI ((k - 1) * 24))), (0, .ref aL), (1, .int (nI k))]) hx hb zd_L_partsMore_6 rfl hl (by decide) rfl (fun ls hl => ?_)
  refine lv_aload_n hx hb zd_L_partsMore_7 rfl (lv_at hl 1 rfl) ?_
  refine va_get (D := D) (ci := 1) (v := .ref aN) (C := zs_L) (T := zt_L) (N := 7) hx hb hts zi_L hown hK hP 0 rfl rfl 0 (by decide) hf9 (fun _ h9 => h9) rfl zd_L_partsMore_8 ?_
  refine lv_aload_n hx hb zd_L_partsMore_11 rfl (lv_at hl 1 rfl) ?_
  refine va_get (D := D) (ci := 1) (v := .ref aR) (C := zs_L) (T := zt_L) (N := 7) hx hb hts zi_L hown hK hP 0 rfl rfl 1 (by decide) hf15 (fun _ h9 => h9) rfl zd_L_partsMore_12 ?_
  refine lv_iload_n hx hb zd_L_partsMore_15 rfl (lv_at hl 0 rfl) ?_
  refine lv_aload_n hx hb zd_L_partsMore_16 rfl (lv_at hl 1 rfl) ?_
  refine va_get (D := D) (ci := 1) (v := .ref aU) (C := zs_L) (T := zt_L) (N := 7) hx hb hts zi_L hown hK hP 0 rfl rfl 2 (by decide) hf19 (fun _ h9 => h9) rfl zd_L_partsMore_17 ?_
  refine za_wVv (As := [.ref aR, .int (nI ((k - 1) * 24)), .ref aU]) (rest := []) (wr := [(aL, .inr (1, [.ref aN, .ref aR, .ref aU, .ref aK, .int (nI lr), .int (nI kc), .int (za_bi sd)]))]) (wz := (fun _ => [(aL, .inr (1, [.ref aN, .ref aR, .ref aU, .ref aK, .int (nI lr), .int (nI kc), .int (za_bi sd)])), (aR, .inl (cI, 576, .inl Rw)), (aU, .inl (cI, 96, .inl (za_ua Tg Rw ((k - 1) * 24) Un))), (aN, .inr (0, [.ref aT, .ref aC, .int ct])), (aT, .inl (cI, 96, .inl Tg))])) ⟨hx, hb, hml, hown, hts⟩ (zc_N_unite ln D cI cZ _ aN aT aC ct Tg aR 576 Rw ((k - 1) * 24) aU Un (by omega) (by omega)) (za_gV 3 hts zw_251 zw_252 zw_253 zw_36 zw_254 (by decide +kernel) ⟨Nat.le_of_ble_eq_true rfl, Nat.le_of_ble_eq_true rfl⟩) hK hN hP hD hS hA [3, 4, 1, 2] [0] [0, 3, 4, 1, 2] rfl rfl (by decide) (by decide) (by decide) (by decide) (fun _ => rfl) (q0 := 3) rfl rfl hl rfl rfl (Nat.le_of_ble_eq_true rfl) zd_L_partsMore_20 ⟨Nat.le_of_ble_eq_true rfl, Nat.le_of_ble_eq_true rfl⟩ (fun u20 H locs hq20 hP hD hS => ?_)
  have hP : va_P D vwCl [(aL, .inr (1, [.ref aN, .ref aR, .ref aU, .ref aK, .int (nI lr), .int (nI kc), .int (za_bi sd)])), (aR, .inl (cI, 576, .inl Rw)), (aU, .inl (cI, 96, .inl (za_ua Tg Rw ((k - 1) * 24) Un))), (aN, .inr (0, [.ref aT, .ref aC, .int ct])), (aT, .inl (cI, 96, .inl Tg))] H := hP
  have hD : va_D A [(aL, .inr (1, [.ref aN, .ref aR, .ref aU, .ref aK, .int (nI lr), .int (nI kc), .int (za_bi sd)])), (aR, .inl (cI, 576, .inl Rw)), (aU, .inl (cI, 96, .inl (za_ua Tg Rw ((k - 1) * 24) Un))), (aN, .inr (0, [.ref aT, .ref aC, .int ct])), (aT, .inl (cI, 96, .inl Tg))] := hD
  refine lv_iconst (v := nI 0) hx hb zd_L_partsMore_23 (by decide) ?_
  refine lv_istore_n (lv' := [(3, .int (nI 0)), (2, .int (nI ((k - 1) * 24))), (0, .ref aL), (1, .int (nI k))]) hx hb zd_L_partsMore_24 rfl hl (by decide) rfl (fun ls hl => ?_)
  refine lv_iconst (v := nI 0) hx hb zd_L_partsMore_25 (by decide) ?_
  refine lv_istore (lv' := [(4, .int (nI 0)), (3, .int (nI 0)), (2, .int (nI ((k - 1) * 24))), (0, .ref aL), (1, .int (nI k))]) hx hb zd_L_partsMore_26 hl (by decide) rfl (fun ls hl => ?_)
  have hC28 : ∀ (n28 : Nat) (y : Nat) (ls : Array Slot) (H : Heap) (locs : List Loc), 24 - y < n28 → y ≤ 24 → lv_has ls 6 [(0, .ref aL), (1, .int (nI k)), (2, .int (nI ((k - 1) * 24))), (3, .int (za_bi (za_ex (za_pd Tg Rw Un k) y))), (4, .int (nI y))] → va_P D vwCl [(aL, .inr (1, [.ref aN, .ref aR, .ref aU, .ref aK, .int (nI lr), .int (nI kc), .int (za_bi sd)])), (aR, .inl (cI, 576, .inl (za_of (za_pr Tg Rw Un k) Rw (k * 24) y))), (aU, .inl (cI, 96, .inl (za_ua Tg Rw ((k - 1) * 24) Un))), (aN, .inr (0, [.ref aT, .ref aC, .int ct])), (aT, .inl (cI, 96, .inl Tg))] H → va_D A [(aL, .inr (1, [.ref aN, .ref aR, .ref aU, .ref aK, .int (nI lr), .int (nI kc), .int (za_bi sd)])), (aR, .inl (cI, 576, .inl (za_of (za_pr Tg Rw Un k) Rw (k * 24) y))), (aU, .inl (cI, 96, .inl (za_ua Tg Rw ((k - 1) * 24) Un))), (aN, .inr (0, [.ref aT, .ref aC, .int ct])), (aT, .inl (cI, 96, .inl Tg))] → va_S A H0 H locs → W p ln e zr_L_partsMore sg m args below meth c H locs 0 0 Q (F0 m 28 ls []) := by
    intro n28
    induction n28 with
    | zero => intro y ls H locs hn28 hi_y hl hP hD hS; exact absurd hn28 (Nat.not_lt_zero _)
    | succ n28 ih28 =>
      intro y ls H locs hn28 hi_y hl hP hD hS
      refine lv_iload hx hb zd_L_partsMore_28 (lv_at hl 4 rfl) ?_
      refine lv_bipush (v := nI 24) hx hb zd_L_partsMore_30 (by decide) ?_
      refine lv_icmp_ge hx hb (tgt := 94) zd_L_partsMore_32 (by decide) (fun h32 => ?_) (fun h32 => ?_)
      · have h32 := za_leN h32 (by omega) (by omega)
        refine lv_iload_n hx hb zd_L_partsMore_94 rfl (lv_at hl 3 rfl) ?_
        have e1 : za_of (za_pr Tg Rw Un k) Rw (k * 24) 24 = za_of (za_pr Tg Rw Un k) Rw (k * 24) y := by first | with_reducible rfl | (rw [show y = 24 by omega])
        have hP9 : va_P D vwCl [(aL, .inr (1, [.ref aN, .ref aR, .ref aU, .ref aK, .int (nI lr), .int (nI kc), .int (za_bi sd)])), (aR, .inl (cI, 576, .inl (za_of (za_pr Tg Rw Un k) Rw (k * 24) 24))), (aU, .inl (cI, 96, .inl (za_ua Tg Rw ((k - 1) * 24) Un))), (aN, .inr (0, [.ref aT, .ref aC, .int ct])), (aT, .inl (cI, 96, .inl Tg))] H := by rw [e1]; exact hP
        have hD9 : va_D A [(aL, .inr (1, [.ref aN, .ref aR, .ref aU, .ref aK, .int (nI lr), .int (nI kc), .int (za_bi sd)])), (aR, .inl (cI, 576, .inl (za_of (za_pr Tg Rw Un k) Rw (k * 24) 24))), (aU, .inl (cI, 96, .inl (za_ua Tg Rw ((k - 1) * 24) Un))), (aN, .inr (0, [.ref aT, .ref aC, .int ct])), (aT, .inl (cI, 96, .inl Tg))] := by rw [e1]; exact hD
        exact hret _ () _ _ _ _ (by first | with_reducible rfl | (rw [show y = 24 by omega])) hP9 hD9 hS zd_L_partsMore_95
      · have h32 := za_nleN h32 (by omega) (by omega)
        refine lv_aload_n hx hb zd_L_partsMore_35 rfl (lv_at hl 0 rfl) ?_
        refine lv_iload hx hb zd_L_partsMore_36 (lv_at hl 4 rfl) ?_
        refine lv_aload_n hx hb zd_L_partsMore_38 rfl (lv_at hl 0 rfl) ?_
        refine va_get (D := D) (ci := 1) (v := .ref aR) (C := zs_L) (T := zt_L) (N := 7) hx hb hts zi_L hown hK hP 0 rfl rfl 1 (by decide) hf15 (fun _ h9 => h9) rfl zd_L_partsMore_39 ?_
        refine lv_iload_n hx hb zd_L_partsMore_42 rfl (lv_at hl 2 rfl) ?_
        refine lv_iload hx hb zd_L_partsMore_43 (lv_at hl 4 rfl) ?_
        refine za_addN hx hb zd_L_partsMore_45 ?_
        refine za_ild hx hb hK hP 1 0 rfl rfl (k := ((k - 1) * 24) + y) (by omega) (by decide) zd_L_partsMore_46 ?_
        refine za_eqi (y := Rw ((k - 1) * 24 + y)) (za_of_lo (by omega)) ?_
        refine za_cV (As := [.int (nI y), .int (Rw ((k - 1) * 24 + y))]) (rest := []) ⟨hx, hb, hml, hown, hts⟩ (zc_L_stillAlike ln D cI cZ aL aN aR aU aK lr kc sd (za_ua Tg Rw ((k - 1) * 24) Un) y (Rw ((k - 1) * 24 + y)) (by omega)) (za_gV 2 hts zw_258 zw_260 zw_4 zw_37 zw_261 (by decide +kernel) ⟨Nat.le_of_ble_eq_true rfl, Nat.le_of_ble_eq_true rfl⟩) hK hN hP [0, 2] rfl (q0 := 0) rfl rfl hl rfl rfl (Nat.le_of_ble_eq_true rfl) zd_L_partsMore_47 ⟨Nat.le_of_ble_eq_true rfl, Nat.le_of_ble_eq_true rfl⟩ ?_
        refine za_eqi (y := za_pr Tg Rw Un k y) (rfl) ?_
        refine lv_istore (lv' := [(5, .int (za_pr Tg Rw Un k y)), (0, .ref aL), (1, .int (nI k)), (2, .int (nI ((k - 1) * 24))), (3, .int (za_bi (za_ex (za_pd Tg Rw Un k) y))), (4, .int (nI y))]) hx hb zd_L_partsMore_50 hl (by decide) rfl (fun ls hl => ?_)
        refine lv_aload_n hx hb zd_L_partsMore_52 rfl (lv_at hl 1 rfl) ?_
        refine va_get (D := D) (ci := 1) (v := .ref aR) (C := zs_L) (T := zt_L) (N := 7) hx hb hts zi_L hown hK hP 0 rfl rfl 1 (by decide) hf15 (fun _ h9 => h9) rfl zd_L_partsMore_53 ?_
        refine lv_iload_n hx hb zd_L_partsMore_56 rfl (lv_at hl 2 rfl) ?_
        refine lv_bipush (v := nI 24) hx hb zd_L_partsMore_57 (by decide) ?_
        refine za_mulN hx hb zd_L_partsMore_59 ?_
        refine lv_iload hx hb zd_L_partsMore_60 (lv_at hl 5 rfl) ?_
        refine za_addN hx hb zd_L_partsMore_62 ?_
        refine lv_iload hx hb zd_L_partsMore_63 (lv_at hl 0 rfl) ?_
        refine za_ist hx hb hK hP hD hS 1 0 rfl rfl (k := (k * 24) + y) (by omega) (by decide) zd_L_partsMore_65 (fun H locs hP hD hS => ?_)
        have hP : va_P D vwCl [(aL, .inr (1, [.ref aN, .ref aR, .ref aU, .ref aK, .int (nI lr), .int (nI kc), .int (za_bi sd)])), (aR, .inl (cI, 576, .inl (upd (za_of (za_pr Tg Rw Un k) Rw (k * 24) y) ((k * 24) + y) (za_pr Tg Rw Un k y)))), (aU, .inl (cI, 96, .inl (za_ua Tg Rw ((k - 1) * 24) Un))), (aN, .inr (0, [.ref aT, .ref aC, .int ct])), (aT, .inl (cI, 96, .inl Tg))] H := hP
        have hD : va_D A [(aL, .inr (1, [.ref aN, .ref aR, .ref aU, .ref aK, .int (nI lr), .int (nI kc), .int (za_bi sd)])), (aR, .inl (cI, 576, .inl (upd (za_of (za_pr Tg Rw Un k) Rw (k * 24) y) ((k * 24) + y) (za_pr Tg Rw Un k y)))), (aU, .inl (cI, 96, .inl (za_ua Tg Rw ((k - 1) * 24) Un))), (aN, .inr (0, [.ref aT, .ref aC, .int ct])), (aT, .inl (cI, 96, .inl Tg))] := hD
        refine lv_iload_n hx hb zd_L_partsMore_66 rfl (lv_at hl 4 rfl) ?_
        refine lv_iload hx hb zd_L_partsMore_67 (lv_at hl 0 rfl) ?_
        refine lv_aload_n hx hb zd_L_partsMore_69 rfl (lv_at hl 1 rfl) ?_
        refine va_get (D := D) (ci := 1) (v := .ref aR) (C := zs_L) (T := zt_L) (N := 7) hx hb hts zi_L hown hK hP 0 rfl rfl 1 (by decide) hf15 (fun _ h9 => h9) rfl zd_L_partsMore_70 ?_
        refine lv_iload_n hx hb zd_L_partsMore_73 rfl (lv_at hl 3 rfl) ?_
        refine lv_iload hx hb zd_L_partsMore_74 (lv_at hl 5 rfl) ?_
        refine za_addN hx hb zd_L_partsMore_76 ?_
        refine za_ild hx hb hK hP 1 0 rfl rfl (k := ((k - 1) * 24) + y) (by omega) (by decide) zd_L_partsMore_77 ?_
        refine za_eqi (y := Rw ((k - 1) * 24 + y)) (za_of_lo2 (by omega)) ?_
        refine lv_icmp_eq hx hb (tgt := 85) zd_L_partsMore_78 (by decide) (fun h78 => ?_) (fun h78 => ?_)
        · skip
          refine lv_iconst (v := nI 0) hx hb zd_L_partsMore_85 (by decide) ?_
          refine za_eqi (y := za_bi false) rfl ?_
          refine lv_ior hx hb zd_L_partsMore_86 ?_
          refine za_eqi (za_bor _ _) ?_
          refine lv_istore_n (lv' := [(3, .int (za_bi ((za_ex (za_pd Tg Rw Un k) y) || false))), (5, .int (za_pr Tg Rw Un k y)), (0, .ref aL), (1, .int (nI k)), (2, .int (nI ((k - 1) * 24))), (4, .int (nI y))]) hx hb zd_L_partsMore_87 rfl hl (by decide) rfl (fun ls hl => ?_)
          refine lv_iinc (k := 5) (v := nI (y + 1)) (lv' := [(4, .int (nI (y + 1))), (3, .int (za_bi ((za_ex (za_pd Tg Rw Un k) y) || false))), (5, .int (za_pr Tg Rw Un k y)), (0, .ref aL), (1, .int (nI k)), (2, .int (nI ((k - 1) * 24)))]) hx hb zd_L_partsMore_88 hl rfl (za_inc _) (by decide) rfl (fun ls hl => ?_)
          refine lv_goto hx hb (tgt := 28) zd_L_partsMore_91 (by decide) ?_
          have e1 : za_bi (za_ex (za_pd Tg Rw Un k) (y + 1)) = za_bi ((za_ex (za_pd Tg Rw Un k) y) || false) := by first | with_reducible rfl | (first | exact za_ofU rfl | simp [za_ex, za_pd, h78])
          have e2 : za_of (za_pr Tg Rw Un k) Rw (k * 24) (y + 1) = upd (za_of (za_pr Tg Rw Un k) Rw (k * 24) y) ((k * 24) + y) (za_pr Tg Rw Un k y) := by first | with_reducible rfl | (first | exact za_ofU rfl | simp [za_ex, za_pd, h78])
          exact ih28 (y + 1) ls H locs (by omega) (by omega) (by rw [e1]; exact lv_sub hl [3, 4, 5, 1, 0] rfl) (by rw [e2]; exact hP) (by rw [e2]; exact hD) hS
        · skip
          refine lv_iconst (v := nI 1) hx hb zd_L_partsMore_81 (by decide) ?_
          refine lv_goto hx hb (tgt := 86) zd_L_partsMore_82 (by decide) ?_
          refine za_eqi (y := za_bi true) rfl ?_
          refine lv_ior hx hb zd_L_partsMore_86 ?_
          refine za_eqi (za_bor _ _) ?_
          refine lv_istore_n (lv' := [(3, .int (za_bi ((za_ex (za_pd Tg Rw Un k) y) || true))), (5, .int (za_pr Tg Rw Un k y)), (0, .ref aL), (1, .int (nI k)), (2, .int (nI ((k - 1) * 24))), (4, .int (nI y))]) hx hb zd_L_partsMore_87 rfl hl (by decide) rfl (fun ls hl => ?_)
          refine lv_iinc (k := 5) (v := nI (y + 1)) (lv' := [(4, .int (nI (y + 1))), (3, .int (za_bi ((za_ex (za_pd Tg Rw Un k) y) || true))), (5, .int (za_pr Tg Rw Un k y)), (0, .ref aL), (1, .int (nI k)), (2, .int (nI ((k - 1) * 24)))]) hx hb zd_L_partsMore_88 hl rfl (za_inc _) (by decide) rfl (fun ls hl => ?_)
          refine lv_goto hx hb (tgt := 28) zd_L_partsMore_91 (by decide) ?_
          have e1 : za_bi (za_ex (za_pd Tg Rw Un k) (y + 1)) = za_bi ((za_ex (za_pd Tg Rw Un k) y) || true) := by first | with_reducible rfl | (first | exact za_ofU rfl | simp [za_ex, za_pd, h78])
          have e2 : za_of (za_pr Tg Rw Un k) Rw (k * 24) (y + 1) = upd (za_of (za_pr Tg Rw Un k) Rw (k * 24) y) ((k * 24) + y) (za_pr Tg Rw Un k y) := by first | with_reducible rfl | (first | exact za_ofU rfl | simp [za_ex, za_pd, h78])
          exact ih28 (y + 1) ls H locs (by omega) (by omega) (by rw [e1]; exact lv_sub hl [3, 4, 5, 1, 0] rfl) (by rw [e2]; exact hP) (by rw [e2]; exact hD) hS
  have e1 : za_bi (za_ex (za_pd Tg Rw Un k) 0) = nI 0 := by first | with_reducible rfl | (first | rfl | exact za_of0 _ _ _)
  have e2 : za_of (za_pr Tg Rw Un k) Rw (k * 24) 0 = Rw := by first | with_reducible rfl | (first | rfl | exact za_of0 _ _ _)
  exact hC28 (24 - 0 + 1) 0 ls H locs (Nat.lt_succ_self _) (by omega) (by rw [e1]; exact lv_sub hl [3, 4, 2, 1, 0] rfl) (by rw [e2]; exact hP) (by rw [e2]; exact hD) hS
def zr_C_shrinks : Room := { frames := 3, cells := 0, slots := 0, locals := 69 }
set_option maxHeartbeats 4000000 in
set_option maxRecDepth 100000 in
theorem zc_C_shrinks (ln : Launch) (D : va_G) (cI cZ : ClassId) (sz : Nat) (aV : Nat) (aN : Nat) (aB : Nat) (aW : Nat) (sc : Bool) (aT : Nat) (aC : Nat) (ct : Int32) (Tg : Nat → Int32) (Bl : Nat → Int32) (Uc : Nat → Int32) : Met ln zm_C_shrinks (Cond.code zm_C_shrinks zo_C_shrinks 4 (some .boolean) :: zb_big) zr_C_shrinks (za_Pw D vwCl [(cI, .int), (cZ, .boolean)] [.ref aV] [(aV, .inr (2, [.ref aN, .ref aB, .ref aW, .int (za_bi sc)])), (aB, .inl (cI, 24, .inl Bl)), (aW, .inl (cI, 96, .inl Uc)), (aN, .inr (0, [.ref aT, .ref aC, .int ct])), (aT, .inl (cI, 96, .inl Tg))] sz) (va_Qi (fun (r : Int32) (_u : Unit) => r = za_bi (za_ex (za_cd Tg Bl Uc) 24)) (za_B D vwCl [(aV, .inr (2, [.ref aN, .ref aB, .ref aW, .int (za_bi sc)])), (aB, .inl (cI, 24, .inl Bl)), (aW, .inl (cI, 96, .inl Uc)), (aN, .inr (0, [.ref aT, .ref aC, .int ct])), (aT, .inl (cI, 96, .inl Tg))] sz (fun (_u : Unit) => [(aV, .inr (2, [.ref aN, .ref aB, .ref aW, .int (za_bi sc)])), (aB, .inl (cI, 24, .inl (za_fl (za_cb Tg Bl Uc) Bl 24))), (aW, .inl (cI, 96, .inl (za_ua Tg Bl 0 Uc))), (aN, .inr (0, [.ref aT, .ref aC, .int ct])), (aT, .inl (cI, 96, .inl Tg))])) (va_A [(aV, .inr (2, [.ref aN, .ref aB, .ref aW, .int (za_bi sc)])), (aB, .inl (cI, 24, .inl Bl)), (aW, .inl (cI, 96, .inl Uc)), (aN, .inr (0, [.ref aT, .ref aC, .int ct])), (aT, .inl (cI, 96, .inl Tg))] sz)) 0 0 (va_A [(aV, .inr (2, [.ref aN, .ref aB, .ref aW, .int (za_bi sc)])), (aB, .inl (cI, 24, .inl Bl)), (aW, .inl (cI, 96, .inl Uc)), (aN, .inr (0, [.ref aT, .ref aC, .int ct])), (aT, .inl (cI, 96, .inl Tg))] sz) := by
  refine za_wi (cc := zo_C_shrinks) (maxL := 4) (ty := .boolean) (by decide) (Nat.le_of_ble_eq_true rfl) (fun _ _ h => by rw [h]; exact za_nar _) ?_
  intro p e sg m args below meth c H0 A Q hx hb hml hts hown hmn hP hK hN hD hA hS hret ls hl
  have hP : va_P D vwCl [(aV, .inr (2, [.ref aN, .ref aB, .ref aW, .int (za_bi sc)])), (aB, .inl (cI, 24, .inl Bl)), (aW, .inl (cI, 96, .inl Uc)), (aN, .inr (0, [.ref aT, .ref aC, .int ct])), (aT, .inl (cI, 96, .inl Tg))] H0 := hP
  have hD : va_D A [(aV, .inr (2, [.ref aN, .ref aB, .ref aW, .int (za_bi sc)])), (aB, .inl (cI, 24, .inl Bl)), (aW, .inl (cI, 96, .inl Uc)), (aN, .inr (0, [.ref aT, .ref aC, .int ct])), (aT, .inl (cI, 96, .inl Tg))] := hD
  have hl : lv_has ls 4 [(0, .ref aV)] := hl
  have hf9 := hts _ zw_101
  have hf15 := hts _ zw_102
  have hf19 := hts _ zw_103
  refine lv_aload_n hx hb zd_C_shrinks_0 rfl (lv_at hl 0 rfl) ?_
  refine va_get (D := D) (ci := 2) (v := .ref aN) (C := zs_C) (T := zt_C) (N := 4) hx hb hts zi_C hown hK hP 0 rfl rfl 0 (by decide) hf9 (fun _ h9 => h9) rfl zd_C_shrinks_1 ?_
  refine lv_aload_n hx hb zd_C_shrinks_4 rfl (lv_at hl 0 rfl) ?_
  refine va_get (D := D) (ci := 2) (v := .ref aB) (C := zs_C) (T := zt_C) (N := 4) hx hb hts zi_C hown hK hP 0 rfl rfl 1 (by decide) hf15 (fun _ h9 => h9) rfl zd_C_shrinks_5 ?_
  refine lv_iconst (v := nI 0) hx hb zd_C_shrinks_8 (by decide) ?_
  refine lv_aload_n hx hb zd_C_shrinks_9 rfl (lv_at hl 0 rfl) ?_
  refine va_get (D := D) (ci := 2) (v := .ref aW) (C := zs_C) (T := zt_C) (N := 4) hx hb hts zi_C hown hK hP 0 rfl rfl 2 (by decide) hf19 (fun _ h9 => h9) rfl zd_C_shrinks_10 ?_
  refine za_wVv (As := [.ref aB, .int (nI 0), .ref aW]) (rest := []) (wr := [(aV, .inr (2, [.ref aN, .ref aB, .ref aW, .int (za_bi sc)]))]) (wz := (fun _ => [(aV, .inr (2, [.ref aN, .ref aB, .ref aW, .int (za_bi sc)])), (aB, .inl (cI, 24, .inl Bl)), (aW, .inl (cI, 96, .inl (za_ua Tg Bl 0 Uc))), (aN, .inr (0, [.ref aT, .ref aC, .int ct])), (aT, .inl (cI, 96, .inl Tg))])) ⟨hx, hb, hml, hown, hts⟩ (zc_N_unite ln D cI cZ _ aN aT aC ct Tg aB 24 Bl 0 aW Uc (by omega) (by omega)) (za_gV 3 hts zw_356 zw_252 zw_253 zw_36 zw_254 (by decide +kernel) ⟨Nat.le_of_ble_eq_true rfl, Nat.le_of_ble_eq_true rfl⟩) hK hN hP hD hS hA [3, 4, 1, 2] [0] [0, 3, 4, 1, 2] rfl rfl (by decide) (by decide) (by decide) (by decide) (fun _ => rfl) (q0 := 3) rfl rfl hl rfl rfl (Nat.le_of_ble_eq_true rfl) zd_C_shrinks_13 ⟨Nat.le_of_ble_eq_true rfl, Nat.le_of_ble_eq_true rfl⟩ (fun u13 H locs hq13 hP hD hS => ?_)
  have hP : va_P D vwCl [(aV, .inr (2, [.ref aN, .ref aB, .ref aW, .int (za_bi sc)])), (aB, .inl (cI, 24, .inl Bl)), (aW, .inl (cI, 96, .inl (za_ua Tg Bl 0 Uc))), (aN, .inr (0, [.ref aT, .ref aC, .int ct])), (aT, .inl (cI, 96, .inl Tg))] H := hP
  have hD : va_D A [(aV, .inr (2, [.ref aN, .ref aB, .ref aW, .int (za_bi sc)])), (aB, .inl (cI, 24, .inl Bl)), (aW, .inl (cI, 96, .inl (za_ua Tg Bl 0 Uc))), (aN, .inr (0, [.ref aT, .ref aC, .int ct])), (aT, .inl (cI, 96, .inl Tg))] := hD
  refine lv_iconst (v := nI 0) hx hb zd_C_shrinks_16 (by decide) ?_
  refine lv_istore_n (lv' := [(1, .int (nI 0)), (0, .ref aV)]) hx hb zd_C_shrinks_17 rfl hl (by decide) rfl (fun ls hl => ?_)
  refine lv_iconst (v := nI 0) hx hb zd_C_shrinks_18 (by decide) ?_
  refine lv_istore_n (lv' := [(2, .int (nI 0)), (1, .int (nI 0)), (0, .ref aV)]) hx hb zd_C_shrinks_19 rfl hl (by decide) rfl (fun ls hl => ?_)
  have hC20 : ∀ (n20 : Nat) (y : Nat) (ls : Array Slot) (H : Heap) (locs : List Loc), 24 - y < n20 → y ≤ 24 → lv_has ls 4 [(0, .ref aV), (1, .int (za_bi (za_ex (za_cd Tg Bl Uc) y))), (2, .int (nI y))] → va_P D vwCl [(aV, .inr (2, [.ref aN, .ref aB, .ref aW, .int (za_bi sc)])), (aB, .inl (cI, 24, .inl (za_fl (za_cb Tg Bl Uc) Bl y))), (aW, .inl (cI, 96, .inl (za_ua Tg Bl 0 Uc))), (aN, .inr (0, [.ref aT, .ref aC, .int ct])), (aT, .inl (cI, 96, .inl Tg))] H → va_D A [(aV, .inr (2, [.ref aN, .ref aB, .ref aW, .int (za_bi sc)])), (aB, .inl (cI, 24, .inl (za_fl (za_cb Tg Bl Uc) Bl y))), (aW, .inl (cI, 96, .inl (za_ua Tg Bl 0 Uc))), (aN, .inr (0, [.ref aT, .ref aC, .int ct])), (aT, .inl (cI, 96, .inl Tg))] → va_S A H0 H locs → W p ln e zr_C_shrinks sg m args below meth c H locs 0 0 Q (F0 m 20 ls []) := by
    intro n20
    induction n20 with
    | zero => intro y ls H locs hn20 hi_y hl hP hD hS; exact absurd hn20 (Nat.not_lt_zero _)
    | succ n20 ih20 =>
      intro y ls H locs hn20 hi_y hl hP hD hS
      refine lv_iload_n hx hb zd_C_shrinks_20 rfl (lv_at hl 2 rfl) ?_
      refine lv_bipush (v := nI 24) hx hb zd_C_shrinks_21 (by decide) ?_
      refine lv_icmp_ge hx hb (tgt := 63) zd_C_shrinks_23 (by decide) (fun h23 => ?_) (fun h23 => ?_)
      · have h23 := za_leN h23 (by omega) (by omega)
        refine lv_iload_n hx hb zd_C_shrinks_63 rfl (lv_at hl 1 rfl) ?_
        have e1 : za_fl (za_cb Tg Bl Uc) Bl 24 = za_fl (za_cb Tg Bl Uc) Bl y := by first | with_reducible rfl | (rw [show y = 24 by omega])
        have hP9 : va_P D vwCl [(aV, .inr (2, [.ref aN, .ref aB, .ref aW, .int (za_bi sc)])), (aB, .inl (cI, 24, .inl (za_fl (za_cb Tg Bl Uc) Bl 24))), (aW, .inl (cI, 96, .inl (za_ua Tg Bl 0 Uc))), (aN, .inr (0, [.ref aT, .ref aC, .int ct])), (aT, .inl (cI, 96, .inl Tg))] H := by rw [e1]; exact hP
        have hD9 : va_D A [(aV, .inr (2, [.ref aN, .ref aB, .ref aW, .int (za_bi sc)])), (aB, .inl (cI, 24, .inl (za_fl (za_cb Tg Bl Uc) Bl 24))), (aW, .inl (cI, 96, .inl (za_ua Tg Bl 0 Uc))), (aN, .inr (0, [.ref aT, .ref aC, .int ct])), (aT, .inl (cI, 96, .inl Tg))] := by rw [e1]; exact hD
        exact hret _ () _ _ _ _ (by first | with_reducible rfl | (rw [show y = 24 by omega])) hP9 hD9 hS zd_C_shrinks_64
      · have h23 := za_nleN h23 (by omega) (by omega)
        refine lv_aload_n hx hb zd_C_shrinks_26 rfl (lv_at hl 0 rfl) ?_
        refine lv_iload_n hx hb zd_C_shrinks_27 rfl (lv_at hl 2 rfl) ?_
        refine za_cV (As := [.int (nI y)]) (rest := []) ⟨hx, hb, hml, hown, hts⟩ (zc_C_stillBelow ln D cI cZ aV aN aB aW sc aT aC ct Tg (za_fl (za_cb Tg Bl Uc) Bl y) (za_ua Tg Bl 0 Uc) y (by omega)) (za_gV 1 hts zw_357 zw_359 zw_11 zw_38 zw_360 (by decide +kernel) ⟨Nat.le_of_ble_eq_true rfl, Nat.le_of_ble_eq_true rfl⟩) hK hN hP [0, 3, 4, 1, 2] rfl (q0 := 0) rfl rfl hl rfl rfl (Nat.le_of_ble_eq_true rfl) zd_C_shrinks_28 ⟨Nat.le_of_ble_eq_true rfl, Nat.le_of_ble_eq_true rfl⟩ ?_
        refine za_eqi (y := za_cb Tg Bl Uc y) (by rw [za_fl_ge (Nat.le_refl _)]; rfl) ?_
        refine lv_istore_n (lv' := [(3, .int (za_cb Tg Bl Uc y)), (0, .ref aV), (1, .int (za_bi (za_ex (za_cd Tg Bl Uc) y))), (2, .int (nI y))]) hx hb zd_C_shrinks_31 rfl hl (by decide) rfl (fun ls hl => ?_)
        refine lv_iload_n hx hb zd_C_shrinks_32 rfl (lv_at hl 2 rfl) ?_
        refine lv_iload_n hx hb zd_C_shrinks_33 rfl (lv_at hl 0 rfl) ?_
        refine lv_aload_n hx hb zd_C_shrinks_34 rfl (lv_at hl 1 rfl) ?_
        refine va_get (D := D) (ci := 2) (v := .ref aB) (C := zs_C) (T := zt_C) (N := 4) hx hb hts zi_C hown hK hP 0 rfl rfl 1 (by decide) hf15 (fun _ h9 => h9) rfl zd_C_shrinks_35 ?_
        refine lv_iload_n hx hb zd_C_shrinks_38 rfl (lv_at hl 3 rfl) ?_
        refine za_ild hx hb hK hP 1 0 rfl rfl (k := y) (by omega) (by decide) zd_C_shrinks_39 ?_
        refine za_eqi (y := Bl y) (za_fl_ge (Nat.le_refl _)) ?_
        refine lv_icmp_eq hx hb (tgt := 47) zd_C_shrinks_40 (by decide) (fun h40 => ?_) (fun h40 => ?_)
        · skip
          refine lv_iconst (v := nI 0) hx hb zd_C_shrinks_47 (by decide) ?_
          refine za_eqi (y := za_bi false) rfl ?_
          refine lv_ior hx hb zd_C_shrinks_48 ?_
          refine za_eqi (za_bor _ _) ?_
          refine lv_istore_n (lv' := [(1, .int (za_bi ((za_ex (za_cd Tg Bl Uc) y) || false))), (3, .int (za_cb Tg Bl Uc y)), (0, .ref aV), (2, .int (nI y))]) hx hb zd_C_shrinks_49 rfl hl (by decide) rfl (fun ls hl => ?_)
          refine lv_aload_n hx hb zd_C_shrinks_50 rfl (lv_at hl 2 rfl) ?_
          refine va_get (D := D) (ci := 2) (v := .ref aB) (C := zs_C) (T := zt_C) (N := 4) hx hb hts zi_C hown hK hP 0 rfl rfl 1 (by decide) hf15 (fun _ h9 => h9) rfl zd_C_shrinks_51 ?_
          refine lv_iload_n hx hb zd_C_shrinks_54 rfl (lv_at hl 3 rfl) ?_
          refine lv_iload_n hx hb zd_C_shrinks_55 rfl (lv_at hl 1 rfl) ?_
          refine za_ist hx hb hK hP hD hS 1 0 rfl rfl (k := y) (by omega) (by decide) zd_C_shrinks_56 (fun H locs hP hD hS => ?_)
          have hP : va_P D vwCl [(aV, .inr (2, [.ref aN, .ref aB, .ref aW, .int (za_bi sc)])), (aB, .inl (cI, 24, .inl (upd (za_fl (za_cb Tg Bl Uc) Bl y) y (za_cb Tg Bl Uc y)))), (aW, .inl (cI, 96, .inl (za_ua Tg Bl 0 Uc))), (aN, .inr (0, [.ref aT, .ref aC, .int ct])), (aT, .inl (cI, 96, .inl Tg))] H := hP
          have hD : va_D A [(aV, .inr (2, [.ref aN, .ref aB, .ref aW, .int (za_bi sc)])), (aB, .inl (cI, 24, .inl (upd (za_fl (za_cb Tg Bl Uc) Bl y) y (za_cb Tg Bl Uc y)))), (aW, .inl (cI, 96, .inl (za_ua Tg Bl 0 Uc))), (aN, .inr (0, [.ref aT, .ref aC, .int ct])), (aT, .inl (cI, 96, .inl Tg))] := hD
          refine lv_iinc (k := 3) (v := nI (y + 1)) (lv' := [(2, .int (nI (y + 1))), (1, .int (za_bi ((za_ex (za_cd Tg Bl Uc) y) || false))), (3, .int (za_cb Tg Bl Uc y)), (0, .ref aV)]) hx hb zd_C_shrinks_57 hl rfl (za_inc _) (by decide) rfl (fun ls hl => ?_)
          refine lv_goto hx hb (tgt := 20) zd_C_shrinks_60 (by decide) ?_
          have e1 : za_bi (za_ex (za_cd Tg Bl Uc) (y + 1)) = za_bi ((za_ex (za_cd Tg Bl Uc) y) || false) := by first | with_reducible rfl | (first | exact za_flU rfl | simp [za_ex, za_cd, h40])
          have e2 : za_fl (za_cb Tg Bl Uc) Bl (y + 1) = upd (za_fl (za_cb Tg Bl Uc) Bl y) y (za_cb Tg Bl Uc y) := by first | with_reducible rfl | (first | exact za_flU rfl | simp [za_ex, za_cd, h40])
          exact ih20 (y + 1) ls H locs (by omega) (by omega) (by rw [e1]; exact lv_sub hl [3, 1, 0] rfl) (by rw [e2]; exact hP) (by rw [e2]; exact hD) hS
        · skip
          refine lv_iconst (v := nI 1) hx hb zd_C_shrinks_43 (by decide) ?_
          refine lv_goto hx hb (tgt := 48) zd_C_shrinks_44 (by decide) ?_
          refine za_eqi (y := za_bi true) rfl ?_
          refine lv_ior hx hb zd_C_shrinks_48 ?_
          refine za_eqi (za_bor _ _) ?_
          refine lv_istore_n (lv' := [(1, .int (za_bi ((za_ex (za_cd Tg Bl Uc) y) || true))), (3, .int (za_cb Tg Bl Uc y)), (0, .ref aV), (2, .int (nI y))]) hx hb zd_C_shrinks_49 rfl hl (by decide) rfl (fun ls hl => ?_)
          refine lv_aload_n hx hb zd_C_shrinks_50 rfl (lv_at hl 2 rfl) ?_
          refine va_get (D := D) (ci := 2) (v := .ref aB) (C := zs_C) (T := zt_C) (N := 4) hx hb hts zi_C hown hK hP 0 rfl rfl 1 (by decide) hf15 (fun _ h9 => h9) rfl zd_C_shrinks_51 ?_
          refine lv_iload_n hx hb zd_C_shrinks_54 rfl (lv_at hl 3 rfl) ?_
          refine lv_iload_n hx hb zd_C_shrinks_55 rfl (lv_at hl 1 rfl) ?_
          refine za_ist hx hb hK hP hD hS 1 0 rfl rfl (k := y) (by omega) (by decide) zd_C_shrinks_56 (fun H locs hP hD hS => ?_)
          have hP : va_P D vwCl [(aV, .inr (2, [.ref aN, .ref aB, .ref aW, .int (za_bi sc)])), (aB, .inl (cI, 24, .inl (upd (za_fl (za_cb Tg Bl Uc) Bl y) y (za_cb Tg Bl Uc y)))), (aW, .inl (cI, 96, .inl (za_ua Tg Bl 0 Uc))), (aN, .inr (0, [.ref aT, .ref aC, .int ct])), (aT, .inl (cI, 96, .inl Tg))] H := hP
          have hD : va_D A [(aV, .inr (2, [.ref aN, .ref aB, .ref aW, .int (za_bi sc)])), (aB, .inl (cI, 24, .inl (upd (za_fl (za_cb Tg Bl Uc) Bl y) y (za_cb Tg Bl Uc y)))), (aW, .inl (cI, 96, .inl (za_ua Tg Bl 0 Uc))), (aN, .inr (0, [.ref aT, .ref aC, .int ct])), (aT, .inl (cI, 96, .inl Tg))] := hD
          refine lv_iinc (k := 3) (v := nI (y + 1)) (lv' := [(2, .int (nI (y + 1))), (1, .int (za_bi ((za_ex (za_cd Tg Bl Uc) y) || true))), (3, .int (za_cb Tg Bl Uc y)), (0, .ref aV)]) hx hb zd_C_shrinks_57 hl rfl (za_inc _) (by decide) rfl (fun ls hl => ?_)
          refine lv_goto hx hb (tgt := 20) zd_C_shrinks_60 (by decide) ?_
          have e1 : za_bi (za_ex (za_cd Tg Bl Uc) (y + 1)) = za_bi ((za_ex (za_cd Tg Bl Uc) y) || true) := by first | with_reducible rfl | (first | exact za_flU rfl | simp [za_ex, za_cd, h40])
          have e2 : za_fl (za_cb Tg Bl Uc) Bl (y + 1) = upd (za_fl (za_cb Tg Bl Uc) Bl y) y (za_cb Tg Bl Uc y) := by first | with_reducible rfl | (first | exact za_flU rfl | simp [za_ex, za_cd, h40])
          exact ih20 (y + 1) ls H locs (by omega) (by omega) (by rw [e1]; exact lv_sub hl [3, 1, 0] rfl) (by rw [e2]; exact hP) (by rw [e2]; exact hD) hS
  have e1 : za_bi (za_ex (za_cd Tg Bl Uc) 0) = nI 0 := by first | with_reducible rfl | (first | rfl | exact za_fl0 _ _)
  have e2 : za_fl (za_cb Tg Bl Uc) Bl 0 = Bl := by first | with_reducible rfl | (first | rfl | exact za_fl0 _ _)
  exact hC20 (24 - 0 + 1) 0 ls H locs (Nat.lt_succ_self _) (by omega) (by rw [e1]; exact lv_sub hl [2, 1, 0] rfl) (by rw [e2]; exact hP) (by rw [e2]; exact hD) hS
def zr_G_firstOf : Room := { frames := 2, cells := 0, slots := 0, locals := 47 }
set_option maxHeartbeats 4000000 in
set_option maxRecDepth 100000 in
theorem zc_G_firstOf (ln : Launch) (D : va_G) (cI cZ : ClassId) (aG : Nat) (aN : Nat) (aL : Nat) (aS : Nat) (aM : Nat) (aA : Nat) (ln0 : Nat) (aT : Nat) (aC : Nat) (ct : Int32) (aR : Nat) (aU : Nat) (aK : Nat) (lr : Nat) (kc : Nat) (sd : Bool) (Tg : Nat → Int32) (Rw : Nat → Int32) (a : Nat) (b : Nat) (k : Nat) (ha0 : a < 24) (hb0 : b < 24) (hk0 : k < 24) : Met ln zm_G_firstOf (Cond.code zm_G_firstOf zo_G_firstOf 6 (some .int) :: zb_big) zr_G_firstOf (za_Pr D vwCl [(cI, .int), (cZ, .boolean)] [.ref aG, .int (nI a), .int (nI b), .int (nI k)] [(aG, .inr (3, [.ref aN, .ref aL, .ref aS, .ref aM, .ref aA, .int (nI ln0)])), (aN, .inr (0, [.ref aT, .ref aC, .int ct])), (aT, .inl (cI, 96, .inl Tg)), (aL, .inr (1, [.ref aN, .ref aR, .ref aU, .ref aK, .int (nI lr), .int (nI kc), .int (za_bi sd)])), (aR, .inl (cI, 576, .inl Rw))]) (vp_Si (fun r => r = za_fo Tg Rw a b k)) 0 0 (fun _ => False) := by
  refine za_reader (cc := zo_G_firstOf) (maxL := 6) (ty := .int) (by decide) (Nat.le_of_ble_eq_true rfl) (fun _ _ => rfl) ?_
  intro p e sg m args below meth c H Q hx hb hml hts hown hP hK hN hret ls hl
  have hP : va_P D vwCl [(aG, .inr (3, [.ref aN, .ref aL, .ref aS, .ref aM, .ref aA, .int (nI ln0)])), (aN, .inr (0, [.ref aT, .ref aC, .int ct])), (aT, .inl (cI, 96, .inl Tg)), (aL, .inr (1, [.ref aN, .ref aR, .ref aU, .ref aK, .int (nI lr), .int (nI kc), .int (za_bi sd)])), (aR, .inl (cI, 576, .inl Rw))] H := hP
  have hl : lv_has ls 6 [(0, .ref aG), (1, .int (nI a)), (2, .int (nI b)), (3, .int (nI k))] := hl
  refine lv_iconst (v := nI 0) hx hb zd_G_firstOf_0 (by decide) ?_
  refine lv_istore (lv' := [(4, .int (nI 0)), (0, .ref aG), (1, .int (nI a)), (2, .int (nI b)), (3, .int (nI k))]) hx hb zd_G_firstOf_1 hl (by decide) rfl (fun ls hl => ?_)
  have hC3 : ∀ (n3 : Nat) (l : Nat) (ls : Array Slot), 4 - l < n3 → l ≤ 4 → (∀ j, j < l * 24 → (fun x => !za_atm Tg Rw a b k x) j = true) → lv_has ls 6 [(0, .ref aG), (1, .int (nI a)), (2, .int (nI b)), (3, .int (nI k)), (4, .int (nI l))] → W p ln e zr_G_firstOf sg m args below meth c H [] 0 0 Q (F0 m 3 ls []) := by
    intro n3
    induction n3 with
    | zero => intro l ls hn3 hi_l hq hl; exact absurd hn3 (Nat.not_lt_zero _)
    | succ n3 ih3 =>
      intro l ls hn3 hi_l hq hl
      refine lv_iload hx hb zd_G_firstOf_3 (lv_at hl 4 rfl) ?_
      refine lv_iconst (v := nI 4) hx hb zd_G_firstOf_5 (by decide) ?_
      refine lv_icmp_ge hx hb (tgt := 54) zd_G_firstOf_6 (by decide) (fun h6 => ?_) (fun h6 => ?_)
      · have h6 := za_leN h6 (by omega) (by omega)
        refine lv_iconst (v := (-1)) hx hb zd_G_firstOf_54 (by decide) ?_
        exact hret _ _ _ (by first | with_reducible rfl | (exact za_fo_no (fun j hj => hq j (by omega)))) zd_G_firstOf_55
      · have h6 := za_nleN h6 (by omega) (by omega)
        refine lv_iconst (v := nI 0) hx hb zd_G_firstOf_9 (by decide) ?_
        refine lv_istore (lv' := [(5, .int (nI 0)), (0, .ref aG), (1, .int (nI a)), (2, .int (nI b)), (3, .int (nI k)), (4, .int (nI l))]) hx hb zd_G_firstOf_10 hl (by decide) rfl (fun ls hl => ?_)
        have hC12 : ∀ (n12 : Nat) (u : Nat) (ls : Array Slot), 24 - u < n12 → u ≤ 24 → (∀ j, j < l * 24 + u → (fun x => !za_atm Tg Rw a b k x) j = true) → lv_has ls 6 [(0, .ref aG), (1, .int (nI a)), (2, .int (nI b)), (3, .int (nI k)), (4, .int (nI l)), (5, .int (nI u))] → W p ln e zr_G_firstOf sg m args below meth c H [] 0 0 Q (F0 m 12 ls []) := by
          intro n12
          induction n12 with
          | zero => intro u ls hn12 hi_u hq2 hl; exact absurd hn12 (Nat.not_lt_zero _)
          | succ n12 ih12 =>
            intro u ls hn12 hi_u hq2 hl
            refine lv_iload hx hb zd_G_firstOf_12 (lv_at hl 5 rfl) ?_
            refine lv_bipush (v := nI 24) hx hb zd_G_firstOf_14 (by decide) ?_
            refine lv_icmp_ge hx hb (tgt := 48) zd_G_firstOf_16 (by decide) (fun h16 => ?_) (fun h16 => ?_)
            · have h16 := za_leN h16 (by omega) (by omega)
              refine lv_iinc (k := 4) (v := nI (l + 1)) (lv' := [(4, .int (nI (l + 1))), (0, .ref aG), (1, .int (nI a)), (2, .int (nI b)), (3, .int (nI k)), (5, .int (nI u))]) hx hb zd_G_firstOf_48 hl rfl (za_inc _) (by decide) rfl (fun ls hl => ?_)
              refine lv_goto hx hb (tgt := 3) zd_G_firstOf_51 (by decide) ?_
              exact ih3 (l + 1) ls (by omega) (by omega) (by exact fun j hj => hq2 j (by omega)) (lv_sub hl [1, 2, 3, 4, 0] rfl)
            · have h16 := za_nleN h16 (by omega) (by omega)
              refine lv_aload_n hx hb zd_G_firstOf_19 rfl (lv_at hl 0 rfl) ?_
              refine lv_iload_n hx hb zd_G_firstOf_20 rfl (lv_at hl 1 rfl) ?_
              refine lv_iload_n hx hb zd_G_firstOf_21 rfl (lv_at hl 2 rfl) ?_
              refine lv_iload hx hb zd_G_firstOf_22 (lv_at hl 4 rfl) ?_
              refine lv_iload hx hb zd_G_firstOf_24 (lv_at hl 5 rfl) ?_
              refine lv_iload_n hx hb zd_G_firstOf_26 rfl (lv_at hl 3 rfl) ?_
              refine za_cV (As := [.int (nI a), .int (nI b), .int (nI l), .int (nI u), .int (nI k)]) (rest := []) ⟨hx, hb, hml, hown, hts⟩ (zc_G_isAttack ln D cI cZ aG aN aL aS aM aA ln0 aT aC ct aR aU aK lr kc sd Tg Rw a b l u k (by omega) (by omega) (by omega) (by omega) (by omega)) (za_gV 5 hts zw_390 zw_392 zw_14 zw_39 zw_393 (by decide +kernel) ⟨Nat.le_of_ble_eq_true rfl, Nat.le_of_ble_eq_true rfl⟩) hK hN hP [0, 1, 2, 3, 4] rfl (q0 := 0) rfl rfl hl rfl rfl (Nat.le_of_ble_eq_true rfl) zd_G_firstOf_27 ⟨Nat.le_of_ble_eq_true rfl, Nat.le_of_ble_eq_true rfl⟩ ?_
              refine lv_if_eq hx hb (tgt := 42) zd_G_firstOf_30 (by decide) (fun h30 => ?_) (fun h30 => ?_)
              · have h30 := za_bF h30
                refine lv_iinc (k := 5) (v := nI (u + 1)) (lv' := [(5, .int (nI (u + 1))), (0, .ref aG), (1, .int (nI a)), (2, .int (nI b)), (3, .int (nI k)), (4, .int (nI l))]) hx hb zd_G_firstOf_42 hl rfl (za_inc _) (by decide) rfl (fun ls hl => ?_)
                refine lv_goto hx hb (tgt := 12) zd_G_firstOf_45 (by decide) ?_
                exact ih12 (u + 1) ls (by omega) (by omega) (by exact za_all_s (p := (fun x => !za_atm Tg Rw a b k x)) hq2 (by simp [za_atm_at (show u < 24 by omega), h30])) (lv_sub hl [1, 2, 3, 4, 5, 0] rfl)
              · have h30 := za_bT h30
                refine lv_iload hx hb zd_G_firstOf_33 (lv_at hl 4 rfl) ?_
                refine lv_bipush (v := nI 100) hx hb zd_G_firstOf_35 (by decide) ?_
                refine za_mulN hx hb zd_G_firstOf_37 ?_
                refine lv_iload hx hb zd_G_firstOf_38 (lv_at hl 5 rfl) ?_
                refine za_addN hx hb zd_G_firstOf_40 ?_
                exact hret _ _ _ (by first | with_reducible rfl | (exact za_fo_at (by omega) (by omega) hq2 h30)) zd_G_firstOf_41
        exact hC12 (24 - 0 + 1) 0 ls (Nat.lt_succ_self _) (by omega) (by exact fun j hj => hq j (by omega)) (lv_sub hl [1, 2, 3, 4, 5, 0] rfl)
  exact hC3 (4 - 0 + 1) 0 ls (Nat.lt_succ_self _) (by omega) (by exact fun j hj => by omega) (lv_sub hl [1, 2, 3, 4, 0] rfl)
def zr_G_countOf : Room := { frames := 2, cells := 0, slots := 0, locals := 47 }
set_option maxHeartbeats 4000000 in
set_option maxRecDepth 100000 in
theorem zc_G_countOf (ln : Launch) (D : va_G) (cI cZ : ClassId) (aG : Nat) (aN : Nat) (aL : Nat) (aS : Nat) (aM : Nat) (aA : Nat) (ln0 : Nat) (aT : Nat) (aC : Nat) (ct : Int32) (aR : Nat) (aU : Nat) (aK : Nat) (lr : Nat) (kc : Nat) (sd : Bool) (Tg : Nat → Int32) (Rw : Nat → Int32) (a : Nat) (b : Nat) (k : Nat) (ha0 : a < 24) (hb0 : b < 24) (hk0 : k < 24) : Met ln zm_G_countOf (Cond.code zm_G_countOf zo_G_countOf 7 (some .int) :: zb_big) zr_G_countOf (za_Pr D vwCl [(cI, .int), (cZ, .boolean)] [.ref aG, .int (nI a), .int (nI b), .int (nI k)] [(aG, .inr (3, [.ref aN, .ref aL, .ref aS, .ref aM, .ref aA, .int (nI ln0)])), (aN, .inr (0, [.ref aT, .ref aC, .int ct])), (aT, .inl (cI, 96, .inl Tg)), (aL, .inr (1, [.ref aN, .ref aR, .ref aU, .ref aK, .int (nI lr), .int (nI kc), .int (za_bi sd)])), (aR, .inl (cI, 576, .inl Rw))]) (vp_Si (fun r => r = nI (za_cn (za_atm Tg Rw a b k) 96))) 0 0 (fun _ => False) := by
  refine za_reader (cc := zo_G_countOf) (maxL := 7) (ty := .int) (by decide) (Nat.le_of_ble_eq_true rfl) (fun _ _ => rfl) ?_
  intro p e sg m args below meth c H Q hx hb hml hts hown hP hK hN hret ls hl
  have hP : va_P D vwCl [(aG, .inr (3, [.ref aN, .ref aL, .ref aS, .ref aM, .ref aA, .int (nI ln0)])), (aN, .inr (0, [.ref aT, .ref aC, .int ct])), (aT, .inl (cI, 96, .inl Tg)), (aL, .inr (1, [.ref aN, .ref aR, .ref aU, .ref aK, .int (nI lr), .int (nI kc), .int (za_bi sd)])), (aR, .inl (cI, 576, .inl Rw))] H := hP
  have hl : lv_has ls 7 [(0, .ref aG), (1, .int (nI a)), (2, .int (nI b)), (3, .int (nI k))] := hl
  refine lv_iconst (v := nI 0) hx hb zd_G_countOf_0 (by decide) ?_
  refine lv_istore (lv' := [(4, .int (nI 0)), (0, .ref aG), (1, .int (nI a)), (2, .int (nI b)), (3, .int (nI k))]) hx hb zd_G_countOf_1 hl (by decide) rfl (fun ls hl => ?_)
  refine lv_iconst (v := nI 0) hx hb zd_G_countOf_3 (by decide) ?_
  refine lv_istore (lv' := [(5, .int (nI 0)), (4, .int (nI 0)), (0, .ref aG), (1, .int (nI a)), (2, .int (nI b)), (3, .int (nI k))]) hx hb zd_G_countOf_4 hl (by decide) rfl (fun ls hl => ?_)
  have hC6 : ∀ (n6 : Nat) (l : Nat) (ls : Array Slot), 4 - l < n6 → l ≤ 4 → lv_has ls 7 [(0, .ref aG), (1, .int (nI a)), (2, .int (nI b)), (3, .int (nI k)), (4, .int (nI (za_cn (za_atm Tg Rw a b k) (l * 24)))), (5, .int (nI l))] → W p ln e zr_G_countOf sg m args below meth c H [] 0 0 Q (F0 m 6 ls []) := by
    intro n6
    induction n6 with
    | zero => intro l ls hn6 hi_l hl; exact absurd hn6 (Nat.not_lt_zero _)
    | succ n6 ih6 =>
      intro l ls hn6 hi_l hl
      refine lv_iload hx hb zd_G_countOf_6 (lv_at hl 5 rfl) ?_
      refine lv_iconst (v := nI 4) hx hb zd_G_countOf_8 (by decide) ?_
      refine lv_icmp_ge hx hb (tgt := 51) zd_G_countOf_9 (by decide) (fun h9 => ?_) (fun h9 => ?_)
      · have h9 := za_leN h9 (by omega) (by omega)
        refine lv_iload hx hb zd_G_countOf_51 (lv_at hl 4 rfl) ?_
        exact hret _ _ _ (by first | with_reducible rfl | (congr 2; omega)) zd_G_countOf_53
      · have h9 := za_nleN h9 (by omega) (by omega)
        refine lv_iconst (v := nI 0) hx hb zd_G_countOf_12 (by decide) ?_
        refine lv_istore (lv' := [(6, .int (nI 0)), (0, .ref aG), (1, .int (nI a)), (2, .int (nI b)), (3, .int (nI k)), (4, .int (nI (za_cn (za_atm Tg Rw a b k) (l * 24)))), (5, .int (nI l))]) hx hb zd_G_countOf_13 hl (by decide) rfl (fun ls hl => ?_)
        have hC15 : ∀ (n15 : Nat) (u : Nat) (ls : Array Slot), 24 - u < n15 → u ≤ 24 → lv_has ls 7 [(0, .ref aG), (1, .int (nI a)), (2, .int (nI b)), (3, .int (nI k)), (4, .int (nI (za_cn (za_atm Tg Rw a b k) (l * 24 + u)))), (5, .int (nI l)), (6, .int (nI u))] → W p ln e zr_G_countOf sg m args below meth c H [] 0 0 Q (F0 m 15 ls []) := by
          intro n15
          induction n15 with
          | zero => intro u ls hn15 hi_u hl; exact absurd hn15 (Nat.not_lt_zero _)
          | succ n15 ih15 =>
            intro u ls hn15 hi_u hl
            refine lv_iload hx hb zd_G_countOf_15 (lv_at hl 6 rfl) ?_
            refine lv_bipush (v := nI 24) hx hb zd_G_countOf_17 (by decide) ?_
            refine lv_icmp_ge hx hb (tgt := 45) zd_G_countOf_19 (by decide) (fun h19 => ?_) (fun h19 => ?_)
            · have h19 := za_leN h19 (by omega) (by omega)
              refine lv_iinc (k := 5) (v := nI (l + 1)) (lv' := [(5, .int (nI (l + 1))), (0, .ref aG), (1, .int (nI a)), (2, .int (nI b)), (3, .int (nI k)), (4, .int (nI (za_cn (za_atm Tg Rw a b k) (l * 24 + u)))), (6, .int (nI u))]) hx hb zd_G_countOf_45 hl rfl (za_inc _) (by decide) rfl (fun ls hl => ?_)
              refine lv_goto hx hb (tgt := 6) zd_G_countOf_48 (by decide) ?_
              have e1 : nI (za_cn (za_atm Tg Rw a b k) ((l + 1) * 24)) = nI (za_cn (za_atm Tg Rw a b k) (l * 24 + u)) := by first | with_reducible rfl | (congr 2; omega)
              exact ih6 (l + 1) ls (by omega) (by omega) (by rw [e1]; exact lv_sub hl [1, 2, 3, 4, 5, 0] rfl)
            · have h19 := za_nleN h19 (by omega) (by omega)
              refine lv_aload_n hx hb zd_G_countOf_22 rfl (lv_at hl 0 rfl) ?_
              refine lv_iload_n hx hb zd_G_countOf_23 rfl (lv_at hl 1 rfl) ?_
              refine lv_iload_n hx hb zd_G_countOf_24 rfl (lv_at hl 2 rfl) ?_
              refine lv_iload hx hb zd_G_countOf_25 (lv_at hl 5 rfl) ?_
              refine lv_iload hx hb zd_G_countOf_27 (lv_at hl 6 rfl) ?_
              refine lv_iload_n hx hb zd_G_countOf_29 rfl (lv_at hl 3 rfl) ?_
              refine za_cV (As := [.int (nI a), .int (nI b), .int (nI l), .int (nI u), .int (nI k)]) (rest := []) ⟨hx, hb, hml, hown, hts⟩ (zc_G_isAttack ln D cI cZ aG aN aL aS aM aA ln0 aT aC ct aR aU aK lr kc sd Tg Rw a b l u k (by omega) (by omega) (by omega) (by omega) (by omega)) (za_gV 5 hts zw_390 zw_392 zw_14 zw_39 zw_393 (by decide +kernel) ⟨Nat.le_of_ble_eq_true rfl, Nat.le_of_ble_eq_true rfl⟩) hK hN hP [0, 1, 2, 3, 4] rfl (q0 := 0) rfl rfl hl rfl rfl (Nat.le_of_ble_eq_true rfl) zd_G_countOf_30 ⟨Nat.le_of_ble_eq_true rfl, Nat.le_of_ble_eq_true rfl⟩ ?_
              refine lv_if_eq hx hb (tgt := 39) zd_G_countOf_33 (by decide) (fun h33 => ?_) (fun h33 => ?_)
              · have h33 := za_bF h33
                refine lv_iinc (k := 6) (v := nI (u + 1)) (lv' := [(6, .int (nI (u + 1))), (0, .ref aG), (1, .int (nI a)), (2, .int (nI b)), (3, .int (nI k)), (4, .int (nI (za_cn (za_atm Tg Rw a b k) (l * 24 + u)))), (5, .int (nI l))]) hx hb zd_G_countOf_39 hl rfl (za_inc _) (by decide) rfl (fun ls hl => ?_)
                refine lv_goto hx hb (tgt := 15) zd_G_countOf_42 (by decide) ?_
                have e1 : nI (za_cn (za_atm Tg Rw a b k) (l * 24 + (u + 1))) = nI (za_cn (za_atm Tg Rw a b k) (l * 24 + u)) := by first | with_reducible rfl | (show nI (za_cn (za_atm Tg Rw a b k) ((l * 24 + u) + 1)) = _; simp [za_cn, za_atm_at (show u < 24 by omega), h33])
                exact ih15 (u + 1) ls (by omega) (by omega) (by rw [e1]; exact lv_sub hl [1, 2, 3, 4, 5, 6, 0] rfl)
              · have h33 := za_bT h33
                refine lv_iinc (k := 4) (v := nI (za_cn (za_atm Tg Rw a b k) (l * 24 + u) + 1)) (lv' := [(4, .int (nI (za_cn (za_atm Tg Rw a b k) (l * 24 + u) + 1))), (0, .ref aG), (1, .int (nI a)), (2, .int (nI b)), (3, .int (nI k)), (5, .int (nI l)), (6, .int (nI u))]) hx hb zd_G_countOf_36 hl rfl (za_inc _) (by decide) rfl (fun ls hl => ?_)
                refine lv_iinc (k := 6) (v := nI (u + 1)) (lv' := [(6, .int (nI (u + 1))), (4, .int (nI (za_cn (za_atm Tg Rw a b k) (l * 24 + u) + 1))), (0, .ref aG), (1, .int (nI a)), (2, .int (nI b)), (3, .int (nI k)), (5, .int (nI l))]) hx hb zd_G_countOf_39 hl rfl (za_inc _) (by decide) rfl (fun ls hl => ?_)
                refine lv_goto hx hb (tgt := 15) zd_G_countOf_42 (by decide) ?_
                have e1 : nI (za_cn (za_atm Tg Rw a b k) (l * 24 + (u + 1))) = nI (za_cn (za_atm Tg Rw a b k) (l * 24 + u) + 1) := by first | with_reducible rfl | (show nI (za_cn (za_atm Tg Rw a b k) ((l * 24 + u) + 1)) = _; simp [za_cn, za_atm_at (show u < 24 by omega), h33])
                exact ih15 (u + 1) ls (by omega) (by omega) (by rw [e1]; exact lv_sub hl [2, 3, 4, 5, 1, 6, 0] rfl)
        have e1 : nI (za_cn (za_atm Tg Rw a b k) (l * 24 + 0)) = nI (za_cn (za_atm Tg Rw a b k) (l * 24)) := by first | with_reducible rfl | (rfl)
        exact hC15 (24 - 0 + 1) 0 ls (Nat.lt_succ_self _) (by omega) (by rw [e1]; exact lv_sub hl [1, 2, 3, 4, 5, 6, 0] rfl)
  have e1 : nI (za_cn (za_atm Tg Rw a b k) (0 * 24)) = nI 0 := by first | with_reducible rfl | (rfl)
  exact hC6 (4 - 0 + 1) 0 ls (Nat.lt_succ_self _) (by omega) (by rw [e1]; exact lv_sub hl [2, 3, 4, 5, 1, 0] rfl)
def zr_G_bestAnswer : Room := { frames := 2, cells := 0, slots := 0, locals := 45 }
set_option maxHeartbeats 4000000 in
set_option maxRecDepth 100000 in
theorem zc_G_bestAnswer (ln : Launch) (D : va_G) (cI cZ : ClassId) (aG : Nat) (aN : Nat) (aL : Nat) (aS : Nat) (aM : Nat) (aA : Nat) (ln0 : Nat) (aT : Nat) (aC : Nat) (ct : Int32) (aR : Nat) (aU : Nat) (aK : Nat) (lr : Nat) (kc : Nat) (sd : Bool) (Tg : Nat → Int32) (Rw : Nat → Int32) (b : Nat) (e0 : Nat) (hb0 : b < 24) (he0 : e0 / 100 < 4) (he1 : e0 % 100 < 24) (he2 : e0 < 400) (hr0 : lr < 24) : Met ln zm_G_bestAnswer (Cond.code zm_G_bestAnswer zo_G_bestAnswer 9 (some .int) :: zb_big) zr_G_bestAnswer (za_Pr D vwCl [(cI, .int), (cZ, .boolean)] [.ref aG, .int (nI b), .int (nI e0)] [(aG, .inr (3, [.ref aN, .ref aL, .ref aS, .ref aM, .ref aA, .int (nI ln0)])), (aN, .inr (0, [.ref aT, .ref aC, .int ct])), (aT, .inl (cI, 96, .inl Tg)), (aL, .inr (1, [.ref aN, .ref aR, .ref aU, .ref aK, .int (nI lr), .int (nI kc), .int (za_bi sd)])), (aR, .inl (cI, 576, .inl Rw))]) (vp_Si (fun r => r = (za_ba (Tg (b * 4 + e0 / 100)) (fun z => za_ff (fun x => bt (Rw (x * 24 + e0 % 100)) z) (lr + 1)) 24).1)) 0 0 (fun _ => False) := by
  refine za_reader (cc := zo_G_bestAnswer) (maxL := 9) (ty := .int) (by decide) (Nat.le_of_ble_eq_true rfl) (fun _ _ => rfl) ?_
  intro p e sg m args below meth c H Q hx hb hml hts hown hP hK hN hret ls hl
  have hP : va_P D vwCl [(aG, .inr (3, [.ref aN, .ref aL, .ref aS, .ref aM, .ref aA, .int (nI ln0)])), (aN, .inr (0, [.ref aT, .ref aC, .int ct])), (aT, .inl (cI, 96, .inl Tg)), (aL, .inr (1, [.ref aN, .ref aR, .ref aU, .ref aK, .int (nI lr), .int (nI kc), .int (za_bi sd)])), (aR, .inl (cI, 576, .inl Rw))] H := hP
  have hl : lv_has ls 9 [(0, .ref aG), (1, .int (nI b)), (2, .int (nI e0))] := hl
  have hf9 := hts _ zw_120
  have hf15 := hts _ zw_121
  refine lv_aload_n hx hb zd_G_bestAnswer_0 rfl (lv_at hl 0 rfl) ?_
  refine va_get (D := D) (ci := 3) (v := .ref aN) (C := zs_G) (T := zt_G) (N := 6) hx hb hts zi_G hown hK hP 0 rfl rfl 0 (by decide) hf9 (fun _ h9 => h9) rfl zd_G_bestAnswer_1 ?_
  refine lv_iload_n hx hb zd_G_bestAnswer_4 rfl (lv_at hl 1 rfl) ?_
  refine lv_iload_n hx hb zd_G_bestAnswer_5 rfl (lv_at hl 2 rfl) ?_
  refine lv_bipush (v := nI 100) hx hb zd_G_bestAnswer_6 (by decide) ?_
  refine za_divN hx hb (by omega) (by decide) (by decide) zd_G_bestAnswer_8 ?_
  refine za_cV (As := [.int (nI b), .int (nI (e0 / 100))]) (rest := []) ⟨hx, hb, hml, hown, hts⟩ (zc_N_targetsOf ln D cI cZ aN aT aC ct Tg b (e0 / 100) (by omega) (by omega)) (za_gV 2 hts zw_394 zw_173 zw_174 zw_36 zw_175 (by decide +kernel) ⟨Nat.le_of_ble_eq_true rfl, Nat.le_of_ble_eq_true rfl⟩) hK hN hP [1, 2] rfl (q0 := 1) rfl rfl hl rfl rfl (Nat.le_of_ble_eq_true rfl) zd_G_bestAnswer_9 ⟨Nat.le_of_ble_eq_true rfl, Nat.le_of_ble_eq_true rfl⟩ ?_
  refine lv_istore_n (lv' := [(3, .int (Tg (b * 4 + (e0 / 100)))), (0, .ref aG), (1, .int (nI b)), (2, .int (nI e0))]) hx hb zd_G_bestAnswer_12 rfl hl (by decide) rfl (fun ls hl => ?_)
  refine lv_iload_n hx hb zd_G_bestAnswer_13 rfl (lv_at hl 3 rfl) ?_
  refine lv_bipush (v := nI 100) hx hb zd_G_bestAnswer_14 (by decide) ?_
  refine za_remN hx hb (by omega) (by decide) (by decide) zd_G_bestAnswer_16 ?_
  refine lv_istore (lv' := [(4, .int (nI (e0 % 100))), (3, .int (Tg (b * 4 + (e0 / 100)))), (0, .ref aG), (1, .int (nI b)), (2, .int (nI e0))]) hx hb zd_G_bestAnswer_17 hl (by decide) rfl (fun ls hl => ?_)
  refine lv_iconst (v := (-1)) hx hb zd_G_bestAnswer_19 (by decide) ?_
  refine lv_istore (lv' := [(5, .int (-1)), (4, .int (nI (e0 % 100))), (3, .int (Tg (b * 4 + (e0 / 100)))), (0, .ref aG), (1, .int (nI b)), (2, .int (nI e0))]) hx hb zd_G_bestAnswer_20 hl (by decide) rfl (fun ls hl => ?_)
  refine lv_iconst (v := (-1)) hx hb zd_G_bestAnswer_22 (by decide) ?_
  refine lv_istore (lv' := [(6, .int (-1)), (5, .int (-1)), (4, .int (nI (e0 % 100))), (3, .int (Tg (b * 4 + (e0 / 100)))), (0, .ref aG), (1, .int (nI b)), (2, .int (nI e0))]) hx hb zd_G_bestAnswer_23 hl (by decide) rfl (fun ls hl => ?_)
  refine lv_iconst (v := nI 0) hx hb zd_G_bestAnswer_25 (by decide) ?_
  refine lv_istore (lv' := [(7, .int (nI 0)), (6, .int (-1)), (5, .int (-1)), (4, .int (nI (e0 % 100))), (3, .int (Tg (b * 4 + (e0 / 100)))), (0, .ref aG), (1, .int (nI b)), (2, .int (nI e0))]) hx hb zd_G_bestAnswer_26 hl (by decide) rfl (fun ls hl => ?_)
  have hC28 : ∀ (n28 : Nat) (v : Nat) (ls : Array Slot), 24 - v < n28 → v ≤ 24 → lv_has ls 9 [(0, .ref aG), (1, .int (nI b)), (2, .int (nI e0)), (3, .int (Tg (b * 4 + (e0 / 100)))), (4, .int (nI (e0 % 100))), (5, .int ((za_ba (Tg (b * 4 + e0 / 100)) (fun z => za_ff (fun x => bt (Rw (x * 24 + e0 % 100)) z) (lr + 1)) v).1)), (6, .int ((za_ba (Tg (b * 4 + e0 / 100)) (fun z => za_ff (fun x => bt (Rw (x * 24 + e0 % 100)) z) (lr + 1)) v).2)), (7, .int (nI v))] → W p ln e zr_G_bestAnswer sg m args below meth c H [] 0 0 Q (F0 m 28 ls []) := by
    intro n28
    induction n28 with
    | zero => intro v ls hn28 hi_v hl; exact absurd hn28 (Nat.not_lt_zero _)
    | succ n28 ih28 =>
      intro v ls hn28 hi_v hl
      refine lv_iload hx hb zd_G_bestAnswer_28 (lv_at hl 7 rfl) ?_
      refine lv_bipush (v := nI 24) hx hb zd_G_bestAnswer_30 (by decide) ?_
      refine lv_icmp_ge hx hb (tgt := 82) zd_G_bestAnswer_32 (by decide) (fun h32 => ?_) (fun h32 => ?_)
      · have h32 := za_leN h32 (by omega) (by omega)
        refine lv_iload hx hb zd_G_bestAnswer_82 (lv_at hl 5 rfl) ?_
        exact hret _ _ _ (by first | with_reducible rfl | (rw [show v = 24 by omega])) zd_G_bestAnswer_84
      · have h32 := za_nleN h32 (by omega) (by omega)
        refine lv_iload_n hx hb zd_G_bestAnswer_35 rfl (lv_at hl 3 rfl) ?_
        refine lv_iload hx hb zd_G_bestAnswer_36 (lv_at hl 7 rfl) ?_
        refine za_cSN (As := [.int (Tg (b * 4 + (e0 / 100))), .int (nI v)]) (rest := []) ⟨hx, hb, hml, hown, hts⟩ (zc_X_hasBit ln D cI cZ (Tg (b * 4 + (e0 / 100))) v (by omega)) (za_gSN 2 hts hN.2.2.2 zw_177 zw_35 zw_178 (by decide +kernel) ⟨Nat.le_of_ble_eq_true rfl, Nat.le_of_ble_eq_true rfl⟩) hK hN hP [] rfl hl rfl rfl (Nat.le_of_ble_eq_true rfl) zd_G_bestAnswer_38 ⟨Nat.le_of_ble_eq_true rfl, Nat.le_of_ble_eq_true rfl⟩ ?_
        refine lv_if_eq hx hb (tgt := 58) zd_G_bestAnswer_41 (by decide) (fun h41 => ?_) (fun h41 => ?_)
        · have h41 := za_bF h41
          refine lv_iconst (v := (-1)) hx hb zd_G_bestAnswer_58 (by decide) ?_
          refine lv_istore (lv' := [(8, .int (-1)), (0, .ref aG), (1, .int (nI b)), (2, .int (nI e0)), (3, .int (Tg (b * 4 + (e0 / 100)))), (4, .int (nI (e0 % 100))), (5, .int ((za_ba (Tg (b * 4 + e0 / 100)) (fun z => za_ff (fun x => bt (Rw (x * 24 + e0 % 100)) z) (lr + 1)) v).1)), (6, .int ((za_ba (Tg (b * 4 + e0 / 100)) (fun z => za_ff (fun x => bt (Rw (x * 24 + e0 % 100)) z) (lr + 1)) v).2)), (7, .int (nI v))]) hx hb zd_G_bestAnswer_59 hl (by decide) rfl (fun ls hl => ?_)
          refine lv_iload hx hb zd_G_bestAnswer_61 (lv_at hl 0 rfl) ?_
          refine lv_iload hx hb zd_G_bestAnswer_63 (lv_at hl 7 rfl) ?_
          refine lv_icmp_le hx hb (tgt := 76) zd_G_bestAnswer_65 (by decide) (fun h65 => ?_) (fun h65 => ?_)
          · skip
            refine lv_iinc (k := 8) (v := nI (v + 1)) (lv' := [(7, .int (nI (v + 1))), (8, .int (-1)), (0, .ref aG), (1, .int (nI b)), (2, .int (nI e0)), (3, .int (Tg (b * 4 + (e0 / 100)))), (4, .int (nI (e0 % 100))), (5, .int ((za_ba (Tg (b * 4 + e0 / 100)) (fun z => za_ff (fun x => bt (Rw (x * 24 + e0 % 100)) z) (lr + 1)) v).1)), (6, .int ((za_ba (Tg (b * 4 + e0 / 100)) (fun z => za_ff (fun x => bt (Rw (x * 24 + e0 % 100)) z) (lr + 1)) v).2))]) hx hb zd_G_bestAnswer_76 hl rfl (za_inc _) (by decide) rfl (fun ls hl => ?_)
            refine lv_goto hx hb (tgt := 28) zd_G_bestAnswer_79 (by decide) ?_
            have e1 : (za_ba (Tg (b * 4 + e0 / 100)) (fun z => za_ff (fun x => bt (Rw (x * 24 + e0 % 100)) z) (lr + 1)) (v + 1)).1 = (za_ba (Tg (b * 4 + e0 / 100)) (fun z => za_ff (fun x => bt (Rw (x * 24 + e0 % 100)) z) (lr + 1)) v).1 := by first | with_reducible rfl | (simp [za_ba, h41, h65])
            have e2 : (za_ba (Tg (b * 4 + e0 / 100)) (fun z => za_ff (fun x => bt (Rw (x * 24 + e0 % 100)) z) (lr + 1)) (v + 1)).2 = (za_ba (Tg (b * 4 + e0 / 100)) (fun z => za_ff (fun x => bt (Rw (x * 24 + e0 % 100)) z) (lr + 1)) v).2 := by first | with_reducible rfl | (simp [za_ba, h41, h65])
            exact ih28 (v + 1) ls (by omega) (by omega) (by rw [e1, e2]; exact lv_sub hl [2, 3, 4, 5, 6, 7, 8, 0] rfl)
          · skip
            refine lv_iload hx hb zd_G_bestAnswer_68 (lv_at hl 8 rfl) ?_
            refine lv_istore (lv' := [(5, .int (nI v)), (8, .int (-1)), (0, .ref aG), (1, .int (nI b)), (2, .int (nI e0)), (3, .int (Tg (b * 4 + (e0 / 100)))), (4, .int (nI (e0 % 100))), (6, .int ((za_ba (Tg (b * 4 + e0 / 100)) (fun z => za_ff (fun x => bt (Rw (x * 24 + e0 % 100)) z) (lr + 1)) v).2)), (7, .int (nI v))]) hx hb zd_G_bestAnswer_70 hl (by decide) rfl (fun ls hl => ?_)
            refine lv_iload hx hb zd_G_bestAnswer_72 (lv_at hl 1 rfl) ?_
            refine lv_istore (lv' := [(6, .int (-1)), (5, .int (nI v)), (8, .int (-1)), (0, .ref aG), (1, .int (nI b)), (2, .int (nI e0)), (3, .int (Tg (b * 4 + (e0 / 100)))), (4, .int (nI (e0 % 100))), (7, .int (nI v))]) hx hb zd_G_bestAnswer_74 hl (by decide) rfl (fun ls hl => ?_)
            refine lv_iinc (k := 8) (v := nI (v + 1)) (lv' := [(7, .int (nI (v + 1))), (6, .int (-1)), (5, .int (nI v)), (8, .int (-1)), (0, .ref aG), (1, .int (nI b)), (2, .int (nI e0)), (3, .int (Tg (b * 4 + (e0 / 100)))), (4, .int (nI (e0 % 100)))]) hx hb zd_G_bestAnswer_76 hl rfl (za_inc _) (by decide) rfl (fun ls hl => ?_)
            refine lv_goto hx hb (tgt := 28) zd_G_bestAnswer_79 (by decide) ?_
            have e1 : (za_ba (Tg (b * 4 + e0 / 100)) (fun z => za_ff (fun x => bt (Rw (x * 24 + e0 % 100)) z) (lr + 1)) (v + 1)).1 = nI v := by first | with_reducible rfl | (simp [za_ba, h41, h65])
            have e2 : (za_ba (Tg (b * 4 + e0 / 100)) (fun z => za_ff (fun x => bt (Rw (x * 24 + e0 % 100)) z) (lr + 1)) (v + 1)).2 = (-1) := by first | with_reducible rfl | (simp [za_ba, h41, h65])
            exact ih28 (v + 1) ls (by omega) (by omega) (by rw [e1, e2]; exact lv_sub hl [4, 5, 6, 7, 8, 2, 1, 0] rfl)
        · have h41 := za_bT h41
          refine lv_aload_n hx hb zd_G_bestAnswer_44 rfl (lv_at hl 0 rfl) ?_
          refine va_get (D := D) (ci := 3) (v := .ref aL) (C := zs_G) (T := zt_G) (N := 6) hx hb hts zi_G hown hK hP 0 rfl rfl 1 (by decide) hf15 (fun _ h9 => h9) rfl zd_G_bestAnswer_45 ?_
          refine lv_iload hx hb zd_G_bestAnswer_48 (lv_at hl 4 rfl) ?_
          refine lv_iload hx hb zd_G_bestAnswer_50 (lv_at hl 7 rfl) ?_
          refine za_cV (As := [.int (nI (e0 % 100)), .int (nI v)]) (rest := []) ⟨hx, hb, hml, hown, hts⟩ (zc_L_breachOf ln D cI cZ aL aN aR aU aK lr kc sd Rw (e0 % 100) v (by omega) (by omega) (by omega)) (za_gV 2 hts zw_385 zw_280 zw_281 zw_37 zw_282 (by decide +kernel) ⟨Nat.le_of_ble_eq_true rfl, Nat.le_of_ble_eq_true rfl⟩) hK hN hP [3, 4] rfl (q0 := 3) rfl rfl hl rfl rfl (Nat.le_of_ble_eq_true rfl) zd_G_bestAnswer_52 ⟨Nat.le_of_ble_eq_true rfl, Nat.le_of_ble_eq_true rfl⟩ ?_
          refine lv_goto hx hb (tgt := 59) zd_G_bestAnswer_55 (by decide) ?_
          refine lv_istore (lv' := [(8, .int (za_ff (fun x => bt (Rw (x * 24 + (e0 % 100))) v) (lr + 1))), (0, .ref aG), (1, .int (nI b)), (2, .int (nI e0)), (3, .int (Tg (b * 4 + (e0 / 100)))), (4, .int (nI (e0 % 100))), (5, .int ((za_ba (Tg (b * 4 + e0 / 100)) (fun z => za_ff (fun x => bt (Rw (x * 24 + e0 % 100)) z) (lr + 1)) v).1)), (6, .int ((za_ba (Tg (b * 4 + e0 / 100)) (fun z => za_ff (fun x => bt (Rw (x * 24 + e0 % 100)) z) (lr + 1)) v).2)), (7, .int (nI v))]) hx hb zd_G_bestAnswer_59 hl (by decide) rfl (fun ls hl => ?_)
          refine lv_iload hx hb zd_G_bestAnswer_61 (lv_at hl 0 rfl) ?_
          refine lv_iload hx hb zd_G_bestAnswer_63 (lv_at hl 7 rfl) ?_
          refine lv_icmp_le hx hb (tgt := 76) zd_G_bestAnswer_65 (by decide) (fun h65 => ?_) (fun h65 => ?_)
          · skip
            refine lv_iinc (k := 8) (v := nI (v + 1)) (lv' := [(7, .int (nI (v + 1))), (8, .int (za_ff (fun x => bt (Rw (x * 24 + (e0 % 100))) v) (lr + 1))), (0, .ref aG), (1, .int (nI b)), (2, .int (nI e0)), (3, .int (Tg (b * 4 + (e0 / 100)))), (4, .int (nI (e0 % 100))), (5, .int ((za_ba (Tg (b * 4 + e0 / 100)) (fun z => za_ff (fun x => bt (Rw (x * 24 + e0 % 100)) z) (lr + 1)) v).1)), (6, .int ((za_ba (Tg (b * 4 + e0 / 100)) (fun z => za_ff (fun x => bt (Rw (x * 24 + e0 % 100)) z) (lr + 1)) v).2))]) hx hb zd_G_bestAnswer_76 hl rfl (za_inc _) (by decide) rfl (fun ls hl => ?_)
            refine lv_goto hx hb (tgt := 28) zd_G_bestAnswer_79 (by decide) ?_
            have e1 : (za_ba (Tg (b * 4 + e0 / 100)) (fun z => za_ff (fun x => bt (Rw (x * 24 + e0 % 100)) z) (lr + 1)) (v + 1)).1 = (za_ba (Tg (b * 4 + e0 / 100)) (fun z => za_ff (fun x => bt (Rw (x * 24 + e0 % 100)) z) (lr + 1)) v).1 := by first | with_reducible rfl | (simp [za_ba, h41, h65])
            have e2 : (za_ba (Tg (b * 4 + e0 / 100)) (fun z => za_ff (fun x => bt (Rw (x * 24 + e0 % 100)) z) (lr + 1)) (v + 1)).2 = (za_ba (Tg (b * 4 + e0 / 100)) (fun z => za_ff (fun x => bt (Rw (x * 24 + e0 % 100)) z) (lr + 1)) v).2 := by first | with_reducible rfl | (simp [za_ba, h41, h65])
            exact ih28 (v + 1) ls (by omega) (by omega) (by rw [e1, e2]; exact lv_sub hl [2, 3, 4, 5, 6, 7, 8, 0] rfl)
          · skip
            refine lv_iload hx hb zd_G_bestAnswer_68 (lv_at hl 8 rfl) ?_
            refine lv_istore (lv' := [(5, .int (nI v)), (8, .int (za_ff (fun x => bt (Rw (x * 24 + (e0 % 100))) v) (lr + 1))), (0, .ref aG), (1, .int (nI b)), (2, .int (nI e0)), (3, .int (Tg (b * 4 + (e0 / 100)))), (4, .int (nI (e0 % 100))), (6, .int ((za_ba (Tg (b * 4 + e0 / 100)) (fun z => za_ff (fun x => bt (Rw (x * 24 + e0 % 100)) z) (lr + 1)) v).2)), (7, .int (nI v))]) hx hb zd_G_bestAnswer_70 hl (by decide) rfl (fun ls hl => ?_)
            refine lv_iload hx hb zd_G_bestAnswer_72 (lv_at hl 1 rfl) ?_
            refine lv_istore (lv' := [(6, .int (za_ff (fun x => bt (Rw (x * 24 + (e0 % 100))) v) (lr + 1))), (5, .int (nI v)), (8, .int (za_ff (fun x => bt (Rw (x * 24 + (e0 % 100))) v) (lr + 1))), (0, .ref aG), (1, .int (nI b)), (2, .int (nI e0)), (3, .int (Tg (b * 4 + (e0 / 100)))), (4, .int (nI (e0 % 100))), (7, .int (nI v))]) hx hb zd_G_bestAnswer_74 hl (by decide) rfl (fun ls hl => ?_)
            refine lv_iinc (k := 8) (v := nI (v + 1)) (lv' := [(7, .int (nI (v + 1))), (6, .int (za_ff (fun x => bt (Rw (x * 24 + (e0 % 100))) v) (lr + 1))), (5, .int (nI v)), (8, .int (za_ff (fun x => bt (Rw (x * 24 + (e0 % 100))) v) (lr + 1))), (0, .ref aG), (1, .int (nI b)), (2, .int (nI e0)), (3, .int (Tg (b * 4 + (e0 / 100)))), (4, .int (nI (e0 % 100)))]) hx hb zd_G_bestAnswer_76 hl rfl (za_inc _) (by decide) rfl (fun ls hl => ?_)
            refine lv_goto hx hb (tgt := 28) zd_G_bestAnswer_79 (by decide) ?_
            have e1 : (za_ba (Tg (b * 4 + e0 / 100)) (fun z => za_ff (fun x => bt (Rw (x * 24 + e0 % 100)) z) (lr + 1)) (v + 1)).1 = nI v := by first | with_reducible rfl | (simp [za_ba, h41, h65])
            have e2 : (za_ba (Tg (b * 4 + e0 / 100)) (fun z => za_ff (fun x => bt (Rw (x * 24 + e0 % 100)) z) (lr + 1)) (v + 1)).2 = za_ff (fun x => bt (Rw (x * 24 + (e0 % 100))) v) (lr + 1) := by first | with_reducible rfl | (simp [za_ba, h41, h65])
            exact ih28 (v + 1) ls (by omega) (by omega) (by rw [e1, e2]; exact lv_sub hl [4, 5, 6, 7, 8, 2, 1, 0] rfl)
  have e1 : (za_ba (Tg (b * 4 + e0 / 100)) (fun z => za_ff (fun x => bt (Rw (x * 24 + e0 % 100)) z) (lr + 1)) 0).1 = (-1) := by first | with_reducible rfl | (rfl)
  have e2 : (za_ba (Tg (b * 4 + e0 / 100)) (fun z => za_ff (fun x => bt (Rw (x * 24 + e0 % 100)) z) (lr + 1)) 0).2 = (-1) := by first | with_reducible rfl | (rfl)
  exact hC28 (24 - 0 + 1) 0 ls (Nat.lt_succ_self _) (by omega) (by rw [e1, e2]; exact lv_sub hl [5, 6, 7, 4, 3, 2, 1, 0] rfl)
def zr_G_attackAt : Room := { frames := 0, cells := 0, slots := 0, locals := 0 }
set_option maxHeartbeats 4000000 in
set_option maxRecDepth 100000 in
theorem zc_G_attackAt (ln : Launch) (D : va_G) (cI cZ : ClassId) (aG : Nat) (aN : Nat) (aL : Nat) (aS : Nat) (aM : Nat) (aA : Nat) (ln0 : Nat) (Md : Nat → Int32) (x : Nat) (hx0 : x < 24) : Met ln zm_G_attackAt (Cond.code zm_G_attackAt zo_G_attackAt 2 (some .int) :: zb_big) zr_G_attackAt (za_Pr D vwCl [(cI, .int), (cZ, .boolean)] [.ref aG, .int (nI x)] [(aG, .inr (3, [.ref aN, .ref aL, .ref aS, .ref aM, .ref aA, .int (nI ln0)])), (aM, .inl (cI, 24, .inl Md))]) (vp_Si (fun r => r = Md x)) 0 0 (fun _ => False) := by
  refine za_reader (cc := zo_G_attackAt) (maxL := 2) (ty := .int) (by decide) (Nat.le_of_ble_eq_true rfl) (fun _ _ => rfl) ?_
  intro p e sg m args below meth c H Q hx hb hml hts hown hP hK hN hret ls hl
  have hP : va_P D vwCl [(aG, .inr (3, [.ref aN, .ref aL, .ref aS, .ref aM, .ref aA, .int (nI ln0)])), (aM, .inl (cI, 24, .inl Md))] H := hP
  have hl : lv_has ls 2 [(0, .ref aG), (1, .int (nI x))] := hl
  have hf23 := hts _ zw_123
  refine lv_aload_n hx hb zd_G_attackAt_0 rfl (lv_at hl 0 rfl) ?_
  refine va_get (D := D) (ci := 3) (v := .ref aM) (C := zs_G) (T := zt_G) (N := 6) hx hb hts zi_G hown hK hP 0 rfl rfl 3 (by decide) hf23 (fun _ h9 => h9) rfl zd_G_attackAt_1 ?_
  refine lv_iload_n hx hb zd_G_attackAt_4 rfl (lv_at hl 1 rfl) ?_
  refine za_ild hx hb hK hP 1 0 rfl rfl (k := x) (by omega) (by decide) zd_G_attackAt_5 ?_
  exact hret _ _ _ (rfl) zd_G_attackAt_6
def zr_G_answerAt : Room := { frames := 0, cells := 0, slots := 0, locals := 0 }
set_option maxHeartbeats 4000000 in
set_option maxRecDepth 100000 in
theorem zc_G_answerAt (ln : Launch) (D : va_G) (cI cZ : ClassId) (aG : Nat) (aN : Nat) (aL : Nat) (aS : Nat) (aM : Nat) (aA : Nat) (ln0 : Nat) (An : Nat → Int32) (x : Nat) (hx0 : x < 24) : Met ln zm_G_answerAt (Cond.code zm_G_answerAt zo_G_answerAt 2 (some .int) :: zb_big) zr_G_answerAt (za_Pr D vwCl [(cI, .int), (cZ, .boolean)] [.ref aG, .int (nI x)] [(aG, .inr (3, [.ref aN, .ref aL, .ref aS, .ref aM, .ref aA, .int (nI ln0)])), (aA, .inl (cI, 24, .inl An))]) (vp_Si (fun r => r = An x)) 0 0 (fun _ => False) := by
  refine za_reader (cc := zo_G_answerAt) (maxL := 2) (ty := .int) (by decide) (Nat.le_of_ble_eq_true rfl) (fun _ _ => rfl) ?_
  intro p e sg m args below meth c H Q hx hb hml hts hown hP hK hN hret ls hl
  have hP : va_P D vwCl [(aG, .inr (3, [.ref aN, .ref aL, .ref aS, .ref aM, .ref aA, .int (nI ln0)])), (aA, .inl (cI, 24, .inl An))] H := hP
  have hl : lv_has ls 2 [(0, .ref aG), (1, .int (nI x))] := hl
  have hf26 := hts _ zw_124
  refine lv_aload_n hx hb zd_G_answerAt_0 rfl (lv_at hl 0 rfl) ?_
  refine va_get (D := D) (ci := 3) (v := .ref aA) (C := zs_G) (T := zt_G) (N := 6) hx hb hts zi_G hown hK hP 0 rfl rfl 4 (by decide) hf26 (fun _ h9 => h9) rfl zd_G_answerAt_1 ?_
  refine lv_iload_n hx hb zd_G_answerAt_4 rfl (lv_at hl 1 rfl) ?_
  refine za_ild hx hb hK hP 1 0 rfl rfl (k := x) (by omega) (by decide) zd_G_answerAt_5 ?_
  exact hret _ _ _ (rfl) zd_G_answerAt_6
