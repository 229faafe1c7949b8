def zr_X_hasBit : Room := { frames := 0, cells := 0, slots := 0, locals := 0 }
set_option maxHeartbeats 4000000 in
set_option maxRecDepth 100000 in
theorem zc_X_hasBit (ln : Launch) (D : va_G) (cI cZ : ClassId) (w : Int32) (t : Nat) (ht0 : t < 32) : Met ln zm_X_hasBit (Cond.code zm_X_hasBit zo_X_hasBit 2 (some .boolean) :: zb_big) zr_X_hasBit (za_Pr D vwCl [(cI, .int), (cZ, .boolean)] [.int w, .int (nI t)] []) (vp_Si (fun r => r = za_bi (bt w t))) 0 0 (fun _ => False) := by
  refine za_reader (cc := zo_X_hasBit) (maxL := 2) (ty := .boolean) (by decide) (Nat.le_of_ble_eq_true rfl) (fun _ h => by rw [h]; exact za_nar _) ?_
  intro p e sg m args below meth c H Q hx hb hml hts hown hP hK hN hret ls hl
  have hP : va_P D vwCl [] H := hP
  have hl : lv_has ls 2 [(0, .int w), (1, .int (nI t))] := hl
  refine lv_iload_n hx hb zd_X_hasBit_0 rfl (lv_at hl 0 rfl) ?_
  refine lv_iload_n hx hb zd_X_hasBit_1 rfl (lv_at hl 1 rfl) ?_
  refine lv_ishr hx hb zd_X_hasBit_2 ?_
  refine lv_iconst (v := nI 1) hx hb zd_X_hasBit_3 (by decide) ?_
  refine lv_iand hx hb zd_X_hasBit_4 ?_
  refine lv_if_eq hx hb (tgt := 12) zd_X_hasBit_5 (by decide) (fun h5 => ?_) (fun h5 => ?_)
  · skip
    refine lv_iconst (v := nI 0) hx hb zd_X_hasBit_12 (by decide) ?_
    exact hret _ _ _ (za_b0 (by first | exact za_bitT ht0 h5 | exact za_bitF ht0 h5)) zd_X_hasBit_13
  · skip
    refine lv_iconst (v := nI 1) hx hb zd_X_hasBit_8 (by decide) ?_
    refine lv_goto hx hb (tgt := 13) zd_X_hasBit_9 (by decide) ?_
    exact hret _ _ _ (za_b1 (by first | exact za_bitT ht0 h5 | exact za_bitF ht0 h5)) zd_X_hasBit_13
def zr_X_isState : Room := { frames := 0, cells := 0, slots := 0, locals := 0 }
set_option maxHeartbeats 4000000 in
set_option maxRecDepth 100000 in
theorem zc_X_isState (ln : Launch) (D : va_G) (cI cZ : ClassId) (w : Int32) : Met ln zm_X_isState (Cond.code zm_X_isState zo_X_isState 1 (some .boolean) :: zb_big) zr_X_isState (za_Pr D vwCl [(cI, .int), (cZ, .boolean)] [.int w] []) (vp_Si (fun r => r = za_bi (za_isS w))) 0 0 (fun _ => False) := by
  refine za_reader (cc := zo_X_isState) (maxL := 1) (ty := .boolean) (by decide) (Nat.le_of_ble_eq_true rfl) (fun _ h => by rw [h]; exact za_nar _) ?_
  intro p e sg m args below meth c H Q hx hb hml hts hown hP hK hN hret ls hl
  have hP : va_P D vwCl [] H := hP
  have hl : lv_has ls 1 [(0, .int w)] := hl
  refine lv_iload_n hx hb zd_X_isState_0 rfl (lv_at hl 0 rfl) ?_
  refine lv_if_lt hx hb (tgt := 14) zd_X_isState_1 (by decide) (fun h1 => ?_) (fun h1 => ?_)
  · skip
    refine lv_iconst (v := nI 0) hx hb zd_X_isState_14 (by decide) ?_
    exact hret _ _ _ (za_b0 (by first | exact za_isS1 h1 h7 | exact za_isS2 h1 | exact za_isS3 h7)) zd_X_isState_15
  · skip
    refine lv_iload_n hx hb zd_X_isState_4 rfl (lv_at hl 0 rfl) ?_
    refine lv_bipush (v := nI 24) hx hb zd_X_isState_5 (by decide) ?_
    refine lv_icmp_ge hx hb (tgt := 14) zd_X_isState_7 (by decide) (fun h7 => ?_) (fun h7 => ?_)
    · skip
      refine lv_iconst (v := nI 0) hx hb zd_X_isState_14 (by decide) ?_
      exact hret _ _ _ (za_b0 (by first | exact za_isS1 h1 h7 | exact za_isS2 h1 | exact za_isS3 h7)) zd_X_isState_15
    · skip
      refine lv_iconst (v := nI 1) hx hb zd_X_isState_10 (by decide) ?_
      refine lv_goto hx hb (tgt := 15) zd_X_isState_11 (by decide) ?_
      exact hret _ _ _ (za_b1 (by first | exact za_isS1 h1 h7 | exact za_isS2 h1 | exact za_isS3 h7)) zd_X_isState_15
def zr_X_areStates : Room := { frames := 1, cells := 0, slots := 0, locals := 20 }
set_option maxHeartbeats 4000000 in
set_option maxRecDepth 100000 in
theorem zc_X_areStates (ln : Launch) (D : va_G) (cI cZ : ClassId) (w : Int32) (v : Int32) : Met ln zm_X_areStates (Cond.code zm_X_areStates zo_X_areStates 2 (some .boolean) :: zb_big) zr_X_areStates (za_Pr D vwCl [(cI, .int), (cZ, .boolean)] [.int w, .int v] []) (vp_Si (fun r => r = za_bi (za_isS w && za_isS v))) 0 0 (fun _ => False) := by
  refine za_reader (cc := zo_X_areStates) (maxL := 2) (ty := .boolean) (by decide) (Nat.le_of_ble_eq_true rfl) (fun _ h => by rw [h]; exact za_nar _) ?_
  intro p e sg m args below meth c H Q hx hb hml hts hown hP hK hN hret ls hl
  have hP : va_P D vwCl [] H := hP
  have hl : lv_has ls 2 [(0, .int w), (1, .int v)] := hl
  refine lv_iload_n hx hb zd_X_areStates_0 rfl (lv_at hl 0 rfl) ?_
  refine za_cS (As := [.int w]) (rest := []) ⟨hx, hb, hml, hown, hts⟩ (zc_X_isState ln D cI cZ w ) (za_gS 1 hts zw_162 zw_163 zw_35 zw_164 (by decide +kernel) ⟨Nat.le_of_ble_eq_true rfl, Nat.le_of_ble_eq_true rfl⟩) hK hN hP [] rfl hl rfl rfl (Nat.le_of_ble_eq_true rfl) zd_X_areStates_1 ⟨Nat.le_of_ble_eq_true rfl, Nat.le_of_ble_eq_true rfl⟩ ?_
  refine lv_if_eq hx hb (tgt := 18) zd_X_areStates_4 (by decide) (fun h4 => ?_) (fun h4 => ?_)
  · have h4 := za_bF h4
    refine lv_iconst (v := nI 0) hx hb zd_X_areStates_18 (by decide) ?_
    exact hret _ _ _ (za_b0 (by simp [h4])) zd_X_areStates_19
  · have h4 := za_bT h4
    refine lv_iload_n hx hb zd_X_areStates_7 rfl (lv_at hl 1 rfl) ?_
    refine za_cS (As := [.int v]) (rest := []) ⟨hx, hb, hml, hown, hts⟩ (zc_X_isState ln D cI cZ v ) (za_gS 1 hts zw_162 zw_163 zw_35 zw_164 (by decide +kernel) ⟨Nat.le_of_ble_eq_true rfl, Nat.le_of_ble_eq_true rfl⟩) hK hN hP [] rfl hl rfl rfl (Nat.le_of_ble_eq_true rfl) zd_X_areStates_8 ⟨Nat.le_of_ble_eq_true rfl, Nat.le_of_ble_eq_true rfl⟩ ?_
    refine lv_if_eq hx hb (tgt := 18) zd_X_areStates_11 (by decide) (fun h11 => ?_) (fun h11 => ?_)
    · have h11 := za_bF h11
      refine lv_iconst (v := nI 0) hx hb zd_X_areStates_18 (by decide) ?_
      exact hret _ _ _ (za_b0 (by simp [h4, h11])) zd_X_areStates_19
    · have h11 := za_bT h11
      refine lv_iconst (v := nI 1) hx hb zd_X_areStates_14 (by decide) ?_
      refine lv_goto hx hb (tgt := 19) zd_X_areStates_15 (by decide) ?_
      exact hret _ _ _ (za_b1 (by simp [h4, h11])) zd_X_areStates_19
def zr_X_isLabel : Room := { frames := 0, cells := 0, slots := 0, locals := 0 }
set_option maxHeartbeats 4000000 in
set_option maxRecDepth 100000 in
theorem zc_X_isLabel (ln : Launch) (D : va_G) (cI cZ : ClassId) (w : Int32) : Met ln zm_X_isLabel (Cond.code zm_X_isLabel zo_X_isLabel 1 (some .boolean) :: zb_big) zr_X_isLabel (za_Pr D vwCl [(cI, .int), (cZ, .boolean)] [.int w] []) (vp_Si (fun r => r = za_bi (za_isL w))) 0 0 (fun _ => False) := by
  refine za_reader (cc := zo_X_isLabel) (maxL := 1) (ty := .boolean) (by decide) (Nat.le_of_ble_eq_true rfl) (fun _ h => by rw [h]; exact za_nar _) ?_
  intro p e sg m args below meth c H Q hx hb hml hts hown hP hK hN hret ls hl
  have hP : va_P D vwCl [] H := hP
  have hl : lv_has ls 1 [(0, .int w)] := hl
  refine lv_iload_n hx hb zd_X_isLabel_0 rfl (lv_at hl 0 rfl) ?_
  refine lv_if_lt hx hb (tgt := 13) zd_X_isLabel_1 (by decide) (fun h1 => ?_) (fun h1 => ?_)
  · skip
    refine lv_iconst (v := nI 0) hx hb zd_X_isLabel_13 (by decide) ?_
    exact hret _ _ _ (za_b0 (by first | exact za_isL1 h1 h6 | exact za_isL2 h1 | exact za_isL3 h6)) zd_X_isLabel_14
  · skip
    refine lv_iload_n hx hb zd_X_isLabel_4 rfl (lv_at hl 0 rfl) ?_
    refine lv_iconst (v := nI 4) hx hb zd_X_isLabel_5 (by decide) ?_
    refine lv_icmp_ge hx hb (tgt := 13) zd_X_isLabel_6 (by decide) (fun h6 => ?_) (fun h6 => ?_)
    · skip
      refine lv_iconst (v := nI 0) hx hb zd_X_isLabel_13 (by decide) ?_
      exact hret _ _ _ (za_b0 (by first | exact za_isL1 h1 h6 | exact za_isL2 h1 | exact za_isL3 h6)) zd_X_isLabel_14
    · skip
      refine lv_iconst (v := nI 1) hx hb zd_X_isLabel_9 (by decide) ?_
      refine lv_goto hx hb (tgt := 14) zd_X_isLabel_10 (by decide) ?_
      exact hret _ _ _ (za_b1 (by first | exact za_isL1 h1 h6 | exact za_isL2 h1 | exact za_isL3 h6)) zd_X_isLabel_14
def zr_X_isMove : Room := { frames := 2, cells := 0, slots := 0, locals := 41 }
set_option maxHeartbeats 4000000 in
set_option maxRecDepth 100000 in
theorem zc_X_isMove (ln : Launch) (D : va_G) (cI cZ : ClassId) (w : Int32) (x0 : Int32) (v : Int32) : Met ln zm_X_isMove (Cond.code zm_X_isMove zo_X_isMove 3 (some .boolean) :: zb_big) zr_X_isMove (za_Pr D vwCl [(cI, .int), (cZ, .boolean)] [.int w, .int x0, .int v] []) (vp_Si (fun r => r = za_bi (za_isS w && za_isS v && za_isL x0))) 0 0 (fun _ => False) := by
  refine za_reader (cc := zo_X_isMove) (maxL := 3) (ty := .boolean) (by decide) (Nat.le_of_ble_eq_true rfl) (fun _ h => by rw [h]; exact za_nar _) ?_
  intro p e sg m args below meth c H Q hx hb hml hts hown hP hK hN hret ls hl
  have hP : va_P D vwCl [] H := hP
  have hl : lv_has ls 3 [(0, .int w), (1, .int x0), (2, .int v)] := hl
  refine lv_iload_n hx hb zd_X_isMove_0 rfl (lv_at hl 0 rfl) ?_
  refine lv_iload_n hx hb zd_X_isMove_1 rfl (lv_at hl 2 rfl) ?_
  refine za_cS (As := [.int w, .int v]) (rest := []) ⟨hx, hb, hml, hown, hts⟩ (zc_X_areStates ln D cI cZ w v ) (za_gS 2 hts zw_159 zw_160 zw_35 zw_161 (by decide +kernel) ⟨Nat.le_of_ble_eq_true rfl, Nat.le_of_ble_eq_true rfl⟩) hK hN hP [] rfl hl rfl rfl (Nat.le_of_ble_eq_true rfl) zd_X_isMove_2 ⟨Nat.le_of_ble_eq_true rfl, Nat.le_of_ble_eq_true rfl⟩ ?_
  refine lv_if_eq hx hb (tgt := 19) zd_X_isMove_5 (by decide) (fun h5 => ?_) (fun h5 => ?_)
  · have h5 := za_bF h5
    refine lv_iconst (v := nI 0) hx hb zd_X_isMove_19 (by decide) ?_
    exact hret _ _ _ (za_b0 (by simp only [h5, Bool.and_true, Bool.and_false, Bool.false_and, Bool.true_and])) zd_X_isMove_20
  · have h5 := za_bT h5
    refine lv_iload_n hx hb zd_X_isMove_8 rfl (lv_at hl 1 rfl) ?_
    refine za_cS (As := [.int x0]) (rest := []) ⟨hx, hb, hml, hown, hts⟩ (zc_X_isLabel ln D cI cZ x0 ) (za_gS 1 hts zw_165 zw_166 zw_35 zw_167 (by decide +kernel) ⟨Nat.le_of_ble_eq_true rfl, Nat.le_of_ble_eq_true rfl⟩) hK hN hP [] rfl hl rfl rfl (Nat.le_of_ble_eq_true rfl) zd_X_isMove_9 ⟨Nat.le_of_ble_eq_true rfl, Nat.le_of_ble_eq_true rfl⟩ ?_
    refine lv_if_eq hx hb (tgt := 19) zd_X_isMove_12 (by decide) (fun h12 => ?_) (fun h12 => ?_)
    · have h12 := za_bF h12
      refine lv_iconst (v := nI 0) hx hb zd_X_isMove_19 (by decide) ?_
      exact hret _ _ _ (za_b0 (by simp only [h5, h12, Bool.and_true, Bool.and_false, Bool.false_and, Bool.true_and])) zd_X_isMove_20
    · have h12 := za_bT h12
      refine lv_iconst (v := nI 1) hx hb zd_X_isMove_15 (by decide) ?_
      refine lv_goto hx hb (tgt := 20) zd_X_isMove_16 (by decide) ?_
      exact hret _ _ _ (za_b1 (by simp only [h5, h12, Bool.and_true, Bool.and_false, Bool.false_and, Bool.true_and])) zd_X_isMove_20
def zr_N_count : Room := { frames := 0, cells := 0, slots := 0, locals := 0 }
set_option maxHeartbeats 4000000 in
set_option maxRecDepth 100000 in
theorem zc_N_count (ln : Launch) (D : va_G) (cI cZ : ClassId) (aN : Nat) (aT : Nat) (aC : Nat) (ct : Int32) : Met ln zm_N_count (Cond.code zm_N_count zo_N_count 1 (some .int) :: zb_big) zr_N_count (za_Pr D vwCl [(cI, .int), (cZ, .boolean)] [.ref aN] [(aN, .inr (0, [.ref aT, .ref aC, .int ct]))]) (vp_Si (fun r => r = ct)) 0 0 (fun _ => False) := by
  refine za_reader (cc := zo_N_count) (maxL := 1) (ty := .int) (by decide) (Nat.le_of_ble_eq_true rfl) (fun _ _ => rfl) ?_
  intro p e sg m args below meth c H Q hx hb hml hts hown hP hK hN hret ls hl
  have hP : va_P D vwCl [(aN, .inr (0, [.ref aT, .ref aC, .int ct]))] H := hP
  have hl : lv_has ls 1 [(0, .ref aN)] := hl
  have hf18 := hts _ zw_58
  refine lv_aload_n hx hb zd_N_count_0 rfl (lv_at hl 0 rfl) ?_
  refine va_get (D := D) (ci := 0) (v := .int ct) (C := zs_N) (T := zt_N) (N := 3) hx hb hts zi_N hown hK hP 0 rfl rfl 2 (by decide) hf18 (fun _ h9 => h9) rfl zd_N_count_1 ?_
  exact hret _ _ _ (rfl) zd_N_count_4
def zr_N_targetsOf : Room := { frames := 0, cells := 0, slots := 0, locals := 0 }
set_option maxHeartbeats 4000000 in
set_option maxRecDepth 100000 in
theorem zc_N_targetsOf (ln : Launch) (D : va_G) (cI cZ : ClassId) (aN : Nat) (aT : Nat) (aC : Nat) (ct : Int32) (Tg : Nat → Int32) (s : Nat) (l : Nat) (hs0 : s < 24) (hl0 : l < 4) : Met ln zm_N_targetsOf (Cond.code zm_N_targetsOf zo_N_targetsOf 3 (some .int) :: zb_big) zr_N_targetsOf (za_Pr D vwCl [(cI, .int), (cZ, .boolean)] [.ref aN, .int (nI s), .int (nI l)] [(aN, .inr (0, [.ref aT, .ref aC, .int ct])), (aT, .inl (cI, 96, .inl Tg))]) (vp_Si (fun r => r = Tg (s * 4 + l))) 0 0 (fun _ => False) := by
  refine za_reader (cc := zo_N_targetsOf) (maxL := 3) (ty := .int) (by decide) (Nat.le_of_ble_eq_true rfl) (fun _ _ => rfl) ?_
  intro p e sg m args below meth c H Q hx hb hml hts hown hP hK hN hret ls hl
  have hP : va_P D vwCl [(aN, .inr (0, [.ref aT, .ref aC, .int ct])), (aT, .inl (cI, 96, .inl Tg))] H := hP
  have hl : lv_has ls 3 [(0, .ref aN), (1, .int (nI s)), (2, .int (nI l))] := hl
  have hf9 := hts _ zw_56
  refine lv_aload_n hx hb zd_N_targetsOf_0 rfl (lv_at hl 0 rfl) ?_
  refine va_get (D := D) (ci := 0) (v := .ref aT) (C := zs_N) (T := zt_N) (N := 3) hx hb hts zi_N hown hK hP 0 rfl rfl 0 (by decide) hf9 (fun _ h9 => h9) rfl zd_N_targetsOf_1 ?_
  refine lv_iload_n hx hb zd_N_targetsOf_4 rfl (lv_at hl 1 rfl) ?_
  refine lv_iconst (v := nI 4) hx hb zd_N_targetsOf_5 (by decide) ?_
  refine za_mulN hx hb zd_N_targetsOf_6 ?_
  refine lv_iload_n hx hb zd_N_targetsOf_7 rfl (lv_at hl 2 rfl) ?_
  refine za_addN hx hb zd_N_targetsOf_8 ?_
  refine za_ild hx hb hK hP 1 0 rfl rfl (k := (s * 4) + l) (by omega) (by decide) zd_N_targetsOf_9 ?_
  exact hret _ _ _ (by first | with_reducible rfl | (simp [])) zd_N_targetsOf_10
def zr_N_holds : Room := { frames := 1, cells := 0, slots := 0, locals := 22 }
set_option maxHeartbeats 4000000 in
set_option maxRecDepth 100000 in
theorem zc_N_holds (ln : Launch) (D : va_G) (cI cZ : ClassId) (aN : Nat) (aT : Nat) (aC : Nat) (ct : Int32) (Tg : Nat → Int32) (s : Nat) (l : Nat) (t : Nat) (hs0 : s < 24) (hl0 : l < 4) (ht0 : t < 24) : Met ln zm_N_holds (Cond.code zm_N_holds zo_N_holds 4 (some .boolean) :: zb_big) zr_N_holds (za_Pr D vwCl [(cI, .int), (cZ, .boolean)] [.ref aN, .int (nI s), .int (nI l), .int (nI t)] [(aN, .inr (0, [.ref aT, .ref aC, .int ct])), (aT, .inl (cI, 96, .inl Tg))]) (vp_Si (fun r => r = za_bi (bt (Tg (s * 4 + l)) t))) 0 0 (fun _ => False) := by
  refine za_reader (cc := zo_N_holds) (maxL := 4) (ty := .boolean) (by decide) (Nat.le_of_ble_eq_true rfl) (fun _ h => by rw [h]; exact za_nar _) ?_
  intro p e sg m args below meth c H Q hx hb hml hts hown hP hK hN hret ls hl
  have hP : va_P D vwCl [(aN, .inr (0, [.ref aT, .ref aC, .int ct])), (aT, .inl (cI, 96, .inl Tg))] H := hP
  have hl : lv_has ls 4 [(0, .ref aN), (1, .int (nI s)), (2, .int (nI l)), (3, .int (nI t))] := hl
  refine lv_aload_n hx hb zd_N_holds_0 rfl (lv_at hl 0 rfl) ?_
  refine lv_iload_n hx hb zd_N_holds_1 rfl (lv_at hl 1 rfl) ?_
  refine lv_iload_n hx hb zd_N_holds_2 rfl (lv_at hl 2 rfl) ?_
  refine za_cV (As := [.int (nI s), .int (nI l)]) (rest := []) ⟨hx, hb, hml, hown, hts⟩ (zc_N_targetsOf ln D cI cZ aN aT aC ct Tg s l (by omega) (by omega)) (za_gV 2 hts zw_172 zw_173 zw_174 zw_36 zw_175 (by decide +kernel) ⟨Nat.le_of_ble_eq_true rfl, Nat.le_of_ble_eq_true rfl⟩) hK hN hP [0, 1] rfl (q0 := 0) rfl rfl hl rfl rfl (Nat.le_of_ble_eq_true rfl) zd_N_holds_3 ⟨Nat.le_of_ble_eq_true rfl, Nat.le_of_ble_eq_true rfl⟩ ?_
  refine lv_iload_n hx hb zd_N_holds_6 rfl (lv_at hl 3 rfl) ?_
  refine za_cSN (As := [.int (Tg (s * 4 + l)), .int (nI t)]) (rest := []) ⟨hx, hb, hml, hown, hts⟩ (zc_X_hasBit ln D cI cZ (Tg (s * 4 + l)) t (by omega)) (za_gSN 2 hts hN.1 zw_177 zw_35 zw_178 (by decide +kernel) ⟨Nat.le_of_ble_eq_true rfl, Nat.le_of_ble_eq_true rfl⟩) hK hN hP [] rfl hl rfl rfl (Nat.le_of_ble_eq_true rfl) zd_N_holds_7 ⟨Nat.le_of_ble_eq_true rfl, Nat.le_of_ble_eq_true rfl⟩ ?_
  exact hret _ _ _ (rfl) zd_N_holds_10
def zr_N_put : Room := { frames := 0, cells := 0, slots := 0, locals := 0 }
set_option maxHeartbeats 4000000 in
set_option maxRecDepth 100000 in
theorem zc_N_put (ln : Launch) (D : va_G) (cI cZ : ClassId) (sz : Nat) (aN : Nat) (aT : Nat) (aC : Nat) (ct : Int32) (Tg : Nat → Int32) (s : Nat) (l : Nat) (t : Nat) (hs0 : s < 24) (hl0 : l < 4) (ht0 : t < 24) : Met ln zm_N_put (Cond.code zm_N_put zo_N_put 4 none :: zb_big) zr_N_put (za_Pw D vwCl [(cI, .int), (cZ, .boolean)] [.ref aN, .int (nI s), .int (nI l), .int (nI t)] [(aN, .inr (0, [.ref aT, .ref aC, .int ct])), (aT, .inl (cI, 96, .inl Tg))] sz) (va_Qv (fun (_u : Unit) => True) (za_B D vwCl [(aN, .inr (0, [.ref aT, .ref aC, .int ct])), (aT, .inl (cI, 96, .inl Tg))] sz (fun (_u : Unit) => [(aN, .inr (0, [.ref aT, .ref aC, .int (ct + nI 1)])), (aT, .inl (cI, 96, .inl (upd Tg (s * 4 + l) (Tg (s * 4 + l) ||| (nI 1 <<< (nI t &&& 31))))))])) (va_A [(aN, .inr (0, [.ref aT, .ref aC, .int ct])), (aT, .inl (cI, 96, .inl Tg))] sz)) 0 0 (va_A [(aN, .inr (0, [.ref aT, .ref aC, .int ct])), (aT, .inl (cI, 96, .inl Tg))] sz) := by
  refine za_wv (cc := zo_N_put) (maxL := 4) (by decide) (Nat.le_of_ble_eq_true rfl) ?_
  intro p e sg m args below meth c H0 A Q hx hb hml hts hown hmn hP hK hN hD hA hS hret ls hl
  have hP : va_P D vwCl [(aN, .inr (0, [.ref aT, .ref aC, .int ct])), (aT, .inl (cI, 96, .inl Tg))] H0 := hP
  have hD : va_D A [(aN, .inr (0, [.ref aT, .ref aC, .int ct])), (aT, .inl (cI, 96, .inl Tg))] := hD
  have hl : lv_has ls 4 [(0, .ref aN), (1, .int (nI s)), (2, .int (nI l)), (3, .int (nI t))] := hl
  have hf9 := hts _ zw_56
  have hf18 := hts _ zw_58
  refine lv_aload_n hx hb zd_N_put_0 rfl (lv_at hl 0 rfl) ?_
  refine va_get (D := D) (ci := 0) (v := .ref aT) (C := zs_N) (T := zt_N) (N := 3) hx hb hts zi_N hown hK hP 0 rfl rfl 0 (by decide) hf9 (fun _ h9 => h9) rfl zd_N_put_1 ?_
  refine lv_iload_n hx hb zd_N_put_4 rfl (lv_at hl 1 rfl) ?_
  refine lv_iconst (v := nI 4) hx hb zd_N_put_5 (by decide) ?_
  refine za_mulN hx hb zd_N_put_6 ?_
  refine lv_iload_n hx hb zd_N_put_7 rfl (lv_at hl 2 rfl) ?_
  refine za_addN hx hb zd_N_put_8 ?_
  refine lv_dup2_11 hx hb zd_N_put_9 rfl rfl ?_
  refine za_ild hx hb hK hP 1 0 rfl rfl (k := (s * 4) + l) (by omega) (by decide) zd_N_put_10 ?_
  refine lv_iconst (v := nI 1) hx hb zd_N_put_11 (by decide) ?_
  refine lv_iload_n hx hb zd_N_put_12 rfl (lv_at hl 3 rfl) ?_
  refine lv_ishl hx hb zd_N_put_13 ?_
  refine lv_ior hx hb zd_N_put_14 ?_
  refine za_ist hx hb hK hP hD hS 1 0 rfl rfl (k := (s * 4) + l) (by omega) (by decide) zd_N_put_15 (fun H locs hP hD hS => ?_)
  have hP : va_P D vwCl [(aN, .inr (0, [.ref aT, .ref aC, .int ct])), (aT, .inl (cI, 96, .inl (upd Tg ((s * 4) + l) ((Tg ((s * 4) + l)) ||| ((nI 1) <<< ((nI t) &&& 31))))))] H := hP
  have hD : va_D A [(aN, .inr (0, [.ref aT, .ref aC, .int ct])), (aT, .inl (cI, 96, .inl (upd Tg ((s * 4) + l) ((Tg ((s * 4) + l)) ||| ((nI 1) <<< ((nI t) &&& 31))))))] := hD
  refine lv_aload_n hx hb zd_N_put_16 rfl (lv_at hl 0 rfl) ?_
  refine lv_dup hx hb zd_N_put_17 rfl ?_
  refine va_get (D := D) (ci := 0) (v := .int ct) (C := zs_N) (T := zt_N) (N := 3) hx hb hts zi_N hown hK hP 0 rfl rfl 2 (by decide) hf18 (fun _ h9 => h9) rfl zd_N_put_18 ?_
  refine lv_iconst (v := nI 1) hx hb zd_N_put_21 (by decide) ?_
  refine lv_iadd hx hb zd_N_put_22 ?_
  refine va_put (D := D) (ci := 0) (v := .int (ct + (nI 1))) (ty := .int) (C := zs_N) (T := zt_N) (N := 3) hx hb hts zi_N zy_N zk_N zn_N hown hK hP hD hS 0 rfl rfl 2 (by decide) hf18 (fun _ h9 => h9) rfl (by decide +kernel) rfl rfl (Nat.le_of_ble_eq_true rfl) zd_N_put_23 (fun H locs hP hD hS => ?_)
  have hP : va_P D vwCl [(aN, .inr (0, [.ref aT, .ref aC, .int (ct + (nI 1))])), (aT, .inl (cI, 96, .inl (upd Tg ((s * 4) + l) ((Tg ((s * 4) + l)) ||| ((nI 1) <<< ((nI t) &&& 31))))))] H := hP
  have hD : va_D A [(aN, .inr (0, [.ref aT, .ref aC, .int (ct + (nI 1))])), (aT, .inl (cI, 96, .inl (upd Tg ((s * 4) + l) ((Tg ((s * 4) + l)) ||| ((nI 1) <<< ((nI t) &&& 31))))))] := hD
  have e1 : ct + nI 1 = (ct + (nI 1)) := by first | with_reducible rfl | (rfl)
  have e2 : upd Tg (s * 4 + l) (Tg (s * 4 + l) ||| (nI 1 <<< (nI t &&& 31))) = upd Tg ((s * 4) + l) ((Tg ((s * 4) + l)) ||| ((nI 1) <<< ((nI t) &&& 31))) := by first | with_reducible rfl | (rfl)
  have hP9 : va_P D vwCl [(aN, .inr (0, [.ref aT, .ref aC, .int (ct + nI 1)])), (aT, .inl (cI, 96, .inl (upd Tg (s * 4 + l) (Tg (s * 4 + l) ||| (nI 1 <<< (nI t &&& 31))))))] H := by rw [e1, e2]; exact hP
  have hD9 : va_D A [(aN, .inr (0, [.ref aT, .ref aC, .int (ct + nI 1)])), (aT, .inl (cI, 96, .inl (upd Tg (s * 4 + l) (Tg (s * 4 + l) ||| (nI 1 <<< (nI t &&& 31))))))] := by rw [e1, e2]; exact hD
  exact hret () _ _ _ _ (trivial) hP9 hD9 hS zd_N_put_26
def zr_N_take : Room := { frames := 0, cells := 0, slots := 0, locals := 0 }
set_option maxHeartbeats 4000000 in
set_option maxRecDepth 100000 in
theorem zc_N_take (ln : Launch) (D : va_G) (cI cZ : ClassId) (sz : Nat) (aN : Nat) (aT : Nat) (aC : Nat) (ct : Int32) (Tg : Nat → Int32) (s : Nat) (l : Nat) (t : Nat) (hs0 : s < 24) (hl0 : l < 4) (ht0 : t < 24) : Met ln zm_N_take (Cond.code zm_N_take zo_N_take 4 none :: zb_big) zr_N_take (za_Pw D vwCl [(cI, .int), (cZ, .boolean)] [.ref aN, .int (nI s), .int (nI l), .int (nI t)] [(aN, .inr (0, [.ref aT, .ref aC, .int ct])), (aT, .inl (cI, 96, .inl Tg))] sz) (va_Qv (fun (_u : Unit) => True) (za_B D vwCl [(aN, .inr (0, [.ref aT, .ref aC, .int ct])), (aT, .inl (cI, 96, .inl Tg))] sz (fun (_u : Unit) => [(aN, .inr (0, [.ref aT, .ref aC, .int (ct - nI 1)])), (aT, .inl (cI, 96, .inl (upd Tg (s * 4 + l) (Tg (s * 4 + l) &&& ((nI 1 <<< (nI t &&& 31)) ^^^ (-1))))))])) (va_A [(aN, .inr (0, [.ref aT, .ref aC, .int ct])), (aT, .inl (cI, 96, .inl Tg))] sz)) 0 0 (va_A [(aN, .inr (0, [.ref aT, .ref aC, .int ct])), (aT, .inl (cI, 96, .inl Tg))] sz) := by
  refine za_wv (cc := zo_N_take) (maxL := 4) (by decide) (Nat.le_of_ble_eq_true rfl) ?_
  intro p e sg m args below meth c H0 A Q hx hb hml hts hown hmn hP hK hN hD hA hS hret ls hl
  have hP : va_P D vwCl [(aN, .inr (0, [.ref aT, .ref aC, .int ct])), (aT, .inl (cI, 96, .inl Tg))] H0 := hP
  have hD : va_D A [(aN, .inr (0, [.ref aT, .ref aC, .int ct])), (aT, .inl (cI, 96, .inl Tg))] := hD
  have hl : lv_has ls 4 [(0, .ref aN), (1, .int (nI s)), (2, .int (nI l)), (3, .int (nI t))] := hl
  have hf9 := hts _ zw_56
  have hf18 := hts _ zw_58
  refine lv_aload_n hx hb zd_N_take_0 rfl (lv_at hl 0 rfl) ?_
  refine va_get (D := D) (ci := 0) (v := .ref aT) (C := zs_N) (T := zt_N) (N := 3) hx hb hts zi_N hown hK hP 0 rfl rfl 0 (by decide) hf9 (fun _ h9 => h9) rfl zd_N_take_1 ?_
  refine lv_iload_n hx hb zd_N_take_4 rfl (lv_at hl 1 rfl) ?_
  refine lv_iconst (v := nI 4) hx hb zd_N_take_5 (by decide) ?_
  refine za_mulN hx hb zd_N_take_6 ?_
  refine lv_iload_n hx hb zd_N_take_7 rfl (lv_at hl 2 rfl) ?_
  refine za_addN hx hb zd_N_take_8 ?_
  refine lv_dup2_11 hx hb zd_N_take_9 rfl rfl ?_
  refine za_ild hx hb hK hP 1 0 rfl rfl (k := (s * 4) + l) (by omega) (by decide) zd_N_take_10 ?_
  refine lv_iconst (v := nI 1) hx hb zd_N_take_11 (by decide) ?_
  refine lv_iload_n hx hb zd_N_take_12 rfl (lv_at hl 3 rfl) ?_
  refine lv_ishl hx hb zd_N_take_13 ?_
  refine lv_iconst (v := (-1)) hx hb zd_N_take_14 (by decide) ?_
  refine lv_ixor hx hb zd_N_take_15 ?_
  refine lv_iand hx hb zd_N_take_16 ?_
  refine za_ist hx hb hK hP hD hS 1 0 rfl rfl (k := (s * 4) + l) (by omega) (by decide) zd_N_take_17 (fun H locs hP hD hS => ?_)
  have hP : va_P D vwCl [(aN, .inr (0, [.ref aT, .ref aC, .int ct])), (aT, .inl (cI, 96, .inl (upd Tg ((s * 4) + l) ((Tg ((s * 4) + l)) &&& (((nI 1) <<< ((nI t) &&& 31)) ^^^ (-1))))))] H := hP
  have hD : va_D A [(aN, .inr (0, [.ref aT, .ref aC, .int ct])), (aT, .inl (cI, 96, .inl (upd Tg ((s * 4) + l) ((Tg ((s * 4) + l)) &&& (((nI 1) <<< ((nI t) &&& 31)) ^^^ (-1))))))] := hD
  refine lv_aload_n hx hb zd_N_take_18 rfl (lv_at hl 0 rfl) ?_
  refine lv_dup hx hb zd_N_take_19 rfl ?_
  refine va_get (D := D) (ci := 0) (v := .int ct) (C := zs_N) (T := zt_N) (N := 3) hx hb hts zi_N hown hK hP 0 rfl rfl 2 (by decide) hf18 (fun _ h9 => h9) rfl zd_N_take_20 ?_
  refine lv_iconst (v := nI 1) hx hb zd_N_take_23 (by decide) ?_
  refine lv_isub hx hb zd_N_take_24 ?_
  refine va_put (D := D) (ci := 0) (v := .int (ct - (nI 1))) (ty := .int) (C := zs_N) (T := zt_N) (N := 3) hx hb hts zi_N zy_N zk_N zn_N hown hK hP hD hS 0 rfl rfl 2 (by decide) hf18 (fun _ h9 => h9) rfl (by decide +kernel) rfl rfl (Nat.le_of_ble_eq_true rfl) zd_N_take_25 (fun H locs hP hD hS => ?_)
  have hP : va_P D vwCl [(aN, .inr (0, [.ref aT, .ref aC, .int (ct - (nI 1))])), (aT, .inl (cI, 96, .inl (upd Tg ((s * 4) + l) ((Tg ((s * 4) + l)) &&& (((nI 1) <<< ((nI t) &&& 31)) ^^^ (-1))))))] H := hP
  have hD : va_D A [(aN, .inr (0, [.ref aT, .ref aC, .int (ct - (nI 1))])), (aT, .inl (cI, 96, .inl (upd Tg ((s * 4) + l) ((Tg ((s * 4) + l)) &&& (((nI 1) <<< ((nI t) &&& 31)) ^^^ (-1))))))] := hD
  have e1 : ct - nI 1 = (ct - (nI 1)) := by first | with_reducible rfl | (rfl)
  have e2 : upd Tg (s * 4 + l) (Tg (s * 4 + l) &&& ((nI 1 <<< (nI t &&& 31)) ^^^ (-1))) = upd Tg ((s * 4) + l) ((Tg ((s * 4) + l)) &&& (((nI 1) <<< ((nI t) &&& 31)) ^^^ (-1))) := by first | with_reducible rfl | (rfl)
  have hP9 : va_P D vwCl [(aN, .inr (0, [.ref aT, .ref aC, .int (ct - nI 1)])), (aT, .inl (cI, 96, .inl (upd Tg (s * 4 + l) (Tg (s * 4 + l) &&& ((nI 1 <<< (nI t &&& 31)) ^^^ (-1))))))] H := by rw [e1, e2]; exact hP
  have hD9 : va_D A [(aN, .inr (0, [.ref aT, .ref aC, .int (ct - nI 1)])), (aT, .inl (cI, 96, .inl (upd Tg (s * 4 + l) (Tg (s * 4 + l) &&& ((nI 1 <<< (nI t &&& 31)) ^^^ (-1))))))] := by rw [e1, e2]; exact hD
  exact hret () _ _ _ _ (trivial) hP9 hD9 hS zd_N_take_28
def zr_N_paint : Room := { frames := 0, cells := 0, slots := 0, locals := 0 }
set_option maxHeartbeats 4000000 in
set_option maxRecDepth 100000 in
theorem zc_N_paint (ln : Launch) (D : va_G) (cI cZ : ClassId) (sz : Nat) (aN : Nat) (aT : Nat) (aC : Nat) (ct : Int32) (Co : Nat → Int32) (s : Nat) (w : Int32) (hs0 : s < 24) : Met ln zm_N_paint (Cond.code zm_N_paint zo_N_paint 3 none :: zb_big) zr_N_paint (za_Pw D vwCl [(cI, .int), (cZ, .boolean)] [.ref aN, .int (nI s), .int w] [(aN, .inr (0, [.ref aT, .ref aC, .int ct])), (aC, .inl (cI, 24, .inl Co))] sz) (va_Qv (fun (_u : Unit) => True) (za_B D vwCl [(aN, .inr (0, [.ref aT, .ref aC, .int ct])), (aC, .inl (cI, 24, .inl Co))] sz (fun (_u : Unit) => [(aN, .inr (0, [.ref aT, .ref aC, .int ct])), (aC, .inl (cI, 24, .inl (upd Co s w)))])) (va_A [(aN, .inr (0, [.ref aT, .ref aC, .int ct])), (aC, .inl (cI, 24, .inl Co))] sz)) 0 0 (va_A [(aN, .inr (0, [.ref aT, .ref aC, .int ct])), (aC, .inl (cI, 24, .inl Co))] sz) := by
  refine za_wv (cc := zo_N_paint) (maxL := 3) (by decide) (Nat.le_of_ble_eq_true rfl) ?_
  intro p e sg m args below meth c H0 A Q hx hb hml hts hown hmn hP hK hN hD hA hS hret ls hl
  have hP : va_P D vwCl [(aN, .inr (0, [.ref aT, .ref aC, .int ct])), (aC, .inl (cI, 24, .inl Co))] H0 := hP
  have hD : va_D A [(aN, .inr (0, [.ref aT, .ref aC, .int ct])), (aC, .inl (cI, 24, .inl Co))] := hD
  have hl : lv_has ls 3 [(0, .ref aN), (1, .int (nI s)), (2, .int w)] := hl
  have hf15 := hts _ zw_57
  refine lv_aload_n hx hb zd_N_paint_0 rfl (lv_at hl 0 rfl) ?_
  refine va_get (D := D) (ci := 0) (v := .ref aC) (C := zs_N) (T := zt_N) (N := 3) hx hb hts zi_N hown hK hP 0 rfl rfl 1 (by decide) hf15 (fun _ h9 => h9) rfl zd_N_paint_1 ?_
  refine lv_iload_n hx hb zd_N_paint_4 rfl (lv_at hl 1 rfl) ?_
  refine lv_iload_n hx hb zd_N_paint_5 rfl (lv_at hl 2 rfl) ?_
  refine za_ist hx hb hK hP hD hS 1 0 rfl rfl (k := s) (by omega) (by decide) zd_N_paint_6 (fun H locs hP hD hS => ?_)
  have hP : va_P D vwCl [(aN, .inr (0, [.ref aT, .ref aC, .int ct])), (aC, .inl (cI, 24, .inl (upd Co s w)))] H := hP
  have hD : va_D A [(aN, .inr (0, [.ref aT, .ref aC, .int ct])), (aC, .inl (cI, 24, .inl (upd Co s w)))] := hD
  have hP9 : va_P D vwCl [(aN, .inr (0, [.ref aT, .ref aC, .int ct])), (aC, .inl (cI, 24, .inl (upd Co s w)))] H := hP
  have hD9 : va_D A [(aN, .inr (0, [.ref aT, .ref aC, .int ct])), (aC, .inl (cI, 24, .inl (upd Co s w)))] := hD
  exact hret () _ _ _ _ (trivial) hP9 hD9 hS zd_N_paint_7
def zr_N_wipe : Room := { frames := 0, cells := 0, slots := 0, locals := 0 }
set_option maxHeartbeats 4000000 in
set_option maxRecDepth 100000 in
theorem zc_N_wipe (ln : Launch) (D : va_G) (cI cZ : ClassId) (sz : Nat) (aN : Nat) (aT : Nat) (aC : Nat) (ct : Int32) (Tg : Nat → Int32) (Co : Nat → Int32) : Met ln zm_N_wipe (Cond.code zm_N_wipe zo_N_wipe 2 none :: zb_big) zr_N_wipe (za_Pw D vwCl [(cI, .int), (cZ, .boolean)] [.ref aN] [(aN, .inr (0, [.ref aT, .ref aC, .int ct])), (aT, .inl (cI, 96, .inl Tg)), (aC, .inl (cI, 24, .inl Co))] sz) (va_Qv (fun (_u : Unit) => True) (za_B D vwCl [(aN, .inr (0, [.ref aT, .ref aC, .int ct])), (aT, .inl (cI, 96, .inl Tg)), (aC, .inl (cI, 24, .inl Co))] sz (fun (_u : Unit) => [(aN, .inr (0, [.ref aT, .ref aC, .int (nI 0)])), (aT, .inl (cI, 96, .inl (za_fl (fun _ => nI 0) Tg 96))), (aC, .inl (cI, 24, .inl (za_fl (fun _ => nI 0) Co 24)))])) (va_A [(aN, .inr (0, [.ref aT, .ref aC, .int ct])), (aT, .inl (cI, 96, .inl Tg)), (aC, .inl (cI, 24, .inl Co))] sz)) 0 0 (va_A [(aN, .inr (0, [.ref aT, .ref aC, .int ct])), (aT, .inl (cI, 96, .inl Tg)), (aC, .inl (cI, 24, .inl Co))] sz) := by
  refine za_wv (cc := zo_N_wipe) (maxL := 2) (by decide) (Nat.le_of_ble_eq_true rfl) ?_
  intro p e sg m args below meth c H0 A Q hx hb hml hts hown hmn hP hK hN hD hA hS hret ls hl
  have hP : va_P D vwCl [(aN, .inr (0, [.ref aT, .ref aC, .int ct])), (aT, .inl (cI, 96, .inl Tg)), (aC, .inl (cI, 24, .inl Co))] H0 := hP
  have hD : va_D A [(aN, .inr (0, [.ref aT, .ref aC, .int ct])), (aT, .inl (cI, 96, .inl Tg)), (aC, .inl (cI, 24, .inl Co))] := hD
  have hl : lv_has ls 2 [(0, .ref aN)] := hl
  have hf9 := hts _ zw_56
  have hf18 := hts _ zw_58
  have hf15 := hts _ zw_57
  refine lv_iconst (v := nI 0) hx hb zd_N_wipe_0 (by decide) ?_
  refine lv_istore_n (lv' := [(1, .int (nI 0)), (0, .ref aN)]) hx hb zd_N_wipe_1 rfl hl (by decide) rfl (fun ls hl => ?_)
  have hC2 : ∀ (n2 : Nat) (i : Nat) (ls : Array Slot) (H : Heap) (locs : List Loc), 96 - i < n2 → i ≤ 96 → lv_has ls 2 [(0, .ref aN), (1, .int (nI i))] → va_P D vwCl [(aN, .inr (0, [.ref aT, .ref aC, .int ct])), (aT, .inl (cI, 96, .inl (za_fl (fun _ => nI 0) Tg i))), (aC, .inl (cI, 24, .inl Co))] H → va_D A [(aN, .inr (0, [.ref aT, .ref aC, .int ct])), (aT, .inl (cI, 96, .inl (za_fl (fun _ => nI 0) Tg i))), (aC, .inl (cI, 24, .inl Co))] → va_S A H0 H locs → W p ln e zr_N_wipe sg m args below meth c H locs 0 0 Q (F0 m 2 ls []) := by
    intro n2
    induction n2 with
    | zero => intro i ls H locs hn2 hi_i hl hP hD hS; exact absurd hn2 (Nat.not_lt_zero _)
    | succ n2 ih2 =>
      intro i ls H locs hn2 hi_i hl hP hD hS
      refine lv_iload_n hx hb zd_N_wipe_2 rfl (lv_at hl 1 rfl) ?_
      refine lv_aload_n hx hb zd_N_wipe_3 rfl (lv_at hl 0 rfl) ?_
      refine va_get (D := D) (ci := 0) (v := .ref aT) (C := zs_N) (T := zt_N) (N := 3) hx hb hts zi_N hown hK hP 0 rfl rfl 0 (by decide) hf9 (fun _ h9 => h9) rfl zd_N_wipe_4 ?_
      refine va_alen hx hb hK hP 1 0 rfl rfl (v := nI 96) rfl zd_N_wipe_7 ?_
      refine lv_icmp_ge hx hb (tgt := 24) zd_N_wipe_8 (by decide) (fun h8 => ?_) (fun h8 => ?_)
      · have h8 := za_leN h8 (by omega) (by omega)
        refine lv_iconst (v := nI 0) hx hb zd_N_wipe_24 (by decide) ?_
        refine lv_istore_n (lv' := [(1, .int (nI 0)), (0, .ref aN)]) hx hb zd_N_wipe_25 rfl hl (by decide) rfl (fun ls hl => ?_)
        have hC26 : ∀ (n26 : Nat) (k : Nat) (ls : Array Slot) (H : Heap) (locs : List Loc), 24 - k < n26 → k ≤ 24 → lv_has ls 2 [(0, .ref aN), (1, .int (nI k))] → va_P D vwCl [(aN, .inr (0, [.ref aT, .ref aC, .int ct])), (aT, .inl (cI, 96, .inl (za_fl (fun _ => nI 0) Tg i))), (aC, .inl (cI, 24, .inl (za_fl (fun _ => nI 0) Co k)))] H → va_D A [(aN, .inr (0, [.ref aT, .ref aC, .int ct])), (aT, .inl (cI, 96, .inl (za_fl (fun _ => nI 0) Tg i))), (aC, .inl (cI, 24, .inl (za_fl (fun _ => nI 0) Co k)))] → va_S A H0 H locs → W p ln e zr_N_wipe sg m args below meth c H locs 0 0 Q (F0 m 26 ls []) := by
          intro n26
          induction n26 with
          | zero => intro k ls H locs hn26 hi_k hl hP hD hS; exact absurd hn26 (Nat.not_lt_zero _)
          | succ n26 ih26 =>
            intro k ls H locs hn26 hi_k hl hP hD hS
            refine lv_iload_n hx hb zd_N_wipe_26 rfl (lv_at hl 1 rfl) ?_
            refine lv_bipush (v := nI 24) hx hb zd_N_wipe_27 (by decide) ?_
            refine lv_icmp_ge hx hb (tgt := 45) zd_N_wipe_29 (by decide) (fun h29 => ?_) (fun h29 => ?_)
            · have h29 := za_leN h29 (by omega) (by omega)
              refine lv_aload_n hx hb zd_N_wipe_45 rfl (lv_at hl 0 rfl) ?_
              refine lv_iconst (v := nI 0) hx hb zd_N_wipe_46 (by decide) ?_
              refine va_put (D := D) (ci := 0) (v := .int (nI 0)) (ty := .int) (C := zs_N) (T := zt_N) (N := 3) hx hb hts zi_N zy_N zk_N zn_N hown hK hP hD hS 0 rfl rfl 2 (by decide) hf18 (fun _ h9 => h9) rfl (by decide +kernel) rfl rfl (Nat.le_of_ble_eq_true rfl) zd_N_wipe_47 (fun H locs hP hD hS => ?_)
              have hP : va_P D vwCl [(aN, .inr (0, [.ref aT, .ref aC, .int (nI 0)])), (aT, .inl (cI, 96, .inl (za_fl (fun _ => nI 0) Tg i))), (aC, .inl (cI, 24, .inl (za_fl (fun _ => nI 0) Co k)))] H := hP
              have hD : va_D A [(aN, .inr (0, [.ref aT, .ref aC, .int (nI 0)])), (aT, .inl (cI, 96, .inl (za_fl (fun _ => nI 0) Tg i))), (aC, .inl (cI, 24, .inl (za_fl (fun _ => nI 0) Co k)))] := hD
              have e1 : za_fl (fun _ => nI 0) Tg 96 = za_fl (fun _ => nI 0) Tg i := by first | with_reducible rfl | (congr 1; omega)
              have e2 : za_fl (fun _ => nI 0) Co 24 = za_fl (fun _ => nI 0) Co k := by first | with_reducible rfl | (congr 1; omega)
              have hP9 : va_P D vwCl [(aN, .inr (0, [.ref aT, .ref aC, .int (nI 0)])), (aT, .inl (cI, 96, .inl (za_fl (fun _ => nI 0) Tg 96))), (aC, .inl (cI, 24, .inl (za_fl (fun _ => nI 0) Co 24)))] H := by rw [e1, e2]; exact hP
              have hD9 : va_D A [(aN, .inr (0, [.ref aT, .ref aC, .int (nI 0)])), (aT, .inl (cI, 96, .inl (za_fl (fun _ => nI 0) Tg 96))), (aC, .inl (cI, 24, .inl (za_fl (fun _ => nI 0) Co 24)))] := by rw [e1, e2]; exact hD
              exact hret () _ _ _ _ (trivial) hP9 hD9 hS zd_N_wipe_50
            · have h29 := za_nleN h29 (by omega) (by omega)
              refine lv_aload_n hx hb zd_N_wipe_32 rfl (lv_at hl 0 rfl) ?_
              refine va_get (D := D) (ci := 0) (v := .ref aC) (C := zs_N) (T := zt_N) (N := 3) hx hb hts zi_N hown hK hP 0 rfl rfl 1 (by decide) hf15 (fun _ h9 => h9) rfl zd_N_wipe_33 ?_
              refine lv_iload_n hx hb zd_N_wipe_36 rfl (lv_at hl 1 rfl) ?_
              refine lv_iconst (v := nI 0) hx hb zd_N_wipe_37 (by decide) ?_
              refine za_ist hx hb hK hP hD hS 2 0 rfl rfl (k := k) (by omega) (by decide) zd_N_wipe_38 (fun H locs hP hD hS => ?_)
              have hP : va_P D vwCl [(aN, .inr (0, [.ref aT, .ref aC, .int ct])), (aT, .inl (cI, 96, .inl (za_fl (fun _ => nI 0) Tg i))), (aC, .inl (cI, 24, .inl (upd (za_fl (fun _ => nI 0) Co k) k (nI 0))))] H := hP
              have hD : va_D A [(aN, .inr (0, [.ref aT, .ref aC, .int ct])), (aT, .inl (cI, 96, .inl (za_fl (fun _ => nI 0) Tg i))), (aC, .inl (cI, 24, .inl (upd (za_fl (fun _ => nI 0) Co k) k (nI 0))))] := hD
              refine lv_iinc (k := 1) (v := nI (k + 1)) (lv' := [(1, .int (nI (k + 1))), (0, .ref aN)]) hx hb zd_N_wipe_39 hl rfl (za_inc _) (by decide) rfl (fun ls hl => ?_)
              refine lv_goto hx hb (tgt := 26) zd_N_wipe_42 (by decide) ?_
              have e1 : za_fl (fun _ => nI 0) Co (k + 1) = upd (za_fl (fun _ => nI 0) Co k) k (nI 0) := by first | with_reducible rfl | (exact za_flU rfl)
              exact ih26 (k + 1) ls H locs (by omega) (by omega) (lv_sub hl [1, 0] rfl) (by rw [e1]; exact hP) (by rw [e1]; exact hD) hS
        have e1 : za_fl (fun _ => nI 0) Co 0 = Co := by first | with_reducible rfl | (exact za_fl0 _ _)
        exact hC26 (24 - 0 + 1) 0 ls H locs (Nat.lt_succ_self _) (by omega) (lv_sub hl [1, 0] rfl) (by rw [e1]; exact hP) (by rw [e1]; exact hD) hS
      · have h8 := za_nleN h8 (by omega) (by omega)
        refine lv_aload_n hx hb zd_N_wipe_11 rfl (lv_at hl 0 rfl) ?_
        refine va_get (D := D) (ci := 0) (v := .ref aT) (C := zs_N) (T := zt_N) (N := 3) hx hb hts zi_N hown hK hP 0 rfl rfl 0 (by decide) hf9 (fun _ h9 => h9) rfl zd_N_wipe_12 ?_
        refine lv_iload_n hx hb zd_N_wipe_15 rfl (lv_at hl 1 rfl) ?_
        refine lv_iconst (v := nI 0) hx hb zd_N_wipe_16 (by decide) ?_
        refine za_ist hx hb hK hP hD hS 1 0 rfl rfl (k := i) (by omega) (by decide) zd_N_wipe_17 (fun H locs hP hD hS => ?_)
        have hP : va_P D vwCl [(aN, .inr (0, [.ref aT, .ref aC, .int ct])), (aT, .inl (cI, 96, .inl (upd (za_fl (fun _ => nI 0) Tg i) i (nI 0)))), (aC, .inl (cI, 24, .inl Co))] H := hP
        have hD : va_D A [(aN, .inr (0, [.ref aT, .ref aC, .int ct])), (aT, .inl (cI, 96, .inl (upd (za_fl (fun _ => nI 0) Tg i) i (nI 0)))), (aC, .inl (cI, 24, .inl Co))] := hD
        refine lv_iinc (k := 1) (v := nI (i + 1)) (lv' := [(1, .int (nI (i + 1))), (0, .ref aN)]) hx hb zd_N_wipe_18 hl rfl (za_inc _) (by decide) rfl (fun ls hl => ?_)
        refine lv_goto hx hb (tgt := 2) zd_N_wipe_21 (by decide) ?_
        have e1 : za_fl (fun _ => nI 0) Tg (i + 1) = upd (za_fl (fun _ => nI 0) Tg i) i (nI 0) := by first | with_reducible rfl | (exact za_flU rfl)
        exact ih2 (i + 1) ls H locs (by omega) (by omega) (lv_sub hl [1, 0] rfl) (by rw [e1]; exact hP) (by rw [e1]; exact hD) hS
  have e1 : za_fl (fun _ => nI 0) Tg 0 = Tg := by first | with_reducible rfl | (exact za_fl0 _ _)
  exact hC2 (96 - 0 + 1) 0 ls H0 [] (Nat.lt_succ_self _) (by omega) (lv_sub hl [1, 0] rfl) (by rw [e1]; exact hP) (by rw [e1]; exact hD) hS
def zr_N_sameColour : Room := { frames := 0, cells := 0, slots := 0, locals := 0 }
set_option maxHeartbeats 4000000 in
set_option maxRecDepth 100000 in
theorem zc_N_sameColour (ln : Launch) (D : va_G) (cI cZ : ClassId) (aN : Nat) (aT : Nat) (aC : Nat) (ct : Int32) (Co : Nat → Int32) (s : Nat) (hs0 : s < 24) : Met ln zm_N_sameColour (Cond.code zm_N_sameColour zo_N_sameColour 4 (some .int) :: zb_big) zr_N_sameColour (za_Pr D vwCl [(cI, .int), (cZ, .boolean)] [.ref aN, .int (nI s)] [(aN, .inr (0, [.ref aT, .ref aC, .int ct])), (aC, .inl (cI, 24, .inl Co))]) (vp_Si (fun r => r = za_mk (fun x => decide (Co x = Co s)) 24)) 0 0 (fun _ => False) := by
  refine za_reader (cc := zo_N_sameColour) (maxL := 4) (ty := .int) (by decide) (Nat.le_of_ble_eq_true rfl) (fun _ _ => rfl) ?_
  intro p e sg m args below meth c H Q hx hb hml hts hown hP hK hN hret ls hl
  have hP : va_P D vwCl [(aN, .inr (0, [.ref aT, .ref aC, .int ct])), (aC, .inl (cI, 24, .inl Co))] H := hP
  have hl : lv_has ls 4 [(0, .ref aN), (1, .int (nI s))] := hl
  have hf15 := hts _ zw_57
  refine lv_iconst (v := nI 0) hx hb zd_N_sameColour_0 (by decide) ?_
  refine lv_istore_n (lv' := [(2, .int (nI 0)), (0, .ref aN), (1, .int (nI s))]) hx hb zd_N_sameColour_1 rfl hl (by decide) rfl (fun ls hl => ?_)
  refine lv_iconst (v := nI 0) hx hb zd_N_sameColour_2 (by decide) ?_
  refine lv_istore_n (lv' := [(3, .int (nI 0)), (2, .int (nI 0)), (0, .ref aN), (1, .int (nI s))]) hx hb zd_N_sameColour_3 rfl hl (by decide) rfl (fun ls hl => ?_)
  have hC4 : ∀ (n4 : Nat) (i : Nat) (ls : Array Slot), 24 - i < n4 → i ≤ 24 → lv_has ls 4 [(0, .ref aN), (1, .int (nI s)), (2, .int (za_mk (fun x => decide (Co x = Co s)) i)), (3, .int (nI i))] → W p ln e zr_N_sameColour sg m args below meth c H [] 0 0 Q (F0 m 4 ls []) := by
    intro n4
    induction n4 with
    | zero => intro i ls hn4 hi_i hl; exact absurd hn4 (Nat.not_lt_zero _)
    | succ n4 ih4 =>
      intro i ls hn4 hi_i hl
      refine lv_iload_n hx hb zd_N_sameColour_4 rfl (lv_at hl 3 rfl) ?_
      refine lv_bipush (v := nI 24) hx hb zd_N_sameColour_5 (by decide) ?_
      refine lv_icmp_ge hx hb (tgt := 37) zd_N_sameColour_7 (by decide) (fun h7 => ?_) (fun h7 => ?_)
      · have h7 := za_leN h7 (by omega) (by omega)
        refine lv_iload_n hx hb zd_N_sameColour_37 rfl (lv_at hl 2 rfl) ?_
        exact hret _ _ _ (by first | with_reducible rfl | (congr 1; omega)) zd_N_sameColour_38
      · have h7 := za_nleN h7 (by omega) (by omega)
        refine lv_aload_n hx hb zd_N_sameColour_10 rfl (lv_at hl 0 rfl) ?_
        refine va_get (D := D) (ci := 0) (v := .ref aC) (C := zs_N) (T := zt_N) (N := 3) hx hb hts zi_N hown hK hP 0 rfl rfl 1 (by decide) hf15 (fun _ h9 => h9) rfl zd_N_sameColour_11 ?_
        refine lv_iload_n hx hb zd_N_sameColour_14 rfl (lv_at hl 3 rfl) ?_
        refine za_ild hx hb hK hP 1 0 rfl rfl (k := i) (by omega) (by decide) zd_N_sameColour_15 ?_
        refine lv_aload_n hx hb zd_N_sameColour_16 rfl (lv_at hl 0 rfl) ?_
        refine va_get (D := D) (ci := 0) (v := .ref aC) (C := zs_N) (T := zt_N) (N := 3) hx hb hts zi_N hown hK hP 0 rfl rfl 1 (by decide) hf15 (fun _ h9 => h9) rfl zd_N_sameColour_17 ?_
        refine lv_iload_n hx hb zd_N_sameColour_20 rfl (lv_at hl 1 rfl) ?_
        refine za_ild hx hb hK hP 1 0 rfl rfl (k := s) (by omega) (by decide) zd_N_sameColour_21 ?_
        refine lv_icmp_ne hx hb (tgt := 31) zd_N_sameColour_22 (by decide) (fun h22 => ?_) (fun h22 => ?_)
        · skip
          refine lv_iinc (k := 3) (v := nI (i + 1)) (lv' := [(3, .int (nI (i + 1))), (0, .ref aN), (1, .int (nI s)), (2, .int (za_mk (fun x => decide (Co x = Co s)) i))]) hx hb zd_N_sameColour_31 hl rfl (za_inc _) (by decide) rfl (fun ls hl => ?_)
          refine lv_goto hx hb (tgt := 4) zd_N_sameColour_34 (by decide) ?_
          have e1 : za_mk (fun x => decide (Co x = Co s)) (i + 1) = za_mk (fun x => decide (Co x = Co s)) i := by first | with_reducible rfl | (simp [za_mk, h7, h22])
          exact ih4 (i + 1) ls (by omega) (by omega) (by rw [e1]; exact lv_sub hl [1, 2, 3, 0] rfl)
        · skip
          refine lv_iload_n hx hb zd_N_sameColour_25 rfl (lv_at hl 2 rfl) ?_
          refine lv_iconst (v := nI 1) hx hb zd_N_sameColour_26 (by decide) ?_
          refine lv_iload_n hx hb zd_N_sameColour_27 rfl (lv_at hl 3 rfl) ?_
          refine lv_ishl hx hb zd_N_sameColour_28 ?_
          refine lv_ior hx hb zd_N_sameColour_29 ?_
          refine lv_istore_n (lv' := [(2, .int ((za_mk (fun x => decide (Co x = Co s)) i) ||| ((nI 1) <<< ((nI i) &&& 31)))), (0, .ref aN), (1, .int (nI s)), (3, .int (nI i))]) hx hb zd_N_sameColour_30 rfl hl (by decide) rfl (fun ls hl => ?_)
          refine lv_iinc (k := 3) (v := nI (i + 1)) (lv' := [(3, .int (nI (i + 1))), (2, .int ((za_mk (fun x => decide (Co x = Co s)) i) ||| ((nI 1) <<< ((nI i) &&& 31)))), (0, .ref aN), (1, .int (nI s))]) hx hb zd_N_sameColour_31 hl rfl (za_inc _) (by decide) rfl (fun ls hl => ?_)
          refine lv_goto hx hb (tgt := 4) zd_N_sameColour_34 (by decide) ?_
          have e1 : za_mk (fun x => decide (Co x = Co s)) (i + 1) = ((za_mk (fun x => decide (Co x = Co s)) i) ||| ((nI 1) <<< ((nI i) &&& 31))) := by first | with_reducible rfl | (simp [za_mk, h7, h22])
          exact ih4 (i + 1) ls (by omega) (by omega) (by rw [e1]; exact lv_sub hl [2, 3, 1, 0] rfl)
  have e1 : za_mk (fun x => decide (Co x = Co s)) 0 = nI 0 := by first | with_reducible rfl | (rfl)
  exact hC4 (24 - 0 + 1) 0 ls (Nat.lt_succ_self _) (by omega) (by rw [e1]; exact lv_sub hl [2, 3, 1, 0] rfl)
def zr_N_groupByColour : Room := { frames := 1, cells := 0, slots := 0, locals := 23 }
set_option maxHeartbeats 4000000 in
set_option maxRecDepth 100000 in
theorem zc_N_groupByColour (ln : Launch) (D : va_G) (cI cZ : ClassId) (sz : Nat) (aN : Nat) (aT : Nat) (aC : Nat) (ct : Int32) (Co : Nat → Int32) (aR : Nat) (nR : Nat) (Rw : Nat → Int32) (hn0 : 24 ≤ nR) (hn1 : nR < 2 ^ 31) : Met ln zm_N_groupByColour (Cond.code zm_N_groupByColour zo_N_groupByColour 3 none :: zb_big) zr_N_groupByColour (za_Pw D vwCl [(cI, .int), (cZ, .boolean)] [.ref aN, .ref aR] [(aN, .inr (0, [.ref aT, .ref aC, .int ct])), (aC, .inl (cI, 24, .inl Co)), (aR, .inl (cI, nR, .inl Rw))] sz) (va_Qv (fun (_u : Unit) => True) (za_B D vwCl [(aN, .inr (0, [.ref aT, .ref aC, .int ct])), (aC, .inl (cI, 24, .inl Co)), (aR, .inl (cI, nR, .inl Rw))] sz (fun (_u : Unit) => [(aN, .inr (0, [.ref aT, .ref aC, .int ct])), (aC, .inl (cI, 24, .inl Co)), (aR, .inl (cI, nR, .inl (za_fl (fun x => za_mk (fun z => decide (Co z = Co x)) 24) Rw 24)))])) (va_A [(aN, .inr (0, [.ref aT, .ref aC, .int ct])), (aC, .inl (cI, 24, .inl Co)), (aR, .inl (cI, nR, .inl Rw))] sz)) 0 0 (va_A [(aN, .inr (0, [.ref aT, .ref aC, .int ct])), (aC, .inl (cI, 24, .inl Co)), (aR, .inl (cI, nR, .inl Rw))] sz) := by
  refine za_wv (cc := zo_N_groupByColour) (maxL := 3) (by decide) (Nat.le_of_ble_eq_true rfl) ?_
  intro p e sg m args below meth c H0 A Q hx hb hml hts hown hmn hP hK hN hD hA hS hret ls hl
  have hP : va_P D vwCl [(aN, .inr (0, [.ref aT, .ref aC, .int ct])), (aC, .inl (cI, 24, .inl Co)), (aR, .inl (cI, nR, .inl Rw))] H0 := hP
  have hD : va_D A [(aN, .inr (0, [.ref aT, .ref aC, .int ct])), (aC, .inl (cI, 24, .inl Co)), (aR, .inl (cI, nR, .inl Rw))] := hD
  have hl : lv_has ls 3 [(0, .ref aN), (1, .ref aR)] := hl
  refine lv_iconst (v := nI 0) hx hb zd_N_groupByColour_0 (by decide) ?_
  refine lv_istore_n (lv' := [(2, .int (nI 0)), (0, .ref aN), (1, .ref aR)]) hx hb zd_N_groupByColour_1 rfl hl (by decide) rfl (fun ls hl => ?_)
  have hC2 : ∀ (n2 : Nat) (i : Nat) (ls : Array Slot) (H : Heap) (locs : List Loc), 24 - i < n2 → i ≤ 24 → lv_has ls 3 [(0, .ref aN), (1, .ref aR), (2, .int (nI i))] → va_P D vwCl [(aN, .inr (0, [.ref aT, .ref aC, .int ct])), (aC, .inl (cI, 24, .inl Co)), (aR, .inl (cI, nR, .inl (za_fl (fun x => za_mk (fun z => decide (Co z = Co x)) 24) Rw i)))] H → va_D A [(aN, .inr (0, [.ref aT, .ref aC, .int ct])), (aC, .inl (cI, 24, .inl Co)), (aR, .inl (cI, nR, .inl (za_fl (fun x => za_mk (fun z => decide (Co z = Co x)) 24) Rw i)))] → va_S A H0 H locs → W p ln e zr_N_groupByColour sg m args below meth c H locs 0 0 Q (F0 m 2 ls []) := by
    intro n2
    induction n2 with
    | zero => intro i ls H locs hn2 hi_i hl hP hD hS; exact absurd hn2 (Nat.not_lt_zero _)
    | succ n2 ih2 =>
      intro i ls H locs hn2 hi_i hl hP hD hS
      refine lv_iload_n hx hb zd_N_groupByColour_2 rfl (lv_at hl 2 rfl) ?_
      refine lv_bipush (v := nI 24) hx hb zd_N_groupByColour_3 (by decide) ?_
      refine lv_icmp_ge hx hb (tgt := 22) zd_N_groupByColour_5 (by decide) (fun h5 => ?_) (fun h5 => ?_)
      · have h5 := za_leN h5 (by omega) (by omega)
        have e1 : za_fl (fun x => za_mk (fun z => decide (Co z = Co x)) 24) Rw 24 = za_fl (fun x => za_mk (fun z => decide (Co z = Co x)) 24) Rw i := by first | with_reducible rfl | (congr 1; omega)
        have hP9 : va_P D vwCl [(aN, .inr (0, [.ref aT, .ref aC, .int ct])), (aC, .inl (cI, 24, .inl Co)), (aR, .inl (cI, nR, .inl (za_fl (fun x => za_mk (fun z => decide (Co z = Co x)) 24) Rw 24)))] H := by rw [e1]; exact hP
        have hD9 : va_D A [(aN, .inr (0, [.ref aT, .ref aC, .int ct])), (aC, .inl (cI, 24, .inl Co)), (aR, .inl (cI, nR, .inl (za_fl (fun x => za_mk (fun z => decide (Co z = Co x)) 24) Rw 24)))] := by rw [e1]; exact hD
        exact hret () _ _ _ _ (trivial) hP9 hD9 hS zd_N_groupByColour_22
      · have h5 := za_nleN h5 (by omega) (by omega)
        refine lv_aload_n hx hb zd_N_groupByColour_8 rfl (lv_at hl 1 rfl) ?_
        refine lv_iload_n hx hb zd_N_groupByColour_9 rfl (lv_at hl 2 rfl) ?_
        refine lv_aload_n hx hb zd_N_groupByColour_10 rfl (lv_at hl 0 rfl) ?_
        refine lv_iload_n hx hb zd_N_groupByColour_11 rfl (lv_at hl 2 rfl) ?_
        refine za_cV (As := [.int (nI i)]) (rest := [.int (nI i), .ref aR]) ⟨hx, hb, hml, hown, hts⟩ (zc_N_sameColour ln D cI cZ aN aT aC ct Co i (by omega)) (za_gV 1 hts zw_243 zw_245 zw_2 zw_36 zw_246 (by decide +kernel) ⟨Nat.le_of_ble_eq_true rfl, Nat.le_of_ble_eq_true rfl⟩) hK hN hP [0, 1] rfl (q0 := 0) rfl rfl hl rfl rfl (Nat.le_of_ble_eq_true rfl) zd_N_groupByColour_12 ⟨Nat.le_of_ble_eq_true rfl, Nat.le_of_ble_eq_true rfl⟩ ?_
        refine za_ist hx hb hK hP hD hS 2 0 rfl rfl (k := i) (by omega) (by omega) zd_N_groupByColour_15 (fun H locs hP hD hS => ?_)
        have hP : va_P D vwCl [(aN, .inr (0, [.ref aT, .ref aC, .int ct])), (aC, .inl (cI, 24, .inl Co)), (aR, .inl (cI, nR, .inl (upd (za_fl (fun x => za_mk (fun z => decide (Co z = Co x)) 24) Rw i) i (za_mk (fun x => decide (Co x = Co i)) 24))))] H := hP
        have hD : va_D A [(aN, .inr (0, [.ref aT, .ref aC, .int ct])), (aC, .inl (cI, 24, .inl Co)), (aR, .inl (cI, nR, .inl (upd (za_fl (fun x => za_mk (fun z => decide (Co z = Co x)) 24) Rw i) i (za_mk (fun x => decide (Co x = Co i)) 24))))] := hD
        refine lv_iinc (k := 2) (v := nI (i + 1)) (lv' := [(2, .int (nI (i + 1))), (0, .ref aN), (1, .ref aR)]) hx hb zd_N_groupByColour_16 hl rfl (za_inc _) (by decide) rfl (fun ls hl => ?_)
        refine lv_goto hx hb (tgt := 2) zd_N_groupByColour_19 (by decide) ?_
        have e1 : za_fl (fun x => za_mk (fun z => decide (Co z = Co x)) 24) Rw (i + 1) = upd (za_fl (fun x => za_mk (fun z => decide (Co z = Co x)) 24) Rw i) i (za_mk (fun x => decide (Co x = Co i)) 24) := by first | with_reducible rfl | (exact za_flU rfl)
        exact ih2 (i + 1) ls H locs (by omega) (by omega) (lv_sub hl [1, 2, 0] rfl) (by rw [e1]; exact hP) (by rw [e1]; exact hD) hS
  have e1 : za_fl (fun x => za_mk (fun z => decide (Co z = Co x)) 24) Rw 0 = Rw := by first | with_reducible rfl | (exact za_fl0 _ _)
  exact hC2 (24 - 0 + 1) 0 ls H0 [] (Nat.lt_succ_self _) (by omega) (lv_sub hl [1, 2, 0] rfl) (by rw [e1]; exact hP) (by rw [e1]; exact hD) hS
def zr_N_union : Room := { frames := 1, cells := 0, slots := 0, locals := 21 }
set_option maxHeartbeats 4000000 in
set_option maxRecDepth 100000 in
theorem zc_N_union (ln : Launch) (D : va_G) (cI cZ : ClassId) (w : Int32) (aR : Nat) (nR : Nat) (Rw : Nat → Int32) (f : Nat) (hn0 : f + 24 ≤ nR) (hn1 : nR < 2 ^ 31) : Met ln zm_N_union (Cond.code zm_N_union zo_N_union 5 (some .int) :: zb_big) zr_N_union (za_Pr D vwCl [(cI, .int), (cZ, .boolean)] [.int w, .ref aR, .int (nI f)] [(aR, .inl (cI, nR, .inl Rw))]) (vp_Si (fun r => r = za_uo w Rw f 24)) 0 0 (fun _ => False) := by
  refine za_reader (cc := zo_N_union) (maxL := 5) (ty := .int) (by decide) (Nat.le_of_ble_eq_true rfl) (fun _ _ => rfl) ?_
  intro p e sg m args below meth c H Q hx hb hml hts hown hP hK hN hret ls hl
  have hP : va_P D vwCl [(aR, .inl (cI, nR, .inl Rw))] H := hP
  have hl : lv_has ls 5 [(0, .int w), (1, .ref aR), (2, .int (nI f))] := hl
  refine lv_iconst (v := nI 0) hx hb zd_N_union_0 (by decide) ?_
  refine lv_istore_n (lv' := [(3, .int (nI 0)), (0, .int w), (1, .ref aR), (2, .int (nI f))]) hx hb zd_N_union_1 rfl hl (by decide) rfl (fun ls hl => ?_)
  refine lv_iconst (v := nI 0) hx hb zd_N_union_2 (by decide) ?_
  refine lv_istore (lv' := [(4, .int (nI 0)), (3, .int (nI 0)), (0, .int w), (1, .ref aR), (2, .int (nI f))]) hx hb zd_N_union_3 hl (by decide) rfl (fun ls hl => ?_)
  have hC5 : ∀ (n5 : Nat) (i : Nat) (ls : Array Slot), 24 - i < n5 → i ≤ 24 → lv_has ls 5 [(0, .int w), (1, .ref aR), (2, .int (nI f)), (3, .int (za_uo w Rw f i)), (4, .int (nI i))] → W p ln e zr_N_union sg m args below meth c H [] 0 0 Q (F0 m 5 ls []) := by
    intro n5
    induction n5 with
    | zero => intro i ls hn5 hi_i hl; exact absurd hn5 (Nat.not_lt_zero _)
    | succ n5 ih5 =>
      intro i ls hn5 hi_i hl
      refine lv_iload hx hb zd_N_union_5 (lv_at hl 4 rfl) ?_
      refine lv_bipush (v := nI 24) hx hb zd_N_union_7 (by decide) ?_
      refine lv_icmp_ge hx hb (tgt := 36) zd_N_union_9 (by decide) (fun h9 => ?_) (fun h9 => ?_)
      · have h9 := za_leN h9 (by omega) (by omega)
        refine lv_iload_n hx hb zd_N_union_36 rfl (lv_at hl 3 rfl) ?_
        exact hret _ _ _ (by first | with_reducible rfl | (congr 1; omega)) zd_N_union_37
      · have h9 := za_nleN h9 (by omega) (by omega)
        refine lv_iload_n hx hb zd_N_union_12 rfl (lv_at hl 0 rfl) ?_
        refine lv_iload hx hb zd_N_union_13 (lv_at hl 4 rfl) ?_
        refine za_cSN (As := [.int w, .int (nI i)]) (rest := []) ⟨hx, hb, hml, hown, hts⟩ (zc_X_hasBit ln D cI cZ w i (by omega)) (za_gSN 2 hts hN.1 zw_177 zw_35 zw_178 (by decide +kernel) ⟨Nat.le_of_ble_eq_true rfl, Nat.le_of_ble_eq_true rfl⟩) hK hN hP [] rfl hl rfl rfl (Nat.le_of_ble_eq_true rfl) zd_N_union_15 ⟨Nat.le_of_ble_eq_true rfl, Nat.le_of_ble_eq_true rfl⟩ ?_
        refine lv_if_eq hx hb (tgt := 30) zd_N_union_18 (by decide) (fun h18 => ?_) (fun h18 => ?_)
        · have h18 := za_bF h18
          refine lv_iinc (k := 4) (v := nI (i + 1)) (lv' := [(4, .int (nI (i + 1))), (0, .int w), (1, .ref aR), (2, .int (nI f)), (3, .int (za_uo w Rw f i))]) hx hb zd_N_union_30 hl rfl (za_inc _) (by decide) rfl (fun ls hl => ?_)
          refine lv_goto hx hb (tgt := 5) zd_N_union_33 (by decide) ?_
          have e1 : za_uo w Rw f (i + 1) = za_uo w Rw f i := by first | with_reducible rfl | (simp [za_uo, h9, h18])
          exact ih5 (i + 1) ls (by omega) (by omega) (by rw [e1]; exact lv_sub hl [1, 2, 3, 4, 0] rfl)
        · have h18 := za_bT h18
          refine lv_iload_n hx hb zd_N_union_21 rfl (lv_at hl 3 rfl) ?_
          refine lv_aload_n hx hb zd_N_union_22 rfl (lv_at hl 1 rfl) ?_
          refine lv_iload_n hx hb zd_N_union_23 rfl (lv_at hl 2 rfl) ?_
          refine lv_iload hx hb zd_N_union_24 (lv_at hl 4 rfl) ?_
          refine za_addN hx hb zd_N_union_26 ?_
          refine za_ild hx hb hK hP 0 0 rfl rfl (k := f + i) (by omega) (by omega) zd_N_union_27 ?_
          refine lv_ior hx hb zd_N_union_28 ?_
          refine lv_istore_n (lv' := [(3, .int ((za_uo w Rw f i) ||| (Rw (f + i)))), (0, .int w), (1, .ref aR), (2, .int (nI f)), (4, .int (nI i))]) hx hb zd_N_union_29 rfl hl (by decide) rfl (fun ls hl => ?_)
          refine lv_iinc (k := 4) (v := nI (i + 1)) (lv' := [(4, .int (nI (i + 1))), (3, .int ((za_uo w Rw f i) ||| (Rw (f + i)))), (0, .int w), (1, .ref aR), (2, .int (nI f))]) hx hb zd_N_union_30 hl rfl (za_inc _) (by decide) rfl (fun ls hl => ?_)
          refine lv_goto hx hb (tgt := 5) zd_N_union_33 (by decide) ?_
          have e1 : za_uo w Rw f (i + 1) = ((za_uo w Rw f i) ||| (Rw (f + i))) := by first | with_reducible rfl | (simp [za_uo, h9, h18])
          exact ih5 (i + 1) ls (by omega) (by omega) (by rw [e1]; exact lv_sub hl [2, 3, 4, 1, 0] rfl)
  have e1 : za_uo w Rw f 0 = nI 0 := by first | with_reducible rfl | (rfl)
  exact hC5 (24 - 0 + 1) 0 ls (Nat.lt_succ_self _) (by omega) (by rw [e1]; exact lv_sub hl [2, 3, 4, 1, 0] rfl)
def zr_N_unite : Room := { frames := 2, cells := 0, slots := 0, locals := 45 }
set_option maxHeartbeats 4000000 in
set_option maxRecDepth 100000 in
theorem zc_N_unite (ln : Launch) (D : va_G) (cI cZ : ClassId) (sz : Nat) (aN : Nat) (aT : Nat) (aC : Nat) (ct : Int32) (Tg : Nat → Int32) (aR : Nat) (nR : Nat) (Rw : Nat → Int32) (f : Nat) (aU : Nat) (Un : Nat → Int32) (hn0 : f + 24 ≤ nR) (hn1 : nR < 2 ^ 31) : Met ln zm_N_unite (Cond.code zm_N_unite zo_N_unite 5 none :: zb_big) zr_N_unite (za_Pw D vwCl [(cI, .int), (cZ, .boolean)] [.ref aN, .ref aR, .int (nI f), .ref aU] [(aN, .inr (0, [.ref aT, .ref aC, .int ct])), (aT, .inl (cI, 96, .inl Tg)), (aR, .inl (cI, nR, .inl Rw)), (aU, .inl (cI, 96, .inl Un))] sz) (va_Qv (fun (_u : Unit) => True) (za_B D vwCl [(aN, .inr (0, [.ref aT, .ref aC, .int ct])), (aT, .inl (cI, 96, .inl Tg)), (aR, .inl (cI, nR, .inl Rw)), (aU, .inl (cI, 96, .inl Un))] sz (fun (_u : Unit) => [(aN, .inr (0, [.ref aT, .ref aC, .int ct])), (aT, .inl (cI, 96, .inl Tg)), (aR, .inl (cI, nR, .inl Rw)), (aU, .inl (cI, 96, .inl (za_ua Tg Rw f Un)))])) (va_A [(aN, .inr (0, [.ref aT, .ref aC, .int ct])), (aT, .inl (cI, 96, .inl Tg)), (aR, .inl (cI, nR, .inl Rw)), (aU, .inl (cI, 96, .inl Un))] sz)) 0 0 (va_A [(aN, .inr (0, [.ref aT, .ref aC, .int ct])), (aT, .inl (cI, 96, .inl Tg)), (aR, .inl (cI, nR, .inl Rw)), (aU, .inl (cI, 96, .inl Un))] sz) := by
  refine za_wv (cc := zo_N_unite) (maxL := 5) (by decide) (Nat.le_of_ble_eq_true rfl) ?_
  intro p e sg m args below meth c H0 A Q hx hb hml hts hown hmn hP hK hN hD hA hS hret ls hl
  have hP : va_P D vwCl [(aN, .inr (0, [.ref aT, .ref aC, .int ct])), (aT, .inl (cI, 96, .inl Tg)), (aR, .inl (cI, nR, .inl Rw)), (aU, .inl (cI, 96, .inl Un))] H0 := hP
  have hD : va_D A [(aN, .inr (0, [.ref aT, .ref aC, .int ct])), (aT, .inl (cI, 96, .inl Tg)), (aR, .inl (cI, nR, .inl Rw)), (aU, .inl (cI, 96, .inl Un))] := hD
  have hl : lv_has ls 5 [(0, .ref aN), (1, .ref aR), (2, .int (nI f)), (3, .ref aU)] := hl
  have hf9 := hts _ zw_56
  refine lv_iconst (v := nI 0) hx hb zd_N_unite_0 (by decide) ?_
  refine lv_istore (lv' := [(4, .int (nI 0)), (0, .ref aN), (1, .ref aR), (2, .int (nI f)), (3, .ref aU)]) hx hb zd_N_unite_1 hl (by decide) rfl (fun ls hl => ?_)
  have hC3 : ∀ (n3 : Nat) (i : Nat) (ls : Array Slot) (H : Heap) (locs : List Loc), 96 - i < n3 → i ≤ 96 → lv_has ls 5 [(0, .ref aN), (1, .ref aR), (2, .int (nI f)), (3, .ref aU), (4, .int (nI i))] → va_P D vwCl [(aN, .inr (0, [.ref aT, .ref aC, .int ct])), (aT, .inl (cI, 96, .inl Tg)), (aR, .inl (cI, nR, .inl Rw)), (aU, .inl (cI, 96, .inl (za_fl (fun x => za_uo (Tg x) Rw f 24) Un i)))] H → va_D A [(aN, .inr (0, [.ref aT, .ref aC, .int ct])), (aT, .inl (cI, 96, .inl Tg)), (aR, .inl (cI, nR, .inl Rw)), (aU, .inl (cI, 96, .inl (za_fl (fun x => za_uo (Tg x) Rw f 24) Un i)))] → va_S A H0 H locs → W p ln e zr_N_unite sg m args below meth c H locs 0 0 Q (F0 m 3 ls []) := by
    intro n3
    induction n3 with
    | zero => intro i ls H locs hn3 hi_i hl hP hD hS; exact absurd hn3 (Nat.not_lt_zero _)
    | succ n3 ih3 =>
      intro i ls H locs hn3 hi_i hl hP hD hS
      refine lv_iload hx hb zd_N_unite_3 (lv_at hl 4 rfl) ?_
      refine lv_aload_n hx hb zd_N_unite_5 rfl (lv_at hl 0 rfl) ?_
      refine va_get (D := D) (ci := 0) (v := .ref aT) (C := zs_N) (T := zt_N) (N := 3) hx hb hts zi_N hown hK hP 0 rfl rfl 0 (by decide) hf9 (fun _ h9 => h9) rfl zd_N_unite_6 ?_
      refine va_alen hx hb hK hP 1 0 rfl rfl (v := nI 96) rfl zd_N_unite_9 ?_
      refine lv_icmp_ge hx hb (tgt := 49) zd_N_unite_10 (by decide) (fun h10 => ?_) (fun h10 => ?_)
      · have h10 := za_leN h10 (by omega) (by omega)
        have e1 : za_ua Tg Rw f Un = za_fl (fun x => za_uo (Tg x) Rw f 24) Un i := by first | with_reducible rfl | (unfold za_ua; congr 1; omega)
        have hP9 : va_P D vwCl [(aN, .inr (0, [.ref aT, .ref aC, .int ct])), (aT, .inl (cI, 96, .inl Tg)), (aR, .inl (cI, nR, .inl Rw)), (aU, .inl (cI, 96, .inl (za_ua Tg Rw f Un)))] H := by rw [e1]; exact hP
        have hD9 : va_D A [(aN, .inr (0, [.ref aT, .ref aC, .int ct])), (aT, .inl (cI, 96, .inl Tg)), (aR, .inl (cI, nR, .inl Rw)), (aU, .inl (cI, 96, .inl (za_ua Tg Rw f Un)))] := by rw [e1]; exact hD
        exact hret () _ _ _ _ (trivial) hP9 hD9 hS zd_N_unite_49
      · have h10 := za_nleN h10 (by omega) (by omega)
        refine lv_aload_n hx hb zd_N_unite_13 rfl (lv_at hl 3 rfl) ?_
        refine lv_iload hx hb zd_N_unite_14 (lv_at hl 4 rfl) ?_
        refine lv_aload_n hx hb zd_N_unite_16 rfl (lv_at hl 0 rfl) ?_
        refine va_get (D := D) (ci := 0) (v := .ref aT) (C := zs_N) (T := zt_N) (N := 3) hx hb hts zi_N hown hK hP 0 rfl rfl 0 (by decide) hf9 (fun _ h9 => h9) rfl zd_N_unite_17 ?_
        refine lv_iload hx hb zd_N_unite_20 (lv_at hl 4 rfl) ?_
        refine za_ild hx hb hK hP 1 0 rfl rfl (k := i) (by omega) (by decide) zd_N_unite_22 ?_
        refine lv_if_ne hx hb (tgt := 30) zd_N_unite_23 (by decide) (fun h23 => ?_) (fun h23 => ?_)
        · skip
          refine lv_aload_n hx hb zd_N_unite_30 rfl (lv_at hl 0 rfl) ?_
          refine va_get (D := D) (ci := 0) (v := .ref aT) (C := zs_N) (T := zt_N) (N := 3) hx hb hts zi_N hown hK hP 0 rfl rfl 0 (by decide) hf9 (fun _ h9 => h9) rfl zd_N_unite_31 ?_
          refine lv_iload hx hb zd_N_unite_34 (lv_at hl 4 rfl) ?_
          refine za_ild hx hb hK hP 1 0 rfl rfl (k := i) (by omega) (by decide) zd_N_unite_36 ?_
          refine lv_aload_n hx hb zd_N_unite_37 rfl (lv_at hl 1 rfl) ?_
          refine lv_iload_n hx hb zd_N_unite_38 rfl (lv_at hl 2 rfl) ?_
          refine za_cS (As := [.int (Tg i), .ref aR, .int (nI f)]) (rest := [.int (nI i), .ref aU]) ⟨hx, hb, hml, hown, hts⟩ (zc_N_union ln D cI cZ (Tg i) aR nR Rw f (by omega) (by omega)) (za_gS 3 hts zw_255 zw_256 zw_36 zw_257 (by decide +kernel) ⟨Nat.le_of_ble_eq_true rfl, Nat.le_of_ble_eq_true rfl⟩) hK hN hP [2] rfl hl rfl rfl (Nat.le_of_ble_eq_true rfl) zd_N_unite_39 ⟨Nat.le_of_ble_eq_true rfl, Nat.le_of_ble_eq_true rfl⟩ ?_
          refine za_ist hx hb hK hP hD hS 3 0 rfl rfl (k := i) (by omega) (by decide) zd_N_unite_42 (fun H locs hP hD hS => ?_)
          have hP : va_P D vwCl [(aN, .inr (0, [.ref aT, .ref aC, .int ct])), (aT, .inl (cI, 96, .inl Tg)), (aR, .inl (cI, nR, .inl Rw)), (aU, .inl (cI, 96, .inl (upd (za_fl (fun x => za_uo (Tg x) Rw f 24) Un i) i (za_uo (Tg i) Rw f 24))))] H := hP
          have hD : va_D A [(aN, .inr (0, [.ref aT, .ref aC, .int ct])), (aT, .inl (cI, 96, .inl Tg)), (aR, .inl (cI, nR, .inl Rw)), (aU, .inl (cI, 96, .inl (upd (za_fl (fun x => za_uo (Tg x) Rw f 24) Un i) i (za_uo (Tg i) Rw f 24))))] := hD
          refine lv_iinc (k := 4) (v := nI (i + 1)) (lv' := [(4, .int (nI (i + 1))), (0, .ref aN), (1, .ref aR), (2, .int (nI f)), (3, .ref aU)]) hx hb zd_N_unite_43 hl rfl (za_inc _) (by decide) rfl (fun ls hl => ?_)
          refine lv_goto hx hb (tgt := 3) zd_N_unite_46 (by decide) ?_
          have e1 : za_fl (fun x => za_uo (Tg x) Rw f 24) Un (i + 1) = upd (za_fl (fun x => za_uo (Tg x) Rw f 24) Un i) i (za_uo (Tg i) Rw f 24) := by first | with_reducible rfl | (exact za_flU (by first | rfl | (rw [h23]; exact (za_uo_z _ _ _).symm)))
          exact ih3 (i + 1) ls H locs (by omega) (by omega) (lv_sub hl [1, 2, 3, 4, 0] rfl) (by rw [e1]; exact hP) (by rw [e1]; exact hD) hS
        · skip
          refine lv_iconst (v := nI 0) hx hb zd_N_unite_26 (by decide) ?_
          refine lv_goto hx hb (tgt := 42) zd_N_unite_27 (by decide) ?_
          refine za_ist hx hb hK hP hD hS 3 0 rfl rfl (k := i) (by omega) (by decide) zd_N_unite_42 (fun H locs hP hD hS => ?_)
          have hP : va_P D vwCl [(aN, .inr (0, [.ref aT, .ref aC, .int ct])), (aT, .inl (cI, 96, .inl Tg)), (aR, .inl (cI, nR, .inl Rw)), (aU, .inl (cI, 96, .inl (upd (za_fl (fun x => za_uo (Tg x) Rw f 24) Un i) i (nI 0))))] H := hP
          have hD : va_D A [(aN, .inr (0, [.ref aT, .ref aC, .int ct])), (aT, .inl (cI, 96, .inl Tg)), (aR, .inl (cI, nR, .inl Rw)), (aU, .inl (cI, 96, .inl (upd (za_fl (fun x => za_uo (Tg x) Rw f 24) Un i) i (nI 0))))] := hD
          refine lv_iinc (k := 4) (v := nI (i + 1)) (lv' := [(4, .int (nI (i + 1))), (0, .ref aN), (1, .ref aR), (2, .int (nI f)), (3, .ref aU)]) hx hb zd_N_unite_43 hl rfl (za_inc _) (by decide) rfl (fun ls hl => ?_)
          refine lv_goto hx hb (tgt := 3) zd_N_unite_46 (by decide) ?_
          have e1 : za_fl (fun x => za_uo (Tg x) Rw f 24) Un (i + 1) = upd (za_fl (fun x => za_uo (Tg x) Rw f 24) Un i) i (nI 0) := by first | with_reducible rfl | (exact za_flU (by first | rfl | (rw [h23]; exact (za_uo_z _ _ _).symm)))
          exact ih3 (i + 1) ls H locs (by omega) (by omega) (lv_sub hl [1, 2, 3, 4, 0] rfl) (by rw [e1]; exact hP) (by rw [e1]; exact hD) hS
  have e1 : za_fl (fun x => za_uo (Tg x) Rw f 24) Un 0 = Un := by first | with_reducible rfl | (exact za_fl0 _ _)
  exact hC3 (96 - 0 + 1) 0 ls H0 [] (Nat.lt_succ_self _) (by omega) (lv_sub hl [1, 2, 3, 4, 0] rfl) (by rw [e1]; exact hP) (by rw [e1]; exact hD) hS
