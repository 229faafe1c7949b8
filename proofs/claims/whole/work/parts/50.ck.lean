def zr_M_findBreaches : Room := { frames := 3, cells := 0, slots := 0, locals := 74 }
set_option maxHeartbeats 4000000 in
set_option maxRecDepth 100000 in
theorem zc_M_findBreaches (ln : Launch) (D : va_G) (cI cZ : ClassId) (sz : Nat) (aO : Nat) (aMv : Nat) (aMc : Nat) (aBr : Nat) (aCd : Nat) (aNx : Nat) (aMk : Nat) (aAt : Nat) (aAs : Nat) (mkc : Nat) (mpl : Nat) (mn : Int32) (kn : Bool) (Mv : Nat → Bool) (Mc : Nat → Int32) (Br : Nat → Int32) (Tg : Nat → Int32) (Co : Nat → Int32) (hMv : za_rel Tg Mv) (hMc : (∀ s, s < 24 → Mc s = Co s)) : Met ln zm_M_findBreaches (Cond.code zm_M_findBreaches zo_M_findBreaches 5 none :: zb_big) zr_M_findBreaches (za_Pw D vwCl [(cI, .int), (cZ, .boolean)] [.ref aO] [(aO, .inr (5, [.ref aMv, .int mn, .ref aMc, .int (za_bi kn), .ref aBr, .ref aCd, .ref aNx, .int (nI mkc), .ref aMk, .int (nI mpl), .ref aAt, .ref aAs])), (aMv, .inl (cZ, 2304, .inl (fun j => za_bi (Mv j)))), (aMc, .inl (cI, 24, .inl Mc)), (aBr, .inl (cI, 576, .inl Br))] sz) (va_Qv (fun (Br1 : (Nat → Int32)) => za_brs Tg Co Br1) (za_B D vwCl [(aO, .inr (5, [.ref aMv, .int mn, .ref aMc, .int (za_bi kn), .ref aBr, .ref aCd, .ref aNx, .int (nI mkc), .ref aMk, .int (nI mpl), .ref aAt, .ref aAs])), (aMv, .inl (cZ, 2304, .inl (fun j => za_bi (Mv j)))), (aMc, .inl (cI, 24, .inl Mc)), (aBr, .inl (cI, 576, .inl Br))] sz (fun (Br1 : (Nat → Int32)) => [(aO, .inr (5, [.ref aMv, .int mn, .ref aMc, .int (za_bi kn), .ref aBr, .ref aCd, .ref aNx, .int (nI mkc), .ref aMk, .int (nI mpl), .ref aAt, .ref aAs])), (aMv, .inl (cZ, 2304, .inl (fun j => za_bi (Mv j)))), (aMc, .inl (cI, 24, .inl Mc)), (aBr, .inl (cI, 576, .inl Br1))])) (va_A [(aO, .inr (5, [.ref aMv, .int mn, .ref aMc, .int (za_bi kn), .ref aBr, .ref aCd, .ref aNx, .int (nI mkc), .ref aMk, .int (nI mpl), .ref aAt, .ref aAs])), (aMv, .inl (cZ, 2304, .inl (fun j => za_bi (Mv j)))), (aMc, .inl (cI, 24, .inl Mc)), (aBr, .inl (cI, 576, .inl Br))] sz)) 0 0 (va_A [(aO, .inr (5, [.ref aMv, .int mn, .ref aMc, .int (za_bi kn), .ref aBr, .ref aCd, .ref aNx, .int (nI mkc), .ref aMk, .int (nI mpl), .ref aAt, .ref aAs])), (aMv, .inl (cZ, 2304, .inl (fun j => za_bi (Mv j)))), (aMc, .inl (cI, 24, .inl Mc)), (aBr, .inl (cI, 576, .inl Br))] sz) := by
  refine za_wv (cc := zo_M_findBreaches) (maxL := 5) (by decide) (Nat.le_of_ble_eq_true rfl) ?_
  intro p e sg m args below meth c H0 A Q hx hb hml hts hown hmn hP hK hN hD hA hS hret ls hl
  have hP : va_P D vwCl [(aO, .inr (5, [.ref aMv, .int mn, .ref aMc, .int (za_bi kn), .ref aBr, .ref aCd, .ref aNx, .int (nI mkc), .ref aMk, .int (nI mpl), .ref aAt, .ref aAs])), (aMv, .inl (cZ, 2304, .inl (fun j => za_bi (Mv j)))), (aMc, .inl (cI, 24, .inl Mc)), (aBr, .inl (cI, 576, .inl Br))] H0 := hP
  have hD : va_D A [(aO, .inr (5, [.ref aMv, .int mn, .ref aMc, .int (za_bi kn), .ref aBr, .ref aCd, .ref aNx, .int (nI mkc), .ref aMk, .int (nI mpl), .ref aAt, .ref aAs])), (aMv, .inl (cZ, 2304, .inl (fun j => za_bi (Mv j)))), (aMc, .inl (cI, 24, .inl Mc)), (aBr, .inl (cI, 576, .inl Br))] := hD
  have hl : lv_has ls 5 [(0, .ref aO)] := hl
  have hf17 := hts _ zw_447
  have hf13 := hts _ zw_445
  refine lv_iconst (v := nI 0) hx hb zd_M_findBreaches_0 (by decide) ?_
  refine lv_istore_n (lv' := [(1, .int (nI 0)), (0, .ref aO)]) hx hb zd_M_findBreaches_1 rfl hl (by decide) rfl (fun ls hl => ?_)
  have hC2 : ∀ (n2 : Nat) (i : Nat) (ls : Array Slot) (H : Heap) (locs : List Loc), 576 - i < n2 → i ≤ 576 → lv_has ls 5 [(0, .ref aO), (1, .int (nI i))] → va_P D vwCl [(aO, .inr (5, [.ref aMv, .int mn, .ref aMc, .int (za_bi kn), .ref aBr, .ref aCd, .ref aNx, .int (nI mkc), .ref aMk, .int (nI mpl), .ref aAt, .ref aAs])), (aMv, .inl (cZ, 2304, .inl (fun j => za_bi (Mv j)))), (aMc, .inl (cI, 24, .inl Mc)), (aBr, .inl (cI, 576, .inl (za_fl (za_vb0 Mc) Br i)))] H → va_D A [(aO, .inr (5, [.ref aMv, .int mn, .ref aMc, .int (za_bi kn), .ref aBr, .ref aCd, .ref aNx, .int (nI mkc), .ref aMk, .int (nI mpl), .ref aAt, .ref aAs])), (aMv, .inl (cZ, 2304, .inl (fun j => za_bi (Mv j)))), (aMc, .inl (cI, 24, .inl Mc)), (aBr, .inl (cI, 576, .inl (za_fl (za_vb0 Mc) Br i)))] → va_S A H0 H locs → W p ln e zr_M_findBreaches sg m args below meth c H locs 0 0 Q (F0 m 2 ls []) := by
    intro n2
    induction n2 with
    | zero => intro i ls H locs hn2 hi_i hl hP hD hS; exact absurd hn2 (Nat.not_lt_zero _)
    | succ n2 ih2 =>
      intro i ls H locs hn2 hi_i hl hP hD hS
      refine lv_iload_n hx hb zd_M_findBreaches_2 rfl (lv_at hl 1 rfl) ?_
      refine lv_sipush (v := nI 576) hx hb zd_M_findBreaches_3 (by decide) ?_
      refine lv_icmp_ge hx hb (tgt := 49) zd_M_findBreaches_6 (by decide) (fun h6 => ?_) (fun h6 => ?_)
      · have h6 := za_leN h6 (by omega) (by omega)
        refine lv_iconst (v := nI 1) hx hb zd_M_findBreaches_49 (by decide) ?_
        refine lv_istore_n (lv' := [(1, .int (nI 1)), (0, .ref aO)]) hx hb zd_M_findBreaches_50 rfl hl (by decide) rfl (fun ls hl => ?_)
        refine lv_iconst (v := nI 0) hx hb zd_M_findBreaches_51 (by decide) ?_
        refine lv_istore_n (lv' := [(2, .int (nI 0)), (1, .int (nI 1)), (0, .ref aO)]) hx hb zd_M_findBreaches_52 rfl hl (by decide) rfl (fun ls hl => ?_)
        have hC53 : ∀ (n53 : Nat) (k : Nat) (mo : Bool) (Bq : Nat → Int32) (ls : Array Slot) (H : Heap) (locs : List Loc), 26 - k < n53 → k ≤ 25 → (k = 25 → mo = false) → (∀ q, q < 576 → Bq q = za_vb Tg Co k q) → (mo = false → za_stab Tg Co k) → lv_has ls 5 [(0, .ref aO), (1, .int (za_bi mo)), (2, .int (nI k))] → va_P D vwCl [(aO, .inr (5, [.ref aMv, .int mn, .ref aMc, .int (za_bi kn), .ref aBr, .ref aCd, .ref aNx, .int (nI mkc), .ref aMk, .int (nI mpl), .ref aAt, .ref aAs])), (aMv, .inl (cZ, 2304, .inl (fun j => za_bi (Mv j)))), (aMc, .inl (cI, 24, .inl Mc)), (aBr, .inl (cI, 576, .inl Bq))] H → va_D A [(aO, .inr (5, [.ref aMv, .int mn, .ref aMc, .int (za_bi kn), .ref aBr, .ref aCd, .ref aNx, .int (nI mkc), .ref aMk, .int (nI mpl), .ref aAt, .ref aAs])), (aMv, .inl (cZ, 2304, .inl (fun j => za_bi (Mv j)))), (aMc, .inl (cI, 24, .inl Mc)), (aBr, .inl (cI, 576, .inl Bq))] → va_S A H0 H locs → W p ln e zr_M_findBreaches sg m args below meth c H locs 0 0 Q (F0 m 53 ls []) := by
          intro n53
          induction n53 with
          | zero => intro k mo Bq ls H locs hn53 hk hk2 hB hm hl hP hD hS; exact absurd hn53 (Nat.not_lt_zero _)
          | succ n53 ih53 =>
            intro k mo Bq ls H locs hn53 hk hk2 hB hm hl hP hD hS
            refine lv_iload_n hx hb zd_M_findBreaches_53 rfl (lv_at hl 1 rfl) ?_
            refine lv_if_eq hx hb (tgt := 170) zd_M_findBreaches_54 (by decide) (fun h54 => ?_) (fun h54 => ?_)
            · have h54 := za_bF h54
              have hP9 : va_P D vwCl [(aO, .inr (5, [.ref aMv, .int mn, .ref aMc, .int (za_bi kn), .ref aBr, .ref aCd, .ref aNx, .int (nI mkc), .ref aMk, .int (nI mpl), .ref aAt, .ref aAs])), (aMv, .inl (cZ, 2304, .inl (fun j => za_bi (Mv j)))), (aMc, .inl (cI, 24, .inl Mc)), (aBr, .inl (cI, 576, .inl Bq))] H := hP
              have hD9 : va_D A [(aO, .inr (5, [.ref aMv, .int mn, .ref aMc, .int (za_bi kn), .ref aBr, .ref aCd, .ref aNx, .int (nI mkc), .ref aMk, .int (nI mpl), .ref aAt, .ref aAs])), (aMv, .inl (cZ, 2304, .inl (fun j => za_bi (Mv j)))), (aMc, .inl (cI, 24, .inl Mc)), (aBr, .inl (cI, 576, .inl Bq))] := hD
              have hQ9 : za_brs Tg Co Bq := by exact za_brs_of hB (hm h54)
              exact hret Bq _ _ _ _ (hQ9) hP9 hD9 hS zd_M_findBreaches_170
            · have h54 := za_bT h54
              have hk24 : k ≤ 24 := by
                rcases Nat.lt_or_ge k 25 with z | z
                · omega
                · have z2 := hk2 (by omega)
                  rw [h54] at z2
                  cases z2
              refine lv_iconst (v := nI 0) hx hb zd_M_findBreaches_57 (by decide) ?_
              refine lv_istore_n (lv' := [(1, .int (nI 0)), (0, .ref aO), (2, .int (nI k))]) hx hb zd_M_findBreaches_58 rfl hl (by decide) rfl (fun ls hl => ?_)
              refine lv_iconst (v := nI 0) hx hb zd_M_findBreaches_59 (by decide) ?_
              refine lv_istore_n (lv' := [(3, .int (nI 0)), (1, .int (nI 0)), (0, .ref aO), (2, .int (nI k))]) hx hb zd_M_findBreaches_60 rfl hl (by decide) rfl (fun ls hl => ?_)
              have hC61 : ∀ (n61 : Nat) (i2 : Nat) (m2 : Bool) (Bc : Nat → Int32) (ls : Array Slot) (H : Heap) (locs : List Loc), 576 - i2 < n61 → i2 ≤ 576 → (∀ q, q < i2 → Bc q = za_vb Tg Co (k + 1) q) → (∀ q, i2 ≤ q → q < 576 → Bc q = za_vb Tg Co k q) → m2 = za_ex (za_ap Tg Co k) i2 → lv_has ls 5 [(0, .ref aO), (1, .int (za_bi m2)), (2, .int (nI k)), (3, .int (nI i2))] → va_P D vwCl [(aO, .inr (5, [.ref aMv, .int mn, .ref aMc, .int (za_bi kn), .ref aBr, .ref aCd, .ref aNx, .int (nI mkc), .ref aMk, .int (nI mpl), .ref aAt, .ref aAs])), (aMv, .inl (cZ, 2304, .inl (fun j => za_bi (Mv j)))), (aMc, .inl (cI, 24, .inl Mc)), (aBr, .inl (cI, 576, .inl Bc))] H → va_D A [(aO, .inr (5, [.ref aMv, .int mn, .ref aMc, .int (za_bi kn), .ref aBr, .ref aCd, .ref aNx, .int (nI mkc), .ref aMk, .int (nI mpl), .ref aAt, .ref aAs])), (aMv, .inl (cZ, 2304, .inl (fun j => za_bi (Mv j)))), (aMc, .inl (cI, 24, .inl Mc)), (aBr, .inl (cI, 576, .inl Bc))] → va_S A H0 H locs → W p ln e zr_M_findBreaches sg m args below meth c H locs 0 0 Q (F0 m 61 ls []) := by
                intro n61
                induction n61 with
                | zero => intro i2 m2 Bc ls H locs hn61 hi2 hB1 hB2 hm2 hl hP hD hS; exact absurd hn61 (Nat.not_lt_zero _)
                | succ n61 ih61 =>
                  intro i2 m2 Bc ls H locs hn61 hi2 hB1 hB2 hm2 hl hP hD hS
                  refine lv_iload_n hx hb zd_M_findBreaches_61 rfl (lv_at hl 3 rfl) ?_
                  refine lv_sipush (v := nI 576) hx hb zd_M_findBreaches_62 (by decide) ?_
                  refine lv_icmp_ge hx hb (tgt := 163) zd_M_findBreaches_65 (by decide) (fun h65 => ?_) (fun h65 => ?_)
                  · have h65 := za_leN h65 (by omega) (by omega)
                    refine lv_iload_n hx hb zd_M_findBreaches_163 rfl (lv_at hl 2 rfl) ?_
                    refine lv_iconst (v := nI 1) hx hb zd_M_findBreaches_164 (by decide) ?_
                    refine za_addN hx hb zd_M_findBreaches_165 ?_
                    refine lv_istore_n (lv' := [(2, .int (nI (k + 1))), (0, .ref aO), (1, .int (za_bi m2)), (3, .int (nI i2))]) hx hb zd_M_findBreaches_166 rfl hl (by decide) rfl (fun ls hl => ?_)
                    refine lv_goto hx hb (tgt := 53) zd_M_findBreaches_167 (by decide) ?_
                    exact ih53 (k + 1) m2 Bc ls H locs (by omega) (by omega) (by intro h; rw [hm2, show i2 = 576 by omega]; exact za_ap_none (by omega)) (by exact fun q hq => hB1 q (by omega)) (by intro h; rw [hm2, show i2 = 576 by omega] at h; exact za_stab_ap h) (lv_sub hl [1, 2, 0] rfl) hP hD hS
                  · have h65 := za_nleN h65 (by omega) (by omega)
                    have hbx := za_bx hk24 hB1 hB2
                    refine lv_aload_n hx hb zd_M_findBreaches_68 rfl (lv_at hl 0 rfl) ?_
                    refine va_get (D := D) (ci := 5) (v := .ref aBr) (C := zs_M) (T := zt_M) (N := 12) hx hb hts zi_M hown hK hP 0 rfl rfl 4 (by decide) hf17 (fun _ h9 => h9) rfl zd_M_findBreaches_69 ?_
                    refine lv_iload_n hx hb zd_M_findBreaches_72 rfl (lv_at hl 3 rfl) ?_
                    refine za_ild hx hb hK hP 3 0 rfl rfl (k := i2) (by omega) (by decide) zd_M_findBreaches_73 ?_
                    refine lv_sipush (v := nI 1000) hx hb zd_M_findBreaches_74 (by decide) ?_
                    have hJ117 : ∀ v : Int32, v = za_bi (za_ap Tg Co k i2) → W p ln e zr_M_findBreaches sg m args below meth c H locs 0 0 Q (F0 m 117 ls [.int v]) := by
                      intro v hv
                      subst hv
                      refine lv_istore (lv' := [(4, .int (za_bi (za_ap Tg Co k i2))), (0, .ref aO), (1, .int (za_bi m2)), (2, .int (nI k)), (3, .int (nI i2))]) hx hb zd_M_findBreaches_117 hl (by decide) rfl (fun ls hl => ?_)
                      refine lv_aload_n hx hb zd_M_findBreaches_119 rfl (lv_at hl 1 rfl) ?_
                      refine va_get (D := D) (ci := 5) (v := .ref aBr) (C := zs_M) (T := zt_M) (N := 12) hx hb hts zi_M hown hK hP 0 rfl rfl 4 (by decide) hf17 (fun _ h9 => h9) rfl zd_M_findBreaches_120 ?_
                      refine lv_iload_n hx hb zd_M_findBreaches_123 rfl (lv_at hl 4 rfl) ?_
                      refine lv_iload hx hb zd_M_findBreaches_124 (lv_at hl 0 rfl) ?_
                      refine lv_if_eq hx hb (tgt := 135) zd_M_findBreaches_126 (by decide) (fun h126 => ?_) (fun h126 => ?_)
                      · have h126 := za_bF h126
                        refine lv_aload_n hx hb zd_M_findBreaches_135 rfl (lv_at hl 1 rfl) ?_
                        refine va_get (D := D) (ci := 5) (v := .ref aBr) (C := zs_M) (T := zt_M) (N := 12) hx hb hts zi_M hown hK hP 0 rfl rfl 4 (by decide) hf17 (fun _ h9 => h9) rfl zd_M_findBreaches_136 ?_
                        refine lv_iload_n hx hb zd_M_findBreaches_139 rfl (lv_at hl 4 rfl) ?_
                        refine za_ild hx hb hK hP 3 0 rfl rfl (k := i2) (by omega) (by decide) zd_M_findBreaches_140 ?_
                        refine za_ist hx hb hK hP hD hS 3 0 rfl rfl (k := i2) (by omega) (by decide) zd_M_findBreaches_141 (fun H locs hP hD hS => ?_)
                        have hP : va_P D vwCl [(aO, .inr (5, [.ref aMv, .int mn, .ref aMc, .int (za_bi kn), .ref aBr, .ref aCd, .ref aNx, .int (nI mkc), .ref aMk, .int (nI mpl), .ref aAt, .ref aAs])), (aMv, .inl (cZ, 2304, .inl (fun j => za_bi (Mv j)))), (aMc, .inl (cI, 24, .inl Mc)), (aBr, .inl (cI, 576, .inl (upd Bc i2 (Bc i2))))] H := hP
                        have hD : va_D A [(aO, .inr (5, [.ref aMv, .int mn, .ref aMc, .int (za_bi kn), .ref aBr, .ref aCd, .ref aNx, .int (nI mkc), .ref aMk, .int (nI mpl), .ref aAt, .ref aAs])), (aMv, .inl (cZ, 2304, .inl (fun j => za_bi (Mv j)))), (aMc, .inl (cI, 24, .inl Mc)), (aBr, .inl (cI, 576, .inl (upd Bc i2 (Bc i2))))] := hD
                        refine lv_iload_n hx hb zd_M_findBreaches_142 rfl (lv_at hl 2 rfl) ?_
                        refine lv_if_ne hx hb (tgt := 151) zd_M_findBreaches_143 (by decide) (fun h143 => ?_) (fun h143 => ?_)
                        · have h143 := za_bT h143
                          refine lv_iconst (v := nI 1) hx hb zd_M_findBreaches_151 (by decide) ?_
                          refine lv_goto hx hb (tgt := 156) zd_M_findBreaches_152 (by decide) ?_
                          refine lv_istore_n (lv' := [(1, .int (nI 1)), (4, .int (za_bi (za_ap Tg Co k i2))), (0, .ref aO), (2, .int (nI k)), (3, .int (nI i2))]) hx hb zd_M_findBreaches_156 rfl hl (by decide) rfl (fun ls hl => ?_)
                          refine lv_iinc (k := 4) (v := nI (i2 + 1)) (lv' := [(3, .int (nI (i2 + 1))), (1, .int (nI 1)), (4, .int (za_bi (za_ap Tg Co k i2))), (0, .ref aO), (2, .int (nI k))]) hx hb zd_M_findBreaches_157 hl rfl (za_inc _) (by decide) rfl (fun ls hl => ?_)
                          refine lv_goto hx hb (tgt := 61) zd_M_findBreaches_160 (by decide) ?_
                          have e1 : za_bi true = nI 1 := by first | with_reducible rfl | (rfl)
                          exact ih61 (i2 + 1) true (upd Bc i2 (Bc i2)) ls H locs (by omega) (by omega) (by first | exact za_vbS hB1 (za_vbT (by omega) h126) | exact za_vbS hB1 ((hB2 i2 (Nat.le_refl _) (by omega)).trans (za_vbF h126))) (by exact za_vbK hB2) (by simp [za_ex, ← hm2, h6, h54, h65, h126, h143]) (by rw [e1]; exact lv_sub hl [3, 1, 4, 0] rfl) hP hD hS
                        · have h143 := za_bF h143
                          refine lv_iload hx hb zd_M_findBreaches_146 (lv_at hl 0 rfl) ?_
                          refine lv_if_eq hx hb (tgt := 155) zd_M_findBreaches_148 (by decide) (fun _ => ?_) (fun h => absurd (za_bT h) (by rw [h126]; decide))
                          refine lv_iconst (v := nI 0) hx hb zd_M_findBreaches_155 (by decide) ?_
                          refine lv_istore_n (lv' := [(1, .int (nI 0)), (4, .int (za_bi (za_ap Tg Co k i2))), (0, .ref aO), (2, .int (nI k)), (3, .int (nI i2))]) hx hb zd_M_findBreaches_156 rfl hl (by decide) rfl (fun ls hl => ?_)
                          refine lv_iinc (k := 4) (v := nI (i2 + 1)) (lv' := [(3, .int (nI (i2 + 1))), (1, .int (nI 0)), (4, .int (za_bi (za_ap Tg Co k i2))), (0, .ref aO), (2, .int (nI k))]) hx hb zd_M_findBreaches_157 hl rfl (za_inc _) (by decide) rfl (fun ls hl => ?_)
                          refine lv_goto hx hb (tgt := 61) zd_M_findBreaches_160 (by decide) ?_
                          have e1 : za_bi false = nI 0 := by first | with_reducible rfl | (rfl)
                          exact ih61 (i2 + 1) false (upd Bc i2 (Bc i2)) ls H locs (by omega) (by omega) (by first | exact za_vbS hB1 (za_vbT (by omega) h126) | exact za_vbS hB1 ((hB2 i2 (Nat.le_refl _) (by omega)).trans (za_vbF h126))) (by exact za_vbK hB2) (by simp [za_ex, ← hm2, h6, h54, h65, h126, h143]) (by rw [e1]; exact lv_sub hl [3, 1, 4, 0] rfl) hP hD hS
                      · have h126 := za_bT h126
                        refine lv_iload_n hx hb zd_M_findBreaches_129 rfl (lv_at hl 3 rfl) ?_
                        refine lv_iconst (v := nI 1) hx hb zd_M_findBreaches_130 (by decide) ?_
                        refine za_addN hx hb zd_M_findBreaches_131 ?_
                        refine lv_goto hx hb (tgt := 141) zd_M_findBreaches_132 (by decide) ?_
                        refine za_ist hx hb hK hP hD hS 3 0 rfl rfl (k := i2) (by omega) (by decide) zd_M_findBreaches_141 (fun H locs hP hD hS => ?_)
                        have hP : va_P D vwCl [(aO, .inr (5, [.ref aMv, .int mn, .ref aMc, .int (za_bi kn), .ref aBr, .ref aCd, .ref aNx, .int (nI mkc), .ref aMk, .int (nI mpl), .ref aAt, .ref aAs])), (aMv, .inl (cZ, 2304, .inl (fun j => za_bi (Mv j)))), (aMc, .inl (cI, 24, .inl Mc)), (aBr, .inl (cI, 576, .inl (upd Bc i2 (nI (k + 1)))))] H := hP
                        have hD : va_D A [(aO, .inr (5, [.ref aMv, .int mn, .ref aMc, .int (za_bi kn), .ref aBr, .ref aCd, .ref aNx, .int (nI mkc), .ref aMk, .int (nI mpl), .ref aAt, .ref aAs])), (aMv, .inl (cZ, 2304, .inl (fun j => za_bi (Mv j)))), (aMc, .inl (cI, 24, .inl Mc)), (aBr, .inl (cI, 576, .inl (upd Bc i2 (nI (k + 1)))))] := hD
                        refine lv_iload_n hx hb zd_M_findBreaches_142 rfl (lv_at hl 2 rfl) ?_
                        refine lv_if_ne hx hb (tgt := 151) zd_M_findBreaches_143 (by decide) (fun h143 => ?_) (fun h143 => ?_)
                        · have h143 := za_bT h143
                          refine lv_iconst (v := nI 1) hx hb zd_M_findBreaches_151 (by decide) ?_
                          refine lv_goto hx hb (tgt := 156) zd_M_findBreaches_152 (by decide) ?_
                          refine lv_istore_n (lv' := [(1, .int (nI 1)), (4, .int (za_bi (za_ap Tg Co k i2))), (0, .ref aO), (2, .int (nI k)), (3, .int (nI i2))]) hx hb zd_M_findBreaches_156 rfl hl (by decide) rfl (fun ls hl => ?_)
                          refine lv_iinc (k := 4) (v := nI (i2 + 1)) (lv' := [(3, .int (nI (i2 + 1))), (1, .int (nI 1)), (4, .int (za_bi (za_ap Tg Co k i2))), (0, .ref aO), (2, .int (nI k))]) hx hb zd_M_findBreaches_157 hl rfl (za_inc _) (by decide) rfl (fun ls hl => ?_)
                          refine lv_goto hx hb (tgt := 61) zd_M_findBreaches_160 (by decide) ?_
                          have e1 : za_bi true = nI 1 := by first | with_reducible rfl | (rfl)
                          exact ih61 (i2 + 1) true (upd Bc i2 (nI (k + 1))) ls H locs (by omega) (by omega) (by first | exact za_vbS hB1 (za_vbT (by omega) h126) | exact za_vbS hB1 ((hB2 i2 (Nat.le_refl _) (by omega)).trans (za_vbF h126))) (by exact za_vbK hB2) (by simp [za_ex, ← hm2, h6, h54, h65, h126, h143]) (by rw [e1]; exact lv_sub hl [3, 1, 4, 0] rfl) hP hD hS
                        · have h143 := za_bF h143
                          refine lv_iload hx hb zd_M_findBreaches_146 (lv_at hl 0 rfl) ?_
                          refine lv_if_eq hx hb (tgt := 155) zd_M_findBreaches_148 (by decide) (fun h => absurd (za_bF h) (by rw [h126]; decide)) (fun _ => ?_)
                          refine lv_iconst (v := nI 1) hx hb zd_M_findBreaches_151 (by decide) ?_
                          refine lv_goto hx hb (tgt := 156) zd_M_findBreaches_152 (by decide) ?_
                          refine lv_istore_n (lv' := [(1, .int (nI 1)), (4, .int (za_bi (za_ap Tg Co k i2))), (0, .ref aO), (2, .int (nI k)), (3, .int (nI i2))]) hx hb zd_M_findBreaches_156 rfl hl (by decide) rfl (fun ls hl => ?_)
                          refine lv_iinc (k := 4) (v := nI (i2 + 1)) (lv' := [(3, .int (nI (i2 + 1))), (1, .int (nI 1)), (4, .int (za_bi (za_ap Tg Co k i2))), (0, .ref aO), (2, .int (nI k))]) hx hb zd_M_findBreaches_157 hl rfl (za_inc _) (by decide) rfl (fun ls hl => ?_)
                          refine lv_goto hx hb (tgt := 61) zd_M_findBreaches_160 (by decide) ?_
                          have e1 : za_bi true = nI 1 := by first | with_reducible rfl | (rfl)
                          exact ih61 (i2 + 1) true (upd Bc i2 (nI (k + 1))) ls H locs (by omega) (by omega) (by first | exact za_vbS hB1 (za_vbT (by omega) h126) | exact za_vbS hB1 ((hB2 i2 (Nat.le_refl _) (by omega)).trans (za_vbF h126))) (by exact za_vbK hB2) (by simp [za_ex, ← hm2, h6, h54, h65, h126, h143]) (by rw [e1]; exact lv_sub hl [3, 1, 4, 0] rfl) hP hD hS
                    refine lv_icmp_ne hx hb (tgt := 116) zd_M_findBreaches_77 (by decide) (fun h77 => ?_) (fun h77 => ?_)
                    · skip
                      refine lv_iconst (v := nI 0) hx hb zd_M_findBreaches_116 (by decide) ?_
                      exact hJ117 _ (za_b0 (by first | exact za_ap1 (hB2 i2 (Nat.le_refl _) (by omega)) h77 | exact za_ap2 (by omega) (hB2 i2 (Nat.le_refl _) (by omega)) h77 h93 | exact za_ap3 (by omega) (hB2 i2 (Nat.le_refl _) (by omega)) h77 h109 | exact za_ap4 (by omega) (hB2 i2 (Nat.le_refl _) (by omega)) h77 h93 h109))
                    · skip
                      refine lv_aload_n hx hb zd_M_findBreaches_80 rfl (lv_at hl 0 rfl) ?_
                      refine lv_iload_n hx hb zd_M_findBreaches_81 rfl (lv_at hl 3 rfl) ?_
                      refine lv_bipush (v := nI 24) hx hb zd_M_findBreaches_82 (by decide) ?_
                      refine za_divN hx hb (by omega) (by decide) (by decide) zd_M_findBreaches_84 ?_
                      refine lv_iload_n hx hb zd_M_findBreaches_85 rfl (lv_at hl 3 rfl) ?_
                      refine lv_bipush (v := nI 24) hx hb zd_M_findBreaches_86 (by decide) ?_
                      refine za_remN hx hb (by omega) (by decide) (by decide) zd_M_findBreaches_88 ?_
                      refine lv_iload_n hx hb zd_M_findBreaches_89 rfl (lv_at hl 2 rfl) ?_
                      refine za_cV (As := [.int (nI (i2 / 24)), .int (nI (i2 % 24)), .int (nI k)]) (rest := []) ⟨hx, hb, hml, hown, hts⟩ (zc_M_follows ln D cI cZ aO aMv aMc aBr aCd aNx aMk aAt aAs mkc mpl mn kn Mv Bc (i2 / 24) (i2 % 24) k (by omega) (by omega)) (za_gV 3 hts zw_523 zw_525 zw_22 zw_40 zw_526 (by decide +kernel) ⟨Nat.le_of_ble_eq_true rfl, Nat.le_of_ble_eq_true rfl⟩) hK hN hP [0, 1, 3] rfl (q0 := 0) rfl rfl hl rfl rfl (Nat.le_of_ble_eq_true rfl) zd_M_findBreaches_90 ⟨Nat.le_of_ble_eq_true rfl, Nat.le_of_ble_eq_true rfl⟩ ?_
                      refine za_eqi (y := za_bi (za_fw Tg (za_ak Tg Co k) (i2 / 24) (i2 % 24))) (by rw [za_mfol_fw hMv hbx (by omega) (by omega)]) ?_
                      refine lv_if_eq hx hb (tgt := 112) zd_M_findBreaches_93 (by decide) (fun h93 => ?_) (fun h93 => ?_)
                      · have h93 := za_bF h93
                        refine lv_iconst (v := nI 1) hx hb zd_M_findBreaches_112 (by decide) ?_
                        refine lv_goto hx hb (tgt := 117) zd_M_findBreaches_113 (by decide) ?_
                        exact hJ117 _ (za_b1 (by first | exact za_ap1 (hB2 i2 (Nat.le_refl _) (by omega)) h77 | exact za_ap2 (by omega) (hB2 i2 (Nat.le_refl _) (by omega)) h77 h93 | exact za_ap3 (by omega) (hB2 i2 (Nat.le_refl _) (by omega)) h77 h109 | exact za_ap4 (by omega) (hB2 i2 (Nat.le_refl _) (by omega)) h77 h93 h109))
                      · have h93 := za_bT h93
                        refine lv_aload_n hx hb zd_M_findBreaches_96 rfl (lv_at hl 0 rfl) ?_
                        refine lv_iload_n hx hb zd_M_findBreaches_97 rfl (lv_at hl 3 rfl) ?_
                        refine lv_bipush (v := nI 24) hx hb zd_M_findBreaches_98 (by decide) ?_
                        refine za_remN hx hb (by omega) (by decide) (by decide) zd_M_findBreaches_100 ?_
                        refine lv_iload_n hx hb zd_M_findBreaches_101 rfl (lv_at hl 3 rfl) ?_
                        refine lv_bipush (v := nI 24) hx hb zd_M_findBreaches_102 (by decide) ?_
                        refine za_divN hx hb (by omega) (by decide) (by decide) zd_M_findBreaches_104 ?_
                        refine lv_iload_n hx hb zd_M_findBreaches_105 rfl (lv_at hl 2 rfl) ?_
                        refine za_cV (As := [.int (nI (i2 % 24)), .int (nI (i2 / 24)), .int (nI k)]) (rest := []) ⟨hx, hb, hml, hown, hts⟩ (zc_M_follows ln D cI cZ aO aMv aMc aBr aCd aNx aMk aAt aAs mkc mpl mn kn Mv Bc (i2 % 24) (i2 / 24) k (by omega) (by omega)) (za_gV 3 hts zw_523 zw_525 zw_22 zw_40 zw_526 (by decide +kernel) ⟨Nat.le_of_ble_eq_true rfl, Nat.le_of_ble_eq_true rfl⟩) hK hN hP [0, 1, 3] rfl (q0 := 0) rfl rfl hl rfl rfl (Nat.le_of_ble_eq_true rfl) zd_M_findBreaches_106 ⟨Nat.le_of_ble_eq_true rfl, Nat.le_of_ble_eq_true rfl⟩ ?_
                        refine za_eqi (y := za_bi (za_fw Tg (za_ak Tg Co k) (i2 % 24) (i2 / 24))) (by rw [za_mfol_fw hMv hbx (by omega) (by omega)]) ?_
                        refine lv_if_ne hx hb (tgt := 116) zd_M_findBreaches_109 (by decide) (fun h109 => ?_) (fun h109 => ?_)
                        · have h109 := za_bT h109
                          refine lv_iconst (v := nI 0) hx hb zd_M_findBreaches_116 (by decide) ?_
                          exact hJ117 _ (za_b0 (by first | exact za_ap1 (hB2 i2 (Nat.le_refl _) (by omega)) h77 | exact za_ap2 (by omega) (hB2 i2 (Nat.le_refl _) (by omega)) h77 h93 | exact za_ap3 (by omega) (hB2 i2 (Nat.le_refl _) (by omega)) h77 h109 | exact za_ap4 (by omega) (hB2 i2 (Nat.le_refl _) (by omega)) h77 h93 h109))
                        · have h109 := za_bF h109
                          refine lv_iconst (v := nI 1) hx hb zd_M_findBreaches_112 (by decide) ?_
                          refine lv_goto hx hb (tgt := 117) zd_M_findBreaches_113 (by decide) ?_
                          exact hJ117 _ (za_b1 (by first | exact za_ap1 (hB2 i2 (Nat.le_refl _) (by omega)) h77 | exact za_ap2 (by omega) (hB2 i2 (Nat.le_refl _) (by omega)) h77 h93 | exact za_ap3 (by omega) (hB2 i2 (Nat.le_refl _) (by omega)) h77 h109 | exact za_ap4 (by omega) (hB2 i2 (Nat.le_refl _) (by omega)) h77 h93 h109))
              have e1 : za_bi false = nI 0 := by first | with_reducible rfl | (rfl)
              exact hC61 (576 - 0 + 1) 0 false Bq ls H locs (Nat.lt_succ_self _) (by omega) (by exact fun q hq => absurd hq (Nat.not_lt_zero _)) (by exact fun q _ hq => hB q hq) (by rfl) (by rw [e1]; exact lv_sub hl [2, 1, 3, 0] rfl) hP hD hS
        have e1 : za_bi true = nI 1 := by first | with_reducible rfl | (rfl)
        exact hC53 (26 - 0 + 1) 0 true (za_fl (za_vb0 Mc) Br i) ls H locs (Nat.lt_succ_self _) (by omega) (by intro h; omega) (by exact za_vb_0 hMc (by omega)) (by intro h; cases h) (by rw [e1]; exact lv_sub hl [2, 1, 0] rfl) hP hD hS
      · have h6 := za_nleN h6 (by omega) (by omega)
        refine lv_aload_n hx hb zd_M_findBreaches_9 rfl (lv_at hl 0 rfl) ?_
        refine va_get (D := D) (ci := 5) (v := .ref aBr) (C := zs_M) (T := zt_M) (N := 12) hx hb hts zi_M hown hK hP 0 rfl rfl 4 (by decide) hf17 (fun _ h9 => h9) rfl zd_M_findBreaches_10 ?_
        refine lv_iload_n hx hb zd_M_findBreaches_13 rfl (lv_at hl 1 rfl) ?_
        refine lv_aload_n hx hb zd_M_findBreaches_14 rfl (lv_at hl 0 rfl) ?_
        refine va_get (D := D) (ci := 5) (v := .ref aMc) (C := zs_M) (T := zt_M) (N := 12) hx hb hts zi_M hown hK hP 0 rfl rfl 2 (by decide) hf13 (fun _ h9 => h9) rfl zd_M_findBreaches_15 ?_
        refine lv_iload_n hx hb zd_M_findBreaches_18 rfl (lv_at hl 1 rfl) ?_
        refine lv_bipush (v := nI 24) hx hb zd_M_findBreaches_19 (by decide) ?_
        refine za_divN hx hb (by omega) (by decide) (by decide) zd_M_findBreaches_21 ?_
        refine za_ild hx hb hK hP 2 0 rfl rfl (k := i / 24) (by omega) (by decide) zd_M_findBreaches_22 ?_
        refine lv_aload_n hx hb zd_M_findBreaches_23 rfl (lv_at hl 0 rfl) ?_
        refine va_get (D := D) (ci := 5) (v := .ref aMc) (C := zs_M) (T := zt_M) (N := 12) hx hb hts zi_M hown hK hP 0 rfl rfl 2 (by decide) hf13 (fun _ h9 => h9) rfl zd_M_findBreaches_24 ?_
        refine lv_iload_n hx hb zd_M_findBreaches_27 rfl (lv_at hl 1 rfl) ?_
        refine lv_bipush (v := nI 24) hx hb zd_M_findBreaches_28 (by decide) ?_
        refine za_remN hx hb (by omega) (by decide) (by decide) zd_M_findBreaches_30 ?_
        refine za_ild hx hb hK hP 2 0 rfl rfl (k := i % 24) (by omega) (by decide) zd_M_findBreaches_31 ?_
        refine lv_icmp_ne hx hb (tgt := 41) zd_M_findBreaches_32 (by decide) (fun h32 => ?_) (fun h32 => ?_)
        · skip
          refine lv_iconst (v := nI 0) hx hb zd_M_findBreaches_41 (by decide) ?_
          refine za_ist hx hb hK hP hD hS 3 0 rfl rfl (k := i) (by omega) (by decide) zd_M_findBreaches_42 (fun H locs hP hD hS => ?_)
          have hP : va_P D vwCl [(aO, .inr (5, [.ref aMv, .int mn, .ref aMc, .int (za_bi kn), .ref aBr, .ref aCd, .ref aNx, .int (nI mkc), .ref aMk, .int (nI mpl), .ref aAt, .ref aAs])), (aMv, .inl (cZ, 2304, .inl (fun j => za_bi (Mv j)))), (aMc, .inl (cI, 24, .inl Mc)), (aBr, .inl (cI, 576, .inl (upd (za_fl (za_vb0 Mc) Br i) i (nI 0))))] H := hP
          have hD : va_D A [(aO, .inr (5, [.ref aMv, .int mn, .ref aMc, .int (za_bi kn), .ref aBr, .ref aCd, .ref aNx, .int (nI mkc), .ref aMk, .int (nI mpl), .ref aAt, .ref aAs])), (aMv, .inl (cZ, 2304, .inl (fun j => za_bi (Mv j)))), (aMc, .inl (cI, 24, .inl Mc)), (aBr, .inl (cI, 576, .inl (upd (za_fl (za_vb0 Mc) Br i) i (nI 0))))] := hD
          refine lv_iinc (k := 1) (v := nI (i + 1)) (lv' := [(1, .int (nI (i + 1))), (0, .ref aO)]) hx hb zd_M_findBreaches_43 hl rfl (za_inc _) (by decide) rfl (fun ls hl => ?_)
          refine lv_goto hx hb (tgt := 2) zd_M_findBreaches_46 (by decide) ?_
          have e1 : za_fl (za_vb0 Mc) Br (i + 1) = upd (za_fl (za_vb0 Mc) Br i) i (nI 0) := by first | with_reducible rfl | (exact za_flU (by simp [za_vb0, h32]))
          exact ih2 (i + 1) ls H locs (by omega) (by omega) (lv_sub hl [1, 0] rfl) (by rw [e1]; exact hP) (by rw [e1]; exact hD) hS
        · skip
          refine lv_sipush (v := nI 1000) hx hb zd_M_findBreaches_35 (by decide) ?_
          refine lv_goto hx hb (tgt := 42) zd_M_findBreaches_38 (by decide) ?_
          refine za_ist hx hb hK hP hD hS 3 0 rfl rfl (k := i) (by omega) (by decide) zd_M_findBreaches_42 (fun H locs hP hD hS => ?_)
          have hP : va_P D vwCl [(aO, .inr (5, [.ref aMv, .int mn, .ref aMc, .int (za_bi kn), .ref aBr, .ref aCd, .ref aNx, .int (nI mkc), .ref aMk, .int (nI mpl), .ref aAt, .ref aAs])), (aMv, .inl (cZ, 2304, .inl (fun j => za_bi (Mv j)))), (aMc, .inl (cI, 24, .inl Mc)), (aBr, .inl (cI, 576, .inl (upd (za_fl (za_vb0 Mc) Br i) i (nI 1000))))] H := hP
          have hD : va_D A [(aO, .inr (5, [.ref aMv, .int mn, .ref aMc, .int (za_bi kn), .ref aBr, .ref aCd, .ref aNx, .int (nI mkc), .ref aMk, .int (nI mpl), .ref aAt, .ref aAs])), (aMv, .inl (cZ, 2304, .inl (fun j => za_bi (Mv j)))), (aMc, .inl (cI, 24, .inl Mc)), (aBr, .inl (cI, 576, .inl (upd (za_fl (za_vb0 Mc) Br i) i (nI 1000))))] := hD
          refine lv_iinc (k := 1) (v := nI (i + 1)) (lv' := [(1, .int (nI (i + 1))), (0, .ref aO)]) hx hb zd_M_findBreaches_43 hl rfl (za_inc _) (by decide) rfl (fun ls hl => ?_)
          refine lv_goto hx hb (tgt := 2) zd_M_findBreaches_46 (by decide) ?_
          have e1 : za_fl (za_vb0 Mc) Br (i + 1) = upd (za_fl (za_vb0 Mc) Br i) i (nI 1000) := by first | with_reducible rfl | (exact za_flU (by simp [za_vb0, h32]))
          exact ih2 (i + 1) ls H locs (by omega) (by omega) (lv_sub hl [1, 0] rfl) (by rw [e1]; exact hP) (by rw [e1]; exact hD) hS
  have e1 : za_fl (za_vb0 Mc) Br 0 = Br := by first | with_reducible rfl | (exact za_fl0 _ _)
  exact hC2 (576 - 0 + 1) 0 ls H0 [] (Nat.lt_succ_self _) (by omega) (lv_sub hl [1, 0] rfl) (by rw [e1]; exact hP) (by rw [e1]; exact hD) hS
