def zr_M_findCovers : Room := { frames := 2, cells := 0, slots := 0, locals := 49 }
set_option maxHeartbeats 4000000 in
set_option maxRecDepth 100000 in
theorem zc_M_findCovers (ln : Launch) (D : va_G) (cI cZ : ClassId) (sz : Nat) (aO : Nat) (aMv : Nat) (aMc : Nat) (aBr : Nat) (aCd : Nat) (aNx : Nat) (aMk : Nat) (aAt : Nat) (aAs : Nat) (mkc : Nat) (mpl : Nat) (mn : Int32) (kn : Bool) (Mv : Nat → Bool) (Mc : Nat → Int32) (Cd : Nat → Bool) (Nx : Nat → Bool) (Tg : Nat → Int32) (Co : Nat → Int32) (hMv : za_rel Tg Mv) (hMc : (∀ s, s < 24 → Mc s = Co s)) : Met ln zm_M_findCovers (Cond.code zm_M_findCovers zo_M_findCovers 3 none :: zb_big) zr_M_findCovers (za_Pw D vwCl [(cI, .int), (cZ, .boolean)] [.ref aO] [(aO, .inr (5, [.ref aMv, .int mn, .ref aMc, .int (za_bi kn), .ref aBr, .ref aCd, .ref aNx, .int (nI mkc), .ref aMk, .int (nI mpl), .ref aAt, .ref aAs])), (aMv, .inl (cZ, 2304, .inl (fun j => za_bi (Mv j)))), (aMc, .inl (cI, 24, .inl Mc)), (aCd, .inl (cZ, 576, .inl (fun j => za_bi (Cd j)))), (aNx, .inl (cZ, 576, .inl (fun j => za_bi (Nx j))))] sz) (va_Qv (fun (u : (Nat → Bool) × (Nat → Bool)) => za_cds Tg Co u.1) (za_B D vwCl [(aO, .inr (5, [.ref aMv, .int mn, .ref aMc, .int (za_bi kn), .ref aBr, .ref aCd, .ref aNx, .int (nI mkc), .ref aMk, .int (nI mpl), .ref aAt, .ref aAs])), (aMv, .inl (cZ, 2304, .inl (fun j => za_bi (Mv j)))), (aMc, .inl (cI, 24, .inl Mc)), (aCd, .inl (cZ, 576, .inl (fun j => za_bi (Cd j)))), (aNx, .inl (cZ, 576, .inl (fun j => za_bi (Nx j))))] sz (fun (u : (Nat → Bool) × (Nat → Bool)) => [(aO, .inr (5, [.ref aMv, .int mn, .ref aMc, .int (za_bi kn), .ref aBr, .ref aCd, .ref aNx, .int (nI mkc), .ref aMk, .int (nI mpl), .ref aAt, .ref aAs])), (aMv, .inl (cZ, 2304, .inl (fun j => za_bi (Mv j)))), (aMc, .inl (cI, 24, .inl Mc)), (aCd, .inl (cZ, 576, .inl (fun j => za_bi (u.1 j)))), (aNx, .inl (cZ, 576, .inl (fun j => za_bi (u.2 j))))])) (va_A [(aO, .inr (5, [.ref aMv, .int mn, .ref aMc, .int (za_bi kn), .ref aBr, .ref aCd, .ref aNx, .int (nI mkc), .ref aMk, .int (nI mpl), .ref aAt, .ref aAs])), (aMv, .inl (cZ, 2304, .inl (fun j => za_bi (Mv j)))), (aMc, .inl (cI, 24, .inl Mc)), (aCd, .inl (cZ, 576, .inl (fun j => za_bi (Cd j)))), (aNx, .inl (cZ, 576, .inl (fun j => za_bi (Nx j))))] sz)) 0 0 (va_A [(aO, .inr (5, [.ref aMv, .int mn, .ref aMc, .int (za_bi kn), .ref aBr, .ref aCd, .ref aNx, .int (nI mkc), .ref aMk, .int (nI mpl), .ref aAt, .ref aAs])), (aMv, .inl (cZ, 2304, .inl (fun j => za_bi (Mv j)))), (aMc, .inl (cI, 24, .inl Mc)), (aCd, .inl (cZ, 576, .inl (fun j => za_bi (Cd j)))), (aNx, .inl (cZ, 576, .inl (fun j => za_bi (Nx j))))] sz) := by
  refine za_wv (cc := zo_M_findCovers) (maxL := 3) (by decide) (Nat.le_of_ble_eq_true rfl) ?_
  intro p e sg m args below meth c H0 A Q hx hb hml hts hown hmn hP hK hN hD hA hS hret ls hl
  have hP : va_P D vwCl [(aO, .inr (5, [.ref aMv, .int mn, .ref aMc, .int (za_bi kn), .ref aBr, .ref aCd, .ref aNx, .int (nI mkc), .ref aMk, .int (nI mpl), .ref aAt, .ref aAs])), (aMv, .inl (cZ, 2304, .inl (fun j => za_bi (Mv j)))), (aMc, .inl (cI, 24, .inl Mc)), (aCd, .inl (cZ, 576, .inl (fun j => za_bi (Cd j)))), (aNx, .inl (cZ, 576, .inl (fun j => za_bi (Nx j))))] H0 := hP
  have hD : va_D A [(aO, .inr (5, [.ref aMv, .int mn, .ref aMc, .int (za_bi kn), .ref aBr, .ref aCd, .ref aNx, .int (nI mkc), .ref aMk, .int (nI mpl), .ref aAt, .ref aAs])), (aMv, .inl (cZ, 2304, .inl (fun j => za_bi (Mv j)))), (aMc, .inl (cI, 24, .inl Mc)), (aCd, .inl (cZ, 576, .inl (fun j => za_bi (Cd j)))), (aNx, .inl (cZ, 576, .inl (fun j => za_bi (Nx j))))] := hD
  have hl : lv_has ls 3 [(0, .ref aO)] := hl
  have hf20 := hts _ zw_448
  have hf23 := hts _ zw_449
  have hf13 := hts _ zw_445
  refine lv_iconst (v := nI 0) hx hb zd_M_findCovers_0 (by decide) ?_
  refine lv_istore_n (lv' := [(1, .int (nI 0)), (0, .ref aO)]) hx hb zd_M_findCovers_1 rfl hl (by decide) rfl (fun ls hl => ?_)
  have hC2 : ∀ (n2 : Nat) (i : Nat) (ls : Array Slot) (H : Heap) (locs : List Loc), 576 - i < n2 → i ≤ 576 → lv_has ls 3 [(0, .ref aO), (1, .int (nI i))] → va_P D vwCl [(aO, .inr (5, [.ref aMv, .int mn, .ref aMc, .int (za_bi kn), .ref aBr, .ref aCd, .ref aNx, .int (nI mkc), .ref aMk, .int (nI mpl), .ref aAt, .ref aAs])), (aMv, .inl (cZ, 2304, .inl (fun j => za_bi (Mv j)))), (aMc, .inl (cI, 24, .inl Mc)), (aCd, .inl (cZ, 576, .inl (fun j => za_bi ((za_fb (za_vc0 Mc) Cd i) j)))), (aNx, .inl (cZ, 576, .inl (fun j => za_bi (Nx j))))] H → va_D A [(aO, .inr (5, [.ref aMv, .int mn, .ref aMc, .int (za_bi kn), .ref aBr, .ref aCd, .ref aNx, .int (nI mkc), .ref aMk, .int (nI mpl), .ref aAt, .ref aAs])), (aMv, .inl (cZ, 2304, .inl (fun j => za_bi (Mv j)))), (aMc, .inl (cI, 24, .inl Mc)), (aCd, .inl (cZ, 576, .inl (fun j => za_bi ((za_fb (za_vc0 Mc) Cd i) j)))), (aNx, .inl (cZ, 576, .inl (fun j => za_bi (Nx j))))] → va_S A H0 H locs → W p ln e zr_M_findCovers sg m args below meth c H locs 0 0 Q (F0 m 2 ls []) := by
    intro n2
    induction n2 with
    | zero => intro i ls H locs hn2 hi_i hl hP hD hS; exact absurd hn2 (Nat.not_lt_zero _)
    | succ n2 ih2 =>
      intro i ls H locs hn2 hi_i hl hP hD hS
      refine lv_iload_n hx hb zd_M_findCovers_2 rfl (lv_at hl 1 rfl) ?_
      refine lv_sipush (v := nI 576) hx hb zd_M_findCovers_3 (by decide) ?_
      refine lv_icmp_ge hx hb (tgt := 47) zd_M_findCovers_6 (by decide) (fun h6 => ?_) (fun h6 => ?_)
      · have h6 := za_leN h6 (by omega) (by omega)
        refine lv_iconst (v := nI 1) hx hb zd_M_findCovers_47 (by decide) ?_
        refine lv_istore_n (lv' := [(1, .int (nI 1)), (0, .ref aO)]) hx hb zd_M_findCovers_48 rfl hl (by decide) rfl (fun ls hl => ?_)
        have hC49 : ∀ (n49 : Nat) (k : Nat) (mo : Bool) (Cq : Nat → Bool) (Nq : Nat → Bool) (ls : Array Slot) (H : Heap) (locs : List Loc), 578 - k < n49 → k ≤ 577 → (k = 577 → mo = false) → (∀ q, q < 576 → Cq q = za_vc Tg Co k q) → (mo = false → za_cstab Tg Co k) → lv_has ls 3 [(0, .ref aO), (1, .int (za_bi mo))] → va_P D vwCl [(aO, .inr (5, [.ref aMv, .int mn, .ref aMc, .int (za_bi kn), .ref aBr, .ref aCd, .ref aNx, .int (nI mkc), .ref aMk, .int (nI mpl), .ref aAt, .ref aAs])), (aMv, .inl (cZ, 2304, .inl (fun j => za_bi (Mv j)))), (aMc, .inl (cI, 24, .inl Mc)), (aCd, .inl (cZ, 576, .inl (fun j => za_bi (Cq j)))), (aNx, .inl (cZ, 576, .inl (fun j => za_bi (Nq j))))] H → va_D A [(aO, .inr (5, [.ref aMv, .int mn, .ref aMc, .int (za_bi kn), .ref aBr, .ref aCd, .ref aNx, .int (nI mkc), .ref aMk, .int (nI mpl), .ref aAt, .ref aAs])), (aMv, .inl (cZ, 2304, .inl (fun j => za_bi (Mv j)))), (aMc, .inl (cI, 24, .inl Mc)), (aCd, .inl (cZ, 576, .inl (fun j => za_bi (Cq j)))), (aNx, .inl (cZ, 576, .inl (fun j => za_bi (Nq j))))] → va_S A H0 H locs → W p ln e zr_M_findCovers sg m args below meth c H locs 0 0 Q (F0 m 49 ls []) := by
          intro n49
          induction n49 with
          | zero => intro k mo Cq Nq ls H locs hn49 hk hk2 hC hm hl hP hD hS; exact absurd hn49 (Nat.not_lt_zero _)
          | succ n49 ih49 =>
            intro k mo Cq Nq ls H locs hn49 hk hk2 hC hm hl hP hD hS
            refine lv_iload_n hx hb zd_M_findCovers_49 rfl (lv_at hl 1 rfl) ?_
            refine lv_if_eq hx hb (tgt := 160) zd_M_findCovers_50 (by decide) (fun h50 => ?_) (fun h50 => ?_)
            · have h50 := za_bF h50
              have hP9 : va_P D vwCl [(aO, .inr (5, [.ref aMv, .int mn, .ref aMc, .int (za_bi kn), .ref aBr, .ref aCd, .ref aNx, .int (nI mkc), .ref aMk, .int (nI mpl), .ref aAt, .ref aAs])), (aMv, .inl (cZ, 2304, .inl (fun j => za_bi (Mv j)))), (aMc, .inl (cI, 24, .inl Mc)), (aCd, .inl (cZ, 576, .inl (fun j => za_bi (Cq j)))), (aNx, .inl (cZ, 576, .inl (fun j => za_bi (Nq j))))] H := hP
              have hD9 : va_D A [(aO, .inr (5, [.ref aMv, .int mn, .ref aMc, .int (za_bi kn), .ref aBr, .ref aCd, .ref aNx, .int (nI mkc), .ref aMk, .int (nI mpl), .ref aAt, .ref aAs])), (aMv, .inl (cZ, 2304, .inl (fun j => za_bi (Mv j)))), (aMc, .inl (cI, 24, .inl Mc)), (aCd, .inl (cZ, 576, .inl (fun j => za_bi (Cq j)))), (aNx, .inl (cZ, 576, .inl (fun j => za_bi (Nq j))))] := hD
              have hQ9 : za_cds Tg Co Cq := by exact za_cds_of hC (hm h50)
              exact hret ⟨Cq, Nq⟩ _ _ _ _ (hQ9) hP9 hD9 hS zd_M_findCovers_160
            · have h50 := za_bT h50
              have hk24 : k ≤ 576 := by
                rcases Nat.lt_or_ge k 577 with z | z
                · omega
                · have z2 := hk2 (by omega)
                  rw [h50] at z2
                  cases z2
              refine lv_iconst (v := nI 0) hx hb zd_M_findCovers_53 (by decide) ?_
              refine lv_istore_n (lv' := [(1, .int (nI 0)), (0, .ref aO)]) hx hb zd_M_findCovers_54 rfl hl (by decide) rfl (fun ls hl => ?_)
              refine lv_iconst (v := nI 0) hx hb zd_M_findCovers_55 (by decide) ?_
              refine lv_istore_n (lv' := [(2, .int (nI 0)), (1, .int (nI 0)), (0, .ref aO)]) hx hb zd_M_findCovers_56 rfl hl (by decide) rfl (fun ls hl => ?_)
              have hC130 : ∀  (m2 : Bool) (Ne : Nat → Bool) (ls : Array Slot) (H : Heap) (locs : List Loc), m2 = za_ex (za_cq Tg Co k) 576 → (∀ q, q < 576 → Ne q = za_vc Tg Co (k + 1) q) → lv_has ls 3 [(0, .ref aO), (1, .int (za_bi m2))] → va_P D vwCl [(aO, .inr (5, [.ref aMv, .int mn, .ref aMc, .int (za_bi kn), .ref aBr, .ref aCd, .ref aNx, .int (nI mkc), .ref aMk, .int (nI mpl), .ref aAt, .ref aAs])), (aMv, .inl (cZ, 2304, .inl (fun j => za_bi (Mv j)))), (aMc, .inl (cI, 24, .inl Mc)), (aCd, .inl (cZ, 576, .inl (fun j => za_bi (Cq j)))), (aNx, .inl (cZ, 576, .inl (fun j => za_bi (Ne j))))] H → va_D A [(aO, .inr (5, [.ref aMv, .int mn, .ref aMc, .int (za_bi kn), .ref aBr, .ref aCd, .ref aNx, .int (nI mkc), .ref aMk, .int (nI mpl), .ref aAt, .ref aAs])), (aMv, .inl (cZ, 2304, .inl (fun j => za_bi (Mv j)))), (aMc, .inl (cI, 24, .inl Mc)), (aCd, .inl (cZ, 576, .inl (fun j => za_bi (Cq j)))), (aNx, .inl (cZ, 576, .inl (fun j => za_bi (Ne j))))] → va_S A H0 H locs → W p ln e zr_M_findCovers sg m args below meth c H locs 0 0 Q (F0 m 130 ls []) := by
                intro m2 Ne ls H locs hm2 hN2 hl hP hD hS
                refine lv_iconst (v := nI 0) hx hb zd_M_findCovers_130 (by decide) ?_
                refine lv_istore_n (lv' := [(2, .int (nI 0)), (0, .ref aO), (1, .int (za_bi m2))]) hx hb zd_M_findCovers_131 rfl hl (by decide) rfl (fun ls hl => ?_)
                have hC132 : ∀ (n132 : Nat) (i3 : Nat) (Ce : Nat → Bool) (ls : Array Slot) (H : Heap) (locs : List Loc), 576 - i3 < n132 → i3 ≤ 576 → (∀ q, q < i3 → Ce q = za_vc Tg Co (k + 1) q) → lv_has ls 3 [(0, .ref aO), (1, .int (za_bi m2)), (2, .int (nI i3))] → va_P D vwCl [(aO, .inr (5, [.ref aMv, .int mn, .ref aMc, .int (za_bi kn), .ref aBr, .ref aCd, .ref aNx, .int (nI mkc), .ref aMk, .int (nI mpl), .ref aAt, .ref aAs])), (aMv, .inl (cZ, 2304, .inl (fun j => za_bi (Mv j)))), (aMc, .inl (cI, 24, .inl Mc)), (aCd, .inl (cZ, 576, .inl (fun j => za_bi (Ce j)))), (aNx, .inl (cZ, 576, .inl (fun j => za_bi (Ne j))))] H → va_D A [(aO, .inr (5, [.ref aMv, .int mn, .ref aMc, .int (za_bi kn), .ref aBr, .ref aCd, .ref aNx, .int (nI mkc), .ref aMk, .int (nI mpl), .ref aAt, .ref aAs])), (aMv, .inl (cZ, 2304, .inl (fun j => za_bi (Mv j)))), (aMc, .inl (cI, 24, .inl Mc)), (aCd, .inl (cZ, 576, .inl (fun j => za_bi (Ce j)))), (aNx, .inl (cZ, 576, .inl (fun j => za_bi (Ne j))))] → va_S A H0 H locs → W p ln e zr_M_findCovers sg m args below meth c H locs 0 0 Q (F0 m 132 ls []) := by
                  intro n132
                  induction n132 with
                  | zero => intro i3 Ce ls H locs hn132 hi3 hD1 hl hP hD hS; exact absurd hn132 (Nat.not_lt_zero _)
                  | succ n132 ih132 =>
                    intro i3 Ce ls H locs hn132 hi3 hD1 hl hP hD hS
                    refine lv_iload_n hx hb zd_M_findCovers_132 rfl (lv_at hl 2 rfl) ?_
                    refine lv_sipush (v := nI 576) hx hb zd_M_findCovers_133 (by decide) ?_
                    refine lv_icmp_ge hx hb (tgt := 157) zd_M_findCovers_136 (by decide) (fun h136 => ?_) (fun h136 => ?_)
                    · have h136 := za_leN h136 (by omega) (by omega)
                      refine lv_goto hx hb (tgt := 49) zd_M_findCovers_157 (by decide) ?_
                      exact ih49 (k + 1) m2 Ce Ne ls H locs (by omega) (by omega) (by intro h; rw [hm2]; exact za_cq_none (by omega)) (by exact fun q hq => hD1 q (by omega)) (by intro h; rw [hm2] at h; exact za_cstab_cq h) (lv_sub hl [0, 1] rfl) hP hD hS
                    · have h136 := za_nleN h136 (by omega) (by omega)
                      refine lv_aload_n hx hb zd_M_findCovers_139 rfl (lv_at hl 0 rfl) ?_
                      refine va_get (D := D) (ci := 5) (v := .ref aCd) (C := zs_M) (T := zt_M) (N := 12) hx hb hts zi_M hown hK hP 0 rfl rfl 5 (by decide) hf20 (fun _ h9 => h9) rfl zd_M_findCovers_140 ?_
                      refine lv_iload_n hx hb zd_M_findCovers_143 rfl (lv_at hl 2 rfl) ?_
                      refine lv_aload_n hx hb zd_M_findCovers_144 rfl (lv_at hl 0 rfl) ?_
                      refine va_get (D := D) (ci := 5) (v := .ref aNx) (C := zs_M) (T := zt_M) (N := 12) hx hb hts zi_M hown hK hP 0 rfl rfl 6 (by decide) hf23 (fun _ h9 => h9) rfl zd_M_findCovers_145 ?_
                      refine lv_iload_n hx hb zd_M_findCovers_148 rfl (lv_at hl 2 rfl) ?_
                      refine za_zld hx hb hK hP 4 1 rfl rfl (k := i3) (by omega) (by decide) zd_M_findCovers_149 ?_
                      refine za_zst hx hb hK hP hD hS 3 1 rfl rfl (k := i3) (b := Ne i3) (by omega) (by decide) zd_M_findCovers_150 (fun H locs hP hD hS => ?_)
                      have hP : va_P D vwCl [(aO, .inr (5, [.ref aMv, .int mn, .ref aMc, .int (za_bi kn), .ref aBr, .ref aCd, .ref aNx, .int (nI mkc), .ref aMk, .int (nI mpl), .ref aAt, .ref aAs])), (aMv, .inl (cZ, 2304, .inl (fun j => za_bi (Mv j)))), (aMc, .inl (cI, 24, .inl Mc)), (aCd, .inl (cZ, 576, .inl (fun j => za_bi (za_ub Ce i3 (Ne i3) j)))), (aNx, .inl (cZ, 576, .inl (fun j => za_bi (Ne j))))] H := hP
                      have hD : va_D A [(aO, .inr (5, [.ref aMv, .int mn, .ref aMc, .int (za_bi kn), .ref aBr, .ref aCd, .ref aNx, .int (nI mkc), .ref aMk, .int (nI mpl), .ref aAt, .ref aAs])), (aMv, .inl (cZ, 2304, .inl (fun j => za_bi (Mv j)))), (aMc, .inl (cI, 24, .inl Mc)), (aCd, .inl (cZ, 576, .inl (fun j => za_bi (za_ub Ce i3 (Ne i3) j)))), (aNx, .inl (cZ, 576, .inl (fun j => za_bi (Ne j))))] := hD
                      refine lv_iinc (k := 2) (v := nI (i3 + 1)) (lv' := [(2, .int (nI (i3 + 1))), (0, .ref aO), (1, .int (za_bi m2))]) hx hb zd_M_findCovers_151 hl rfl (za_inc _) (by decide) rfl (fun ls hl => ?_)
                      refine lv_goto hx hb (tgt := 132) zd_M_findCovers_154 (by decide) ?_
                      exact ih132 (i3 + 1) (za_ub Ce i3 (Ne i3)) ls H locs (by omega) (by omega) (by exact za_ubS hD1 (hN2 i3 (by omega))) (lv_sub hl [1, 2, 0] rfl) hP hD hS
                exact hC132 (576 - 0 + 1) 0 Cq ls H locs (Nat.lt_succ_self _) (by omega) (by exact fun q hq => absurd hq (Nat.not_lt_zero _)) (lv_sub hl [1, 2, 0] rfl) hP hD hS
              have hC57 : ∀ (n57 : Nat) (i2 : Nat) (m1 : Bool) (Nc : Nat → Bool) (ls : Array Slot) (H : Heap) (locs : List Loc), 576 - i2 < n57 → i2 ≤ 576 → (∀ q, q < i2 → Nc q = za_vc Tg Co (k + 1) q) → m1 = za_ex (za_cq Tg Co k) i2 → lv_has ls 3 [(0, .ref aO), (1, .int (za_bi m1)), (2, .int (nI i2))] → va_P D vwCl [(aO, .inr (5, [.ref aMv, .int mn, .ref aMc, .int (za_bi kn), .ref aBr, .ref aCd, .ref aNx, .int (nI mkc), .ref aMk, .int (nI mpl), .ref aAt, .ref aAs])), (aMv, .inl (cZ, 2304, .inl (fun j => za_bi (Mv j)))), (aMc, .inl (cI, 24, .inl Mc)), (aCd, .inl (cZ, 576, .inl (fun j => za_bi (Cq j)))), (aNx, .inl (cZ, 576, .inl (fun j => za_bi (Nc j))))] H → va_D A [(aO, .inr (5, [.ref aMv, .int mn, .ref aMc, .int (za_bi kn), .ref aBr, .ref aCd, .ref aNx, .int (nI mkc), .ref aMk, .int (nI mpl), .ref aAt, .ref aAs])), (aMv, .inl (cZ, 2304, .inl (fun j => za_bi (Mv j)))), (aMc, .inl (cI, 24, .inl Mc)), (aCd, .inl (cZ, 576, .inl (fun j => za_bi (Cq j)))), (aNx, .inl (cZ, 576, .inl (fun j => za_bi (Nc j))))] → va_S A H0 H locs → W p ln e zr_M_findCovers sg m args below meth c H locs 0 0 Q (F0 m 57 ls []) := by
                intro n57
                induction n57 with
                | zero => intro i2 m1 Nc ls H locs hn57 hi2 hNx hm1 hl hP hD hS; exact absurd hn57 (Nat.not_lt_zero _)
                | succ n57 ih57 =>
                  intro i2 m1 Nc ls H locs hn57 hi2 hNx hm1 hl hP hD hS
                  refine lv_iload_n hx hb zd_M_findCovers_57 rfl (lv_at hl 2 rfl) ?_
                  refine lv_sipush (v := nI 576) hx hb zd_M_findCovers_58 (by decide) ?_
                  refine lv_icmp_ge hx hb (tgt := 130) zd_M_findCovers_61 (by decide) (fun h61 => ?_) (fun h61 => ?_)
                  · have h61 := za_leN h61 (by omega) (by omega)
                    exact hC130 m1 Nc ls H locs (by rw [hm1, show i2 = 576 by omega]) (by exact fun q hq => hNx q (by omega)) (lv_sub hl [0, 1] rfl) hP hD hS
                  · have h61 := za_nleN h61 (by omega) (by omega)
                    refine lv_aload_n hx hb zd_M_findCovers_64 rfl (lv_at hl 0 rfl) ?_
                    refine va_get (D := D) (ci := 5) (v := .ref aNx) (C := zs_M) (T := zt_M) (N := 12) hx hb hts zi_M hown hK hP 0 rfl rfl 6 (by decide) hf23 (fun _ h9 => h9) rfl zd_M_findCovers_65 ?_
                    refine lv_iload_n hx hb zd_M_findCovers_68 rfl (lv_at hl 2 rfl) ?_
                    refine lv_aload_n hx hb zd_M_findCovers_69 rfl (lv_at hl 0 rfl) ?_
                    refine va_get (D := D) (ci := 5) (v := .ref aCd) (C := zs_M) (T := zt_M) (N := 12) hx hb hts zi_M hown hK hP 0 rfl rfl 5 (by decide) hf20 (fun _ h9 => h9) rfl zd_M_findCovers_70 ?_
                    refine lv_iload_n hx hb zd_M_findCovers_73 rfl (lv_at hl 2 rfl) ?_
                    refine za_zld hx hb hK hP 3 1 rfl rfl (k := i2) (by omega) (by decide) zd_M_findCovers_74 ?_
                    have hJ98 : ∀ v : Int32, v = za_bi (za_vc Tg Co (k + 1) i2) → W p ln e zr_M_findCovers sg m args below meth c H locs 0 0 Q (F0 m 98 ls [.int v, .int (nI i2), .ref aNx]) := by
                      intro v hv
                      subst hv
                      refine za_zst hx hb hK hP hD hS 4 1 rfl rfl (k := i2) (b := za_vc Tg Co (k + 1) i2) (by omega) (by decide) zd_M_findCovers_98 (fun H locs hP hD hS => ?_)
                      have hP : va_P D vwCl [(aO, .inr (5, [.ref aMv, .int mn, .ref aMc, .int (za_bi kn), .ref aBr, .ref aCd, .ref aNx, .int (nI mkc), .ref aMk, .int (nI mpl), .ref aAt, .ref aAs])), (aMv, .inl (cZ, 2304, .inl (fun j => za_bi (Mv j)))), (aMc, .inl (cI, 24, .inl Mc)), (aCd, .inl (cZ, 576, .inl (fun j => za_bi (Cq j)))), (aNx, .inl (cZ, 576, .inl (fun j => za_bi (za_ub Nc i2 (za_vc Tg Co (k + 1) i2) j))))] H := hP
                      have hD : va_D A [(aO, .inr (5, [.ref aMv, .int mn, .ref aMc, .int (za_bi kn), .ref aBr, .ref aCd, .ref aNx, .int (nI mkc), .ref aMk, .int (nI mpl), .ref aAt, .ref aAs])), (aMv, .inl (cZ, 2304, .inl (fun j => za_bi (Mv j)))), (aMc, .inl (cI, 24, .inl Mc)), (aCd, .inl (cZ, 576, .inl (fun j => za_bi (Cq j)))), (aNx, .inl (cZ, 576, .inl (fun j => za_bi (za_ub Nc i2 (za_vc Tg Co (k + 1) i2) j))))] := hD
                      refine lv_iload_n hx hb zd_M_findCovers_99 rfl (lv_at hl 1 rfl) ?_
                      have hJ123 : ∀ v : Int32, v = za_bi (za_ex (za_cq Tg Co k) (i2 + 1)) → W p ln e zr_M_findCovers sg m args below meth c H locs 0 0 Q (F0 m 123 ls [.int v]) := by
                        intro v hv
                        subst hv
                        refine lv_istore_n (lv' := [(1, .int (za_bi (za_ex (za_cq Tg Co k) (i2 + 1)))), (0, .ref aO), (2, .int (nI i2))]) hx hb zd_M_findCovers_123 rfl hl (by decide) rfl (fun ls hl => ?_)
                        refine lv_iinc (k := 2) (v := nI (i2 + 1)) (lv' := [(2, .int (nI (i2 + 1))), (1, .int (za_bi (za_ex (za_cq Tg Co k) (i2 + 1)))), (0, .ref aO)]) hx hb zd_M_findCovers_124 hl rfl (za_inc _) (by decide) rfl (fun ls hl => ?_)
                        refine lv_goto hx hb (tgt := 57) zd_M_findCovers_127 (by decide) ?_
                        exact ih57 (i2 + 1) (za_ex (za_cq Tg Co k) (i2 + 1)) (za_ub Nc i2 (za_vc Tg Co (k + 1) i2)) ls H locs (by omega) (by omega) (by exact za_ubS hNx rfl) (by simp [za_ex, ← hm1, za_cq, h6, h50, h61]) (lv_sub hl [2, 1, 0] rfl) hP hD hS
                      refine lv_if_ne hx hb (tgt := 118) zd_M_findCovers_100 (by decide) (fun h100 => ?_) (fun h100 => ?_)
                      · have h100 := za_bT h100
                        refine lv_iconst (v := nI 1) hx hb zd_M_findCovers_118 (by decide) ?_
                        refine lv_goto hx hb (tgt := 123) zd_M_findCovers_119 (by decide) ?_
                        exact hJ123 _ (za_b1 (by first | (rw [za_ex, ← hm1, h100]; rfl) | (rw [za_ex, ← hm1, h100]; simp [za_cq, h115])))
                      · have h100 := za_bF h100
                        refine lv_aload_n hx hb zd_M_findCovers_103 rfl (lv_at hl 0 rfl) ?_
                        refine va_get (D := D) (ci := 5) (v := .ref aNx) (C := zs_M) (T := zt_M) (N := 12) hx hb hts zi_M hown hK hP 0 rfl rfl 6 (by decide) hf23 (fun _ h9 => h9) rfl zd_M_findCovers_104 ?_
                        refine lv_iload_n hx hb zd_M_findCovers_107 rfl (lv_at hl 2 rfl) ?_
                        refine za_zld hx hb hK hP 4 1 rfl rfl (k := i2) (by omega) (by decide) zd_M_findCovers_108 ?_
                        refine za_eqi (y := za_bi (za_vc Tg Co (k + 1) i2)) (by unfold za_ub; rw [if_pos rfl]) ?_
                        refine lv_aload_n hx hb zd_M_findCovers_109 rfl (lv_at hl 0 rfl) ?_
                        refine va_get (D := D) (ci := 5) (v := .ref aCd) (C := zs_M) (T := zt_M) (N := 12) hx hb hts zi_M hown hK hP 0 rfl rfl 5 (by decide) hf20 (fun _ h9 => h9) rfl zd_M_findCovers_110 ?_
                        refine lv_iload_n hx hb zd_M_findCovers_113 rfl (lv_at hl 2 rfl) ?_
                        refine za_zld hx hb hK hP 3 1 rfl rfl (k := i2) (by omega) (by decide) zd_M_findCovers_114 ?_
                        refine za_eqi (y := za_bi (za_vc Tg Co k i2)) (by rw [hC i2 (by omega)]) ?_
                        refine lv_icmp_eq hx hb (tgt := 122) zd_M_findCovers_115 (by decide) (fun h115 => ?_) (fun h115 => ?_)
                        · have h115 := za_binj h115
                          refine lv_iconst (v := nI 0) hx hb zd_M_findCovers_122 (by decide) ?_
                          exact hJ123 _ (za_b0 (by first | (rw [za_ex, ← hm1, h100]; rfl) | (rw [za_ex, ← hm1, h100]; simp [za_cq, h115])))
                        · have h115 := za_bne h115
                          refine lv_iconst (v := nI 1) hx hb zd_M_findCovers_118 (by decide) ?_
                          refine lv_goto hx hb (tgt := 123) zd_M_findCovers_119 (by decide) ?_
                          exact hJ123 _ (za_b1 (by first | (rw [za_ex, ← hm1, h100]; rfl) | (rw [za_ex, ← hm1, h100]; simp [za_cq, h115])))
                    refine lv_if_eq hx hb (tgt := 97) zd_M_findCovers_75 (by decide) (fun h75 => ?_) (fun h75 => ?_)
                    · have h75 := za_bF h75
                      refine lv_iconst (v := nI 0) hx hb zd_M_findCovers_97 (by decide) ?_
                      exact hJ98 _ (za_b0 (by rw [← za_vc_s hMv hC (show i2 < 576 by omega)]; simp [h6, h50, h61, h75]))
                    · have h75 := za_bT h75
                      refine lv_aload_n hx hb zd_M_findCovers_78 rfl (lv_at hl 0 rfl) ?_
                      refine lv_iload_n hx hb zd_M_findCovers_79 rfl (lv_at hl 2 rfl) ?_
                      refine lv_bipush (v := nI 24) hx hb zd_M_findCovers_80 (by decide) ?_
                      refine za_divN hx hb (by omega) (by decide) (by decide) zd_M_findCovers_82 ?_
                      refine lv_iload_n hx hb zd_M_findCovers_83 rfl (lv_at hl 2 rfl) ?_
                      refine lv_bipush (v := nI 24) hx hb zd_M_findCovers_84 (by decide) ?_
                      refine za_remN hx hb (by omega) (by decide) (by decide) zd_M_findCovers_86 ?_
                      refine za_cV (As := [.int (nI (i2 / 24)), .int (nI (i2 % 24))]) (rest := [.int (nI i2), .ref aNx]) ⟨hx, hb, hml, hown, hts⟩ (zc_M_matches ln D cI cZ aO aMv aMc aBr aCd aNx aMk aAt aAs mkc mpl mn kn Mv Cq (i2 / 24) (i2 % 24) (by omega) (by omega)) (za_gV 2 hts zw_535 zw_537 zw_25 zw_40 zw_538 (by decide +kernel) ⟨Nat.le_of_ble_eq_true rfl, Nat.le_of_ble_eq_true rfl⟩) hK hN hP [0, 1, 3] rfl (q0 := 0) rfl rfl hl rfl rfl (Nat.le_of_ble_eq_true rfl) zd_M_findCovers_87 ⟨Nat.le_of_ble_eq_true rfl, Nat.le_of_ble_eq_true rfl⟩ ?_
                      refine lv_if_eq hx hb (tgt := 97) zd_M_findCovers_90 (by decide) (fun h90 => ?_) (fun h90 => ?_)
                      · have h90 := za_bF h90
                        refine lv_iconst (v := nI 0) hx hb zd_M_findCovers_97 (by decide) ?_
                        exact hJ98 _ (za_b0 (by rw [← za_vc_s hMv hC (show i2 < 576 by omega)]; simp [h6, h50, h61, h75, h90]))
                      · have h90 := za_bT h90
                        refine lv_iconst (v := nI 1) hx hb zd_M_findCovers_93 (by decide) ?_
                        refine lv_goto hx hb (tgt := 98) zd_M_findCovers_94 (by decide) ?_
                        exact hJ98 _ (za_b1 (by rw [← za_vc_s hMv hC (show i2 < 576 by omega)]; simp [h6, h50, h61, h75, h90]))
              have e1 : za_bi false = nI 0 := by first | with_reducible rfl | (rfl)
              exact hC57 (576 - 0 + 1) 0 false Nq ls H locs (Nat.lt_succ_self _) (by omega) (by exact fun q hq => absurd hq (Nat.not_lt_zero _)) (by rfl) (by rw [e1]; exact lv_sub hl [2, 1, 0] rfl) hP hD hS
        have e1 : za_bi true = nI 1 := by first | with_reducible rfl | (rfl)
        exact hC49 (578 - 0 + 1) 0 true (za_fb (za_vc0 Mc) Cd i) Nx ls H locs (Nat.lt_succ_self _) (by omega) (by intro h; omega) (by exact za_vc_0 hMc (by omega)) (by intro h; cases h) (by rw [e1]; exact lv_sub hl [1, 0] rfl) hP hD hS
      · have h6 := za_nleN h6 (by omega) (by omega)
        refine lv_aload_n hx hb zd_M_findCovers_9 rfl (lv_at hl 0 rfl) ?_
        refine va_get (D := D) (ci := 5) (v := .ref aCd) (C := zs_M) (T := zt_M) (N := 12) hx hb hts zi_M hown hK hP 0 rfl rfl 5 (by decide) hf20 (fun _ h9 => h9) rfl zd_M_findCovers_10 ?_
        refine lv_iload_n hx hb zd_M_findCovers_13 rfl (lv_at hl 1 rfl) ?_
        refine lv_aload_n hx hb zd_M_findCovers_14 rfl (lv_at hl 0 rfl) ?_
        refine va_get (D := D) (ci := 5) (v := .ref aMc) (C := zs_M) (T := zt_M) (N := 12) hx hb hts zi_M hown hK hP 0 rfl rfl 2 (by decide) hf13 (fun _ h9 => h9) rfl zd_M_findCovers_15 ?_
        refine lv_iload_n hx hb zd_M_findCovers_18 rfl (lv_at hl 1 rfl) ?_
        refine lv_bipush (v := nI 24) hx hb zd_M_findCovers_19 (by decide) ?_
        refine za_divN hx hb (by omega) (by decide) (by decide) zd_M_findCovers_21 ?_
        refine za_ild hx hb hK hP 2 0 rfl rfl (k := i / 24) (by omega) (by decide) zd_M_findCovers_22 ?_
        refine lv_aload_n hx hb zd_M_findCovers_23 rfl (lv_at hl 0 rfl) ?_
        refine va_get (D := D) (ci := 5) (v := .ref aMc) (C := zs_M) (T := zt_M) (N := 12) hx hb hts zi_M hown hK hP 0 rfl rfl 2 (by decide) hf13 (fun _ h9 => h9) rfl zd_M_findCovers_24 ?_
        refine lv_iload_n hx hb zd_M_findCovers_27 rfl (lv_at hl 1 rfl) ?_
        refine lv_bipush (v := nI 24) hx hb zd_M_findCovers_28 (by decide) ?_
        refine za_remN hx hb (by omega) (by decide) (by decide) zd_M_findCovers_30 ?_
        refine za_ild hx hb hK hP 2 0 rfl rfl (k := i % 24) (by omega) (by decide) zd_M_findCovers_31 ?_
        have hJ40 : ∀ v : Int32, v = za_bi (za_vc0 Mc i) → W p ln e zr_M_findCovers sg m args below meth c H locs 0 0 Q (F0 m 40 ls [.int v, .int (nI i), .ref aCd]) := by
          intro v hv
          subst hv
          refine za_zst hx hb hK hP hD hS 3 1 rfl rfl (k := i) (b := za_vc0 Mc i) (by omega) (by decide) zd_M_findCovers_40 (fun H locs hP hD hS => ?_)
          have hP : va_P D vwCl [(aO, .inr (5, [.ref aMv, .int mn, .ref aMc, .int (za_bi kn), .ref aBr, .ref aCd, .ref aNx, .int (nI mkc), .ref aMk, .int (nI mpl), .ref aAt, .ref aAs])), (aMv, .inl (cZ, 2304, .inl (fun j => za_bi (Mv j)))), (aMc, .inl (cI, 24, .inl Mc)), (aCd, .inl (cZ, 576, .inl (fun j => za_bi (za_ub (za_fb (za_vc0 Mc) Cd i) i (za_vc0 Mc i) j)))), (aNx, .inl (cZ, 576, .inl (fun j => za_bi (Nx j))))] H := hP
          have hD : va_D A [(aO, .inr (5, [.ref aMv, .int mn, .ref aMc, .int (za_bi kn), .ref aBr, .ref aCd, .ref aNx, .int (nI mkc), .ref aMk, .int (nI mpl), .ref aAt, .ref aAs])), (aMv, .inl (cZ, 2304, .inl (fun j => za_bi (Mv j)))), (aMc, .inl (cI, 24, .inl Mc)), (aCd, .inl (cZ, 576, .inl (fun j => za_bi (za_ub (za_fb (za_vc0 Mc) Cd i) i (za_vc0 Mc i) j)))), (aNx, .inl (cZ, 576, .inl (fun j => za_bi (Nx j))))] := hD
          refine lv_iinc (k := 1) (v := nI (i + 1)) (lv' := [(1, .int (nI (i + 1))), (0, .ref aO)]) hx hb zd_M_findCovers_41 hl rfl (za_inc _) (by decide) rfl (fun ls hl => ?_)
          refine lv_goto hx hb (tgt := 2) zd_M_findCovers_44 (by decide) ?_
          have e1 : (za_fb (za_vc0 Mc) Cd (i + 1)) = za_ub (za_fb (za_vc0 Mc) Cd i) i (za_vc0 Mc i) := by first | with_reducible rfl | (exact za_fbU rfl)
          exact ih2 (i + 1) ls H locs (by omega) (by omega) (lv_sub hl [1, 0] rfl) (by rw [e1]; exact hP) (by rw [e1]; exact hD) hS
        refine lv_icmp_ne hx hb (tgt := 39) zd_M_findCovers_32 (by decide) (fun h32 => ?_) (fun h32 => ?_)
        · skip
          refine lv_iconst (v := nI 0) hx hb zd_M_findCovers_39 (by decide) ?_
          exact hJ40 _ (za_b0 (by simp [za_vc0, h32]))
        · skip
          refine lv_iconst (v := nI 1) hx hb zd_M_findCovers_35 (by decide) ?_
          refine lv_goto hx hb (tgt := 40) zd_M_findCovers_36 (by decide) ?_
          exact hJ40 _ (za_b1 (by simp [za_vc0, h32]))
  have e1 : (za_fb (za_vc0 Mc) Cd 0) = Cd := by first | with_reducible rfl | (exact za_fb0 _ _)
  exact hC2 (576 - 0 + 1) 0 ls H0 [] (Nat.lt_succ_self _) (by omega) (lv_sub hl [1, 0] rfl) (by rw [e1]; exact hP) (by rw [e1]; exact hD) hS
def zr_M_findKinds : Room := { frames := 1, cells := 0, slots := 0, locals := 22 }
set_option maxHeartbeats 4000000 in
set_option maxRecDepth 100000 in
theorem zc_M_findKinds (ln : Launch) (D : va_G) (cI cZ : ClassId) (sz : Nat) (aO : Nat) (aMv : Nat) (aMc : Nat) (aBr : Nat) (aCd : Nat) (aNx : Nat) (aMk : Nat) (aAt : Nat) (aAs : Nat) (mkc : Nat) (mpl : Nat) (mn : Int32) (kn : Bool) (Br : Nat → Int32) (Mk : Nat → Int32) (Tg : Nat → Int32) (Co : Nat → Int32) (hBr : za_brs Tg Co Br) : Met ln zm_M_findKinds (Cond.code zm_M_findKinds zo_M_findKinds 3 none :: zb_big) zr_M_findKinds (za_Pw D vwCl [(cI, .int), (cZ, .boolean)] [.ref aO] [(aO, .inr (5, [.ref aMv, .int mn, .ref aMc, .int (za_bi kn), .ref aBr, .ref aCd, .ref aNx, .int (nI mkc), .ref aMk, .int (nI mpl), .ref aAt, .ref aAs])), (aBr, .inl (cI, 576, .inl Br)), (aMk, .inl (cI, 24, .inl Mk))] sz) (va_Qv (fun (Mk1 : (Nat → Int32)) => (∀ x, x < 24 → Mk1 x = za_kd Tg Co x)) (za_B D vwCl [(aO, .inr (5, [.ref aMv, .int mn, .ref aMc, .int (za_bi kn), .ref aBr, .ref aCd, .ref aNx, .int (nI mkc), .ref aMk, .int (nI mpl), .ref aAt, .ref aAs])), (aBr, .inl (cI, 576, .inl Br)), (aMk, .inl (cI, 24, .inl Mk))] sz (fun (Mk1 : (Nat → Int32)) => [(aO, .inr (5, [.ref aMv, .int mn, .ref aMc, .int (za_bi kn), .ref aBr, .ref aCd, .ref aNx, .int (nI (za_kc Tg Co)), .ref aMk, .int (nI mpl), .ref aAt, .ref aAs])), (aBr, .inl (cI, 576, .inl Br)), (aMk, .inl (cI, 24, .inl Mk1))])) (va_A [(aO, .inr (5, [.ref aMv, .int mn, .ref aMc, .int (za_bi kn), .ref aBr, .ref aCd, .ref aNx, .int (nI mkc), .ref aMk, .int (nI mpl), .ref aAt, .ref aAs])), (aBr, .inl (cI, 576, .inl Br)), (aMk, .inl (cI, 24, .inl Mk))] sz)) 0 0 (va_A [(aO, .inr (5, [.ref aMv, .int mn, .ref aMc, .int (za_bi kn), .ref aBr, .ref aCd, .ref aNx, .int (nI mkc), .ref aMk, .int (nI mpl), .ref aAt, .ref aAs])), (aBr, .inl (cI, 576, .inl Br)), (aMk, .inl (cI, 24, .inl Mk))] sz) := by
  refine za_wv (cc := zo_M_findKinds) (maxL := 3) (by decide) (Nat.le_of_ble_eq_true rfl) ?_
  intro p e sg m args below meth c H0 A Q hx hb hml hts hown hmn hP hK hN hD hA hS hret ls hl
  have hP : va_P D vwCl [(aO, .inr (5, [.ref aMv, .int mn, .ref aMc, .int (za_bi kn), .ref aBr, .ref aCd, .ref aNx, .int (nI mkc), .ref aMk, .int (nI mpl), .ref aAt, .ref aAs])), (aBr, .inl (cI, 576, .inl Br)), (aMk, .inl (cI, 24, .inl Mk))] H0 := hP
  have hD : va_D A [(aO, .inr (5, [.ref aMv, .int mn, .ref aMc, .int (za_bi kn), .ref aBr, .ref aCd, .ref aNx, .int (nI mkc), .ref aMk, .int (nI mpl), .ref aAt, .ref aAs])), (aBr, .inl (cI, 576, .inl Br)), (aMk, .inl (cI, 24, .inl Mk))] := hD
  have hl : lv_has ls 3 [(0, .ref aO)] := hl
  have hf64 := hts _ zw_450
  have hf26 := hts _ zw_451
  refine lv_aload_n hx hb zd_M_findKinds_0 rfl (lv_at hl 0 rfl) ?_
  refine lv_iconst (v := nI 0) hx hb zd_M_findKinds_1 (by decide) ?_
  refine va_put (D := D) (ci := 5) (v := .int (nI 0)) (ty := .int) (C := zs_M) (T := zt_M) (N := 12) hx hb hts zi_M zy_M zk_M zn_M hown hK hP hD hS 0 rfl rfl 7 (by decide) hf64 (fun _ h9 => h9) rfl (by decide +kernel) rfl rfl (Nat.le_of_ble_eq_true rfl) zd_M_findKinds_2 (fun H locs hP hD hS => ?_)
  have hP : va_P D vwCl [(aO, .inr (5, [.ref aMv, .int mn, .ref aMc, .int (za_bi kn), .ref aBr, .ref aCd, .ref aNx, .int (nI 0), .ref aMk, .int (nI mpl), .ref aAt, .ref aAs])), (aBr, .inl (cI, 576, .inl Br)), (aMk, .inl (cI, 24, .inl Mk))] H := hP
  have hD : va_D A [(aO, .inr (5, [.ref aMv, .int mn, .ref aMc, .int (za_bi kn), .ref aBr, .ref aCd, .ref aNx, .int (nI 0), .ref aMk, .int (nI mpl), .ref aAt, .ref aAs])), (aBr, .inl (cI, 576, .inl Br)), (aMk, .inl (cI, 24, .inl Mk))] := hD
  refine lv_iconst (v := nI 0) hx hb zd_M_findKinds_5 (by decide) ?_
  refine lv_istore_n (lv' := [(1, .int (nI 0)), (0, .ref aO)]) hx hb zd_M_findKinds_6 rfl hl (by decide) rfl (fun ls hl => ?_)
  have hC7 : ∀ (n7 : Nat) (s : Nat) (Kq : Nat → Int32) (ls : Array Slot) (H : Heap) (locs : List Loc), 24 - s < n7 → s ≤ 24 → (∀ x, x < s → Kq x = za_kd Tg Co x) → lv_has ls 3 [(0, .ref aO), (1, .int (nI s))] → va_P D vwCl [(aO, .inr (5, [.ref aMv, .int mn, .ref aMc, .int (za_bi kn), .ref aBr, .ref aCd, .ref aNx, .int (nI ((za_nk (za_lc Tg Co) (fun _ => nI 0) s).2)), .ref aMk, .int (nI mpl), .ref aAt, .ref aAs])), (aBr, .inl (cI, 576, .inl Br)), (aMk, .inl (cI, 24, .inl Kq))] H → va_D A [(aO, .inr (5, [.ref aMv, .int mn, .ref aMc, .int (za_bi kn), .ref aBr, .ref aCd, .ref aNx, .int (nI ((za_nk (za_lc Tg Co) (fun _ => nI 0) s).2)), .ref aMk, .int (nI mpl), .ref aAt, .ref aAs])), (aBr, .inl (cI, 576, .inl Br)), (aMk, .inl (cI, 24, .inl Kq))] → va_S A H0 H locs → W p ln e zr_M_findKinds sg m args below meth c H locs 0 0 Q (F0 m 7 ls []) := by
    intro n7
    induction n7 with
    | zero => intro s Kq ls H locs hn7 hs hq hl hP hD hS; exact absurd hn7 (Nat.not_lt_zero _)
    | succ n7 ih7 =>
      intro s Kq ls H locs hn7 hs hq hl hP hD hS
      refine lv_iload_n hx hb zd_M_findKinds_7 rfl (lv_at hl 1 rfl) ?_
      refine lv_bipush (v := nI 24) hx hb zd_M_findKinds_8 (by decide) ?_
      refine lv_icmp_ge hx hb (tgt := 98) zd_M_findKinds_10 (by decide) (fun h10 => ?_) (fun h10 => ?_)
      · have h10 := za_leN h10 (by omega) (by omega)
        have e1 : nI (za_kc Tg Co) = nI ((za_nk (za_lc Tg Co) (fun _ => nI 0) s).2) := by first | with_reducible rfl | (rw [show s = 24 by omega]; rfl)
        have hP9 : va_P D vwCl [(aO, .inr (5, [.ref aMv, .int mn, .ref aMc, .int (za_bi kn), .ref aBr, .ref aCd, .ref aNx, .int (nI (za_kc Tg Co)), .ref aMk, .int (nI mpl), .ref aAt, .ref aAs])), (aBr, .inl (cI, 576, .inl Br)), (aMk, .inl (cI, 24, .inl Kq))] H := by rw [e1]; exact hP
        have hD9 : va_D A [(aO, .inr (5, [.ref aMv, .int mn, .ref aMc, .int (za_bi kn), .ref aBr, .ref aCd, .ref aNx, .int (nI (za_kc Tg Co)), .ref aMk, .int (nI mpl), .ref aAt, .ref aAs])), (aBr, .inl (cI, 576, .inl Br)), (aMk, .inl (cI, 24, .inl Kq))] := by rw [e1]; exact hD
        have hQ9 : (∀ x, x < 24 → Kq x = za_kd Tg Co x) := by exact fun x hx => hq x (by omega)
        exact hret Kq _ _ _ _ (hQ9) hP9 hD9 hS zd_M_findKinds_98
      · have h10 := za_nleN h10 (by omega) (by omega)
        refine lv_aload_n hx hb zd_M_findKinds_13 rfl (lv_at hl 0 rfl) ?_
        refine va_get (D := D) (ci := 5) (v := .ref aMk) (C := zs_M) (T := zt_M) (N := 12) hx hb hts zi_M hown hK hP 0 rfl rfl 8 (by decide) hf26 (fun _ h9 => h9) rfl zd_M_findKinds_14 ?_
        refine lv_iload_n hx hb zd_M_findKinds_17 rfl (lv_at hl 1 rfl) ?_
        refine lv_iconst (v := (-1)) hx hb zd_M_findKinds_18 (by decide) ?_
        refine za_ist hx hb hK hP hD hS 2 0 rfl rfl (k := s) (by omega) (by decide) zd_M_findKinds_19 (fun H locs hP hD hS => ?_)
        have hP : va_P D vwCl [(aO, .inr (5, [.ref aMv, .int mn, .ref aMc, .int (za_bi kn), .ref aBr, .ref aCd, .ref aNx, .int (nI ((za_nk (za_lc Tg Co) (fun _ => nI 0) s).2)), .ref aMk, .int (nI mpl), .ref aAt, .ref aAs])), (aBr, .inl (cI, 576, .inl Br)), (aMk, .inl (cI, 24, .inl (upd Kq s (-1))))] H := hP
        have hD : va_D A [(aO, .inr (5, [.ref aMv, .int mn, .ref aMc, .int (za_bi kn), .ref aBr, .ref aCd, .ref aNx, .int (nI ((za_nk (za_lc Tg Co) (fun _ => nI 0) s).2)), .ref aMk, .int (nI mpl), .ref aAt, .ref aAs])), (aBr, .inl (cI, 576, .inl Br)), (aMk, .inl (cI, 24, .inl (upd Kq s (-1))))] := hD
        refine lv_iconst (v := nI 0) hx hb zd_M_findKinds_20 (by decide) ?_
        refine lv_istore_n (lv' := [(2, .int (nI 0)), (0, .ref aO), (1, .int (nI s))]) hx hb zd_M_findKinds_21 rfl hl (by decide) rfl (fun ls hl => ?_)
        have hC22 : ∀ (n22 : Nat) (t : Nat) (Kt : Nat → Int32) (ls : Array Slot) (H : Heap) (locs : List Loc), s - t < n22 → t ≤ s → (∀ x, x < s → Kt x = za_kd Tg Co x) → Kt s = za_mkv Tg Co s t → lv_has ls 3 [(0, .ref aO), (1, .int (nI s)), (2, .int (nI t))] → va_P D vwCl [(aO, .inr (5, [.ref aMv, .int mn, .ref aMc, .int (za_bi kn), .ref aBr, .ref aCd, .ref aNx, .int (nI ((za_nk (za_lc Tg Co) (fun _ => nI 0) s).2)), .ref aMk, .int (nI mpl), .ref aAt, .ref aAs])), (aBr, .inl (cI, 576, .inl Br)), (aMk, .inl (cI, 24, .inl Kt))] H → va_D A [(aO, .inr (5, [.ref aMv, .int mn, .ref aMc, .int (za_bi kn), .ref aBr, .ref aCd, .ref aNx, .int (nI ((za_nk (za_lc Tg Co) (fun _ => nI 0) s).2)), .ref aMk, .int (nI mpl), .ref aAt, .ref aAs])), (aBr, .inl (cI, 576, .inl Br)), (aMk, .inl (cI, 24, .inl Kt))] → va_S A H0 H locs → W p ln e zr_M_findKinds sg m args below meth c H locs 0 0 Q (F0 m 22 ls []) := by
          intro n22
          induction n22 with
          | zero => intro t Kt ls H locs hn22 ht hq1 hq2 hl hP hD hS; exact absurd hn22 (Nat.not_lt_zero _)
          | succ n22 ih22 =>
            intro t Kt ls H locs hn22 ht hq1 hq2 hl hP hD hS
            refine lv_iload_n hx hb zd_M_findKinds_22 rfl (lv_at hl 2 rfl) ?_
            refine lv_iload_n hx hb zd_M_findKinds_23 rfl (lv_at hl 1 rfl) ?_
            refine lv_icmp_ge hx hb (tgt := 63) zd_M_findKinds_24 (by decide) (fun h24 => ?_) (fun h24 => ?_)
            · have h24 := za_leN h24 (by omega) (by omega)
              refine lv_aload_n hx hb zd_M_findKinds_63 rfl (lv_at hl 0 rfl) ?_
              refine va_get (D := D) (ci := 5) (v := .ref aMk) (C := zs_M) (T := zt_M) (N := 12) hx hb hts zi_M hown hK hP 0 rfl rfl 8 (by decide) hf26 (fun _ h9 => h9) rfl zd_M_findKinds_64 ?_
              refine lv_iload_n hx hb zd_M_findKinds_67 rfl (lv_at hl 1 rfl) ?_
              refine za_ild hx hb hK hP 2 0 rfl rfl (k := s) (by omega) (by decide) zd_M_findKinds_68 ?_
              refine za_eqi (y := za_mkv Tg Co s s) (by rw [hq2, show t = s by omega]) ?_
              refine lv_if_ge hx hb (tgt := 92) zd_M_findKinds_69 (by decide) (fun h69 => ?_) (fun h69 => ?_)
              · skip
                have hlc2 := za_mkv_old (show s < 24 by omega) (Int32.not_lt.mpr h69)
                have hlc := hlc2.1
                have hqn : ∀ x, x < s + 1 → Kt x = za_kd Tg Co x := by
                  intro x hx
                  by_cases e9 : x = s
                  · rw [e9, hq2, show t = s by omega]; exact hlc2.2
                  · exact hq1 x (by omega)
                refine lv_iinc (k := 1) (v := nI (s + 1)) (lv' := [(1, .int (nI (s + 1))), (0, .ref aO), (2, .int (nI t))]) hx hb zd_M_findKinds_92 hl rfl (za_inc _) (by decide) rfl (fun ls hl => ?_)
                refine lv_goto hx hb (tgt := 7) zd_M_findKinds_95 (by decide) ?_
                have e1 : nI ((za_nk (za_lc Tg Co) (fun _ => nI 0) (s + 1)).2) = nI ((za_nk (za_lc Tg Co) (fun _ => nI 0) s).2) := by first | with_reducible rfl | (first | rw [za_nk_t hlc] | rw [za_nk_f (Nat.ne_of_lt hlc)])
                exact ih7 (s + 1) Kt ls H locs (by omega) (by omega) (by exact hqn) (lv_sub hl [1, 0] rfl) (by rw [e1]; exact hP) (by rw [e1]; exact hD) hS
              · skip
                have hlc := za_mkv_new (show s < 24 by omega) (Int32.not_le.mp h69)
                have hqn : ∀ x, x < s + 1 → upd Kt s (nI (za_nk (za_lc Tg Co) (fun _ => nI 0) s).2) x = za_kd Tg Co x := by
                  intro x hx
                  unfold upd
                  by_cases e9 : x = s
                  · rw [if_pos e9, e9]; exact (za_kd_new (by omega) hlc).symm
                  · rw [if_neg e9]; exact hq1 x (by omega)
                refine lv_aload_n hx hb zd_M_findKinds_72 rfl (lv_at hl 0 rfl) ?_
                refine va_get (D := D) (ci := 5) (v := .ref aMk) (C := zs_M) (T := zt_M) (N := 12) hx hb hts zi_M hown hK hP 0 rfl rfl 8 (by decide) hf26 (fun _ h9 => h9) rfl zd_M_findKinds_73 ?_
                refine lv_iload_n hx hb zd_M_findKinds_76 rfl (lv_at hl 1 rfl) ?_
                refine lv_aload_n hx hb zd_M_findKinds_77 rfl (lv_at hl 0 rfl) ?_
                refine va_get (D := D) (ci := 5) (v := .int (nI ((za_nk (za_lc Tg Co) (fun _ => nI 0) s).2))) (C := zs_M) (T := zt_M) (N := 12) hx hb hts zi_M hown hK hP 0 rfl rfl 7 (by decide) hf64 (fun _ h9 => h9) rfl zd_M_findKinds_78 ?_
                refine za_ist hx hb hK hP hD hS 2 0 rfl rfl (k := s) (by omega) (by decide) zd_M_findKinds_81 (fun H locs hP hD hS => ?_)
                have hP : va_P D vwCl [(aO, .inr (5, [.ref aMv, .int mn, .ref aMc, .int (za_bi kn), .ref aBr, .ref aCd, .ref aNx, .int (nI ((za_nk (za_lc Tg Co) (fun _ => nI 0) s).2)), .ref aMk, .int (nI mpl), .ref aAt, .ref aAs])), (aBr, .inl (cI, 576, .inl Br)), (aMk, .inl (cI, 24, .inl (upd Kt s (nI ((za_nk (za_lc Tg Co) (fun _ => nI 0) s).2)))))] H := hP
                have hD : va_D A [(aO, .inr (5, [.ref aMv, .int mn, .ref aMc, .int (za_bi kn), .ref aBr, .ref aCd, .ref aNx, .int (nI ((za_nk (za_lc Tg Co) (fun _ => nI 0) s).2)), .ref aMk, .int (nI mpl), .ref aAt, .ref aAs])), (aBr, .inl (cI, 576, .inl Br)), (aMk, .inl (cI, 24, .inl (upd Kt s (nI ((za_nk (za_lc Tg Co) (fun _ => nI 0) s).2)))))] := hD
                refine lv_aload_n hx hb zd_M_findKinds_82 rfl (lv_at hl 0 rfl) ?_
                refine lv_aload_n hx hb zd_M_findKinds_83 rfl (lv_at hl 0 rfl) ?_
                refine va_get (D := D) (ci := 5) (v := .int (nI ((za_nk (za_lc Tg Co) (fun _ => nI 0) s).2))) (C := zs_M) (T := zt_M) (N := 12) hx hb hts zi_M hown hK hP 0 rfl rfl 7 (by decide) hf64 (fun _ h9 => h9) rfl zd_M_findKinds_84 ?_
                refine lv_iconst (v := nI 1) hx hb zd_M_findKinds_87 (by decide) ?_
                refine za_addN hx hb zd_M_findKinds_88 ?_
                refine va_put (D := D) (ci := 5) (v := .int (nI (((za_nk (za_lc Tg Co) (fun _ => nI 0) s).2) + 1))) (ty := .int) (C := zs_M) (T := zt_M) (N := 12) hx hb hts zi_M zy_M zk_M zn_M hown hK hP hD hS 0 rfl rfl 7 (by decide) hf64 (fun _ h9 => h9) rfl (by decide +kernel) rfl rfl (Nat.le_of_ble_eq_true rfl) zd_M_findKinds_89 (fun H locs hP hD hS => ?_)
                have hP : va_P D vwCl [(aO, .inr (5, [.ref aMv, .int mn, .ref aMc, .int (za_bi kn), .ref aBr, .ref aCd, .ref aNx, .int (nI (((za_nk (za_lc Tg Co) (fun _ => nI 0) s).2) + 1)), .ref aMk, .int (nI mpl), .ref aAt, .ref aAs])), (aBr, .inl (cI, 576, .inl Br)), (aMk, .inl (cI, 24, .inl (upd Kt s (nI ((za_nk (za_lc Tg Co) (fun _ => nI 0) s).2)))))] H := hP
                have hD : va_D A [(aO, .inr (5, [.ref aMv, .int mn, .ref aMc, .int (za_bi kn), .ref aBr, .ref aCd, .ref aNx, .int (nI (((za_nk (za_lc Tg Co) (fun _ => nI 0) s).2) + 1)), .ref aMk, .int (nI mpl), .ref aAt, .ref aAs])), (aBr, .inl (cI, 576, .inl Br)), (aMk, .inl (cI, 24, .inl (upd Kt s (nI ((za_nk (za_lc Tg Co) (fun _ => nI 0) s).2)))))] := hD
                refine lv_iinc (k := 1) (v := nI (s + 1)) (lv' := [(1, .int (nI (s + 1))), (0, .ref aO), (2, .int (nI t))]) hx hb zd_M_findKinds_92 hl rfl (za_inc _) (by decide) rfl (fun ls hl => ?_)
                refine lv_goto hx hb (tgt := 7) zd_M_findKinds_95 (by decide) ?_
                have e1 : nI ((za_nk (za_lc Tg Co) (fun _ => nI 0) (s + 1)).2) = nI (((za_nk (za_lc Tg Co) (fun _ => nI 0) s).2) + 1) := by first | with_reducible rfl | (first | rw [za_nk_t hlc] | rw [za_nk_f (Nat.ne_of_lt hlc)])
                exact ih7 (s + 1) (upd Kt s (nI ((za_nk (za_lc Tg Co) (fun _ => nI 0) s).2))) ls H locs (by omega) (by omega) (by exact hqn) (lv_sub hl [1, 0] rfl) (by rw [e1]; exact hP) (by rw [e1]; exact hD) hS
            · have h24 := za_nleN h24 (by omega) (by omega)
              refine lv_aload_n hx hb zd_M_findKinds_27 rfl (lv_at hl 0 rfl) ?_
              refine va_get (D := D) (ci := 5) (v := .ref aMk) (C := zs_M) (T := zt_M) (N := 12) hx hb hts zi_M hown hK hP 0 rfl rfl 8 (by decide) hf26 (fun _ h9 => h9) rfl zd_M_findKinds_28 ?_
              refine lv_iload_n hx hb zd_M_findKinds_31 rfl (lv_at hl 1 rfl) ?_
              refine lv_aload_n hx hb zd_M_findKinds_32 rfl (lv_at hl 0 rfl) ?_
              refine lv_iload_n hx hb zd_M_findKinds_33 rfl (lv_at hl 1 rfl) ?_
              refine lv_iload_n hx hb zd_M_findKinds_34 rfl (lv_at hl 2 rfl) ?_
              refine za_cV (As := [.int (nI s), .int (nI t)]) (rest := [.int (nI s), .ref aMk]) ⟨hx, hb, hml, hown, hts⟩ (zc_M_areAlike ln D cI cZ aO aMv aMc aBr aCd aNx aMk aAt aAs ((za_nk (za_lc Tg Co) (fun _ => nI 0) s).2) mpl mn kn Br s t (by omega) (by omega)) (za_gV 2 hts zw_543 zw_545 zw_27 zw_40 zw_546 (by decide +kernel) ⟨Nat.le_of_ble_eq_true rfl, Nat.le_of_ble_eq_true rfl⟩) hK hN hP [0, 1] rfl (q0 := 0) rfl rfl hl rfl rfl (Nat.le_of_ble_eq_true rfl) zd_M_findKinds_35 ⟨Nat.le_of_ble_eq_true rfl, Nat.le_of_ble_eq_true rfl⟩ ?_
              refine za_eqi (y := za_bi (za_ak Tg Co 23 s t)) (by rw [za_brs_al hBr (by omega) (by omega)]) ?_
              refine lv_if_eq hx hb (tgt := 50) zd_M_findKinds_38 (by decide) (fun h38 => ?_) (fun h38 => ?_)
              · have h38 := za_bF h38
                refine lv_aload_n hx hb zd_M_findKinds_50 rfl (lv_at hl 0 rfl) ?_
                refine va_get (D := D) (ci := 5) (v := .ref aMk) (C := zs_M) (T := zt_M) (N := 12) hx hb hts zi_M hown hK hP 0 rfl rfl 8 (by decide) hf26 (fun _ h9 => h9) rfl zd_M_findKinds_51 ?_
                refine lv_iload_n hx hb zd_M_findKinds_54 rfl (lv_at hl 1 rfl) ?_
                refine za_ild hx hb hK hP 2 0 rfl rfl (k := s) (by omega) (by decide) zd_M_findKinds_55 ?_
                refine za_ist hx hb hK hP hD hS 2 0 rfl rfl (k := s) (by omega) (by decide) zd_M_findKinds_56 (fun H locs hP hD hS => ?_)
                have hP : va_P D vwCl [(aO, .inr (5, [.ref aMv, .int mn, .ref aMc, .int (za_bi kn), .ref aBr, .ref aCd, .ref aNx, .int (nI ((za_nk (za_lc Tg Co) (fun _ => nI 0) s).2)), .ref aMk, .int (nI mpl), .ref aAt, .ref aAs])), (aBr, .inl (cI, 576, .inl Br)), (aMk, .inl (cI, 24, .inl (upd Kt s (Kt s))))] H := hP
                have hD : va_D A [(aO, .inr (5, [.ref aMv, .int mn, .ref aMc, .int (za_bi kn), .ref aBr, .ref aCd, .ref aNx, .int (nI ((za_nk (za_lc Tg Co) (fun _ => nI 0) s).2)), .ref aMk, .int (nI mpl), .ref aAt, .ref aAs])), (aBr, .inl (cI, 576, .inl Br)), (aMk, .inl (cI, 24, .inl (upd Kt s (Kt s))))] := hD
                refine lv_iinc (k := 2) (v := nI (t + 1)) (lv' := [(2, .int (nI (t + 1))), (0, .ref aO), (1, .int (nI s))]) hx hb zd_M_findKinds_57 hl rfl (za_inc _) (by decide) rfl (fun ls hl => ?_)
                refine lv_goto hx hb (tgt := 22) zd_M_findKinds_60 (by decide) ?_
                exact ih22 (t + 1) (upd Kt s (Kt s)) ls H locs (by omega) (by omega) (by exact fun x hx => by unfold upd; rw [if_neg (by omega)]; exact hq1 x hx) (by unfold upd; rw [if_pos rfl]; first | exact (hq1 t (by omega)).trans (za_mkv_t (by omega) (by omega) h38) | exact hq2.trans (za_mkv_f h38)) (lv_sub hl [1, 2, 0] rfl) hP hD hS
              · have h38 := za_bT h38
                refine lv_aload_n hx hb zd_M_findKinds_41 rfl (lv_at hl 0 rfl) ?_
                refine va_get (D := D) (ci := 5) (v := .ref aMk) (C := zs_M) (T := zt_M) (N := 12) hx hb hts zi_M hown hK hP 0 rfl rfl 8 (by decide) hf26 (fun _ h9 => h9) rfl zd_M_findKinds_42 ?_
                refine lv_iload_n hx hb zd_M_findKinds_45 rfl (lv_at hl 2 rfl) ?_
                refine za_ild hx hb hK hP 2 0 rfl rfl (k := t) (by omega) (by decide) zd_M_findKinds_46 ?_
                refine lv_goto hx hb (tgt := 56) zd_M_findKinds_47 (by decide) ?_
                refine za_ist hx hb hK hP hD hS 2 0 rfl rfl (k := s) (by omega) (by decide) zd_M_findKinds_56 (fun H locs hP hD hS => ?_)
                have hP : va_P D vwCl [(aO, .inr (5, [.ref aMv, .int mn, .ref aMc, .int (za_bi kn), .ref aBr, .ref aCd, .ref aNx, .int (nI ((za_nk (za_lc Tg Co) (fun _ => nI 0) s).2)), .ref aMk, .int (nI mpl), .ref aAt, .ref aAs])), (aBr, .inl (cI, 576, .inl Br)), (aMk, .inl (cI, 24, .inl (upd Kt s (Kt t))))] H := hP
                have hD : va_D A [(aO, .inr (5, [.ref aMv, .int mn, .ref aMc, .int (za_bi kn), .ref aBr, .ref aCd, .ref aNx, .int (nI ((za_nk (za_lc Tg Co) (fun _ => nI 0) s).2)), .ref aMk, .int (nI mpl), .ref aAt, .ref aAs])), (aBr, .inl (cI, 576, .inl Br)), (aMk, .inl (cI, 24, .inl (upd Kt s (Kt t))))] := hD
                refine lv_iinc (k := 2) (v := nI (t + 1)) (lv' := [(2, .int (nI (t + 1))), (0, .ref aO), (1, .int (nI s))]) hx hb zd_M_findKinds_57 hl rfl (za_inc _) (by decide) rfl (fun ls hl => ?_)
                refine lv_goto hx hb (tgt := 22) zd_M_findKinds_60 (by decide) ?_
                exact ih22 (t + 1) (upd Kt s (Kt t)) ls H locs (by omega) (by omega) (by exact fun x hx => by unfold upd; rw [if_neg (by omega)]; exact hq1 x hx) (by unfold upd; rw [if_pos rfl]; first | exact (hq1 t (by omega)).trans (za_mkv_t (by omega) (by omega) h38) | exact hq2.trans (za_mkv_f h38)) (lv_sub hl [1, 2, 0] rfl) hP hD hS
        exact hC22 (s - 0 + 1) 0 (upd Kq s (-1)) ls H locs (Nat.lt_succ_self _) (by omega) (by exact fun x hx => by unfold upd; rw [if_neg (by omega)]; exact hq x hx) (by unfold upd; rw [if_pos rfl]; rfl) (lv_sub hl [1, 2, 0] rfl) hP hD hS
  have e1 : nI ((za_nk (za_lc Tg Co) (fun _ => nI 0) 0).2) = nI 0 := by first | with_reducible rfl | (rw [za_nk0])
  exact hC7 (24 - 0 + 1) 0 Mk ls H locs (Nat.lt_succ_self _) (by omega) (by exact fun x hx => absurd hx (Nat.not_lt_zero _)) (lv_sub hl [1, 0] rfl) (by rw [e1]; exact hP) (by rw [e1]; exact hD) hS
def zr_M_look : Room := { frames := 4, cells := 0, slots := 0, locals := 98 }
set_option maxHeartbeats 4000000 in
set_option maxRecDepth 100000 in
theorem zc_M_look (ln : Launch) (D : va_G) (cI cZ : ClassId) (sz : Nat) (aO : Nat) (aMv : Nat) (aMc : Nat) (aBr : Nat) (aCd : Nat) (aNx : Nat) (aMk : Nat) (aAt : Nat) (aAs : Nat) (mkc : Nat) (mpl : Nat) (mn : Int32) (kn : Bool) (Mv : Nat → Bool) (Mc : Nat → Int32) (Br : Nat → Int32) (Cd : Nat → Bool) (Nx : Nat → Bool) (Mk : Nat → Int32) (Tg : Nat → Int32) (Co : Nat → Int32) (hMv : za_rel Tg Mv) (hMc : (∀ s, s < 24 → Mc s = Co s)) (hkn : kn = true → (za_brs Tg Co Br ∧ za_cds Tg Co Cd ∧ (∀ x, x < 24 → Mk x = za_kd Tg Co x) ∧ mkc = za_kc Tg Co)) : Met ln zm_M_look (Cond.code zm_M_look zo_M_look 1 none :: zb_big) zr_M_look (za_Pw D vwCl [(cI, .int), (cZ, .boolean)] [.ref aO] [(aO, .inr (5, [.ref aMv, .int mn, .ref aMc, .int (za_bi kn), .ref aBr, .ref aCd, .ref aNx, .int (nI mkc), .ref aMk, .int (nI mpl), .ref aAt, .ref aAs])), (aMv, .inl (cZ, 2304, .inl (fun j => za_bi (Mv j)))), (aMc, .inl (cI, 24, .inl Mc)), (aBr, .inl (cI, 576, .inl Br)), (aCd, .inl (cZ, 576, .inl (fun j => za_bi (Cd j)))), (aNx, .inl (cZ, 576, .inl (fun j => za_bi (Nx j)))), (aMk, .inl (cI, 24, .inl Mk))] sz) (va_Qv (fun (u : (Nat → Int32) × (Nat → Bool) × (Nat → Bool) × (Nat → Int32)) => za_brs Tg Co u.1 ∧ za_cds Tg Co u.2.1 ∧ (∀ x, x < 24 → u.2.2.2 x = za_kd Tg Co x)) (za_B D vwCl [(aO, .inr (5, [.ref aMv, .int mn, .ref aMc, .int (za_bi kn), .ref aBr, .ref aCd, .ref aNx, .int (nI mkc), .ref aMk, .int (nI mpl), .ref aAt, .ref aAs])), (aMv, .inl (cZ, 2304, .inl (fun j => za_bi (Mv j)))), (aMc, .inl (cI, 24, .inl Mc)), (aBr, .inl (cI, 576, .inl Br)), (aCd, .inl (cZ, 576, .inl (fun j => za_bi (Cd j)))), (aNx, .inl (cZ, 576, .inl (fun j => za_bi (Nx j)))), (aMk, .inl (cI, 24, .inl Mk))] sz (fun (u : (Nat → Int32) × (Nat → Bool) × (Nat → Bool) × (Nat → Int32)) => [(aO, .inr (5, [.ref aMv, .int mn, .ref aMc, .int (za_bi true), .ref aBr, .ref aCd, .ref aNx, .int (nI (za_kc Tg Co)), .ref aMk, .int (nI mpl), .ref aAt, .ref aAs])), (aMv, .inl (cZ, 2304, .inl (fun j => za_bi (Mv j)))), (aMc, .inl (cI, 24, .inl Mc)), (aBr, .inl (cI, 576, .inl u.1)), (aCd, .inl (cZ, 576, .inl (fun j => za_bi (u.2.1 j)))), (aNx, .inl (cZ, 576, .inl (fun j => za_bi (u.2.2.1 j)))), (aMk, .inl (cI, 24, .inl u.2.2.2))])) (va_A [(aO, .inr (5, [.ref aMv, .int mn, .ref aMc, .int (za_bi kn), .ref aBr, .ref aCd, .ref aNx, .int (nI mkc), .ref aMk, .int (nI mpl), .ref aAt, .ref aAs])), (aMv, .inl (cZ, 2304, .inl (fun j => za_bi (Mv j)))), (aMc, .inl (cI, 24, .inl Mc)), (aBr, .inl (cI, 576, .inl Br)), (aCd, .inl (cZ, 576, .inl (fun j => za_bi (Cd j)))), (aNx, .inl (cZ, 576, .inl (fun j => za_bi (Nx j)))), (aMk, .inl (cI, 24, .inl Mk))] sz)) 0 0 (va_A [(aO, .inr (5, [.ref aMv, .int mn, .ref aMc, .int (za_bi kn), .ref aBr, .ref aCd, .ref aNx, .int (nI mkc), .ref aMk, .int (nI mpl), .ref aAt, .ref aAs])), (aMv, .inl (cZ, 2304, .inl (fun j => za_bi (Mv j)))), (aMc, .inl (cI, 24, .inl Mc)), (aBr, .inl (cI, 576, .inl Br)), (aCd, .inl (cZ, 576, .inl (fun j => za_bi (Cd j)))), (aNx, .inl (cZ, 576, .inl (fun j => za_bi (Nx j)))), (aMk, .inl (cI, 24, .inl Mk))] sz) := by
  refine za_wv (cc := zo_M_look) (maxL := 1) (by decide) (Nat.le_of_ble_eq_true rfl) ?_
  intro p e sg m args below meth c H0 A Q hx hb hml hts hown hmn hP hK hN hD hA hS hret ls hl
  have hP : va_P D vwCl [(aO, .inr (5, [.ref aMv, .int mn, .ref aMc, .int (za_bi kn), .ref aBr, .ref aCd, .ref aNx, .int (nI mkc), .ref aMk, .int (nI mpl), .ref aAt, .ref aAs])), (aMv, .inl (cZ, 2304, .inl (fun j => za_bi (Mv j)))), (aMc, .inl (cI, 24, .inl Mc)), (aBr, .inl (cI, 576, .inl Br)), (aCd, .inl (cZ, 576, .inl (fun j => za_bi (Cd j)))), (aNx, .inl (cZ, 576, .inl (fun j => za_bi (Nx j)))), (aMk, .inl (cI, 24, .inl Mk))] H0 := hP
  have hD : va_D A [(aO, .inr (5, [.ref aMv, .int mn, .ref aMc, .int (za_bi kn), .ref aBr, .ref aCd, .ref aNx, .int (nI mkc), .ref aMk, .int (nI mpl), .ref aAt, .ref aAs])), (aMv, .inl (cZ, 2304, .inl (fun j => za_bi (Mv j)))), (aMc, .inl (cI, 24, .inl Mc)), (aBr, .inl (cI, 576, .inl Br)), (aCd, .inl (cZ, 576, .inl (fun j => za_bi (Cd j)))), (aNx, .inl (cZ, 576, .inl (fun j => za_bi (Nx j)))), (aMk, .inl (cI, 24, .inl Mk))] := hD
  have hl : lv_has ls 1 [(0, .ref aO)] := hl
  have hf50 := hts _ zw_446
  refine lv_aload_n hx hb zd_M_look_0 rfl (lv_at hl 0 rfl) ?_
  refine va_get (D := D) (ci := 5) (v := .int (za_bi kn)) (C := zs_M) (T := zt_M) (N := 12) hx hb hts zi_M hown hK hP 0 rfl rfl 3 (by decide) hf50 (fun _ h9 => h9) rfl zd_M_look_1 ?_
  refine lv_if_eq hx hb (tgt := 8) zd_M_look_4 (by decide) (fun h4 => ?_) (fun h4 => ?_)
  · have h4 := za_bF h4
    refine lv_aload_n hx hb zd_M_look_8 rfl (lv_at hl 0 rfl) ?_
    refine lv_iconst (v := nI 1) hx hb zd_M_look_9 (by decide) ?_
    refine za_eqi (y := za_bi true) rfl ?_
    refine va_put (D := D) (ci := 5) (v := .int (za_bi true)) (ty := .boolean) (C := zs_M) (T := zt_M) (N := 12) hx hb hts zi_M zy_M zk_M zn_M hown hK hP hD hS 0 rfl rfl 3 (by decide) hf50 (fun _ h9 => h9) rfl (by decide +kernel) (za_nar _) (za_fit _) (Nat.le_of_ble_eq_true rfl) zd_M_look_10 (fun H locs hP hD hS => ?_)
    have hP : va_P D vwCl [(aO, .inr (5, [.ref aMv, .int mn, .ref aMc, .int (za_bi true), .ref aBr, .ref aCd, .ref aNx, .int (nI mkc), .ref aMk, .int (nI mpl), .ref aAt, .ref aAs])), (aMv, .inl (cZ, 2304, .inl (fun j => za_bi (Mv j)))), (aMc, .inl (cI, 24, .inl Mc)), (aBr, .inl (cI, 576, .inl Br)), (aCd, .inl (cZ, 576, .inl (fun j => za_bi (Cd j)))), (aNx, .inl (cZ, 576, .inl (fun j => za_bi (Nx j)))), (aMk, .inl (cI, 24, .inl Mk))] H := hP
    have hD : va_D A [(aO, .inr (5, [.ref aMv, .int mn, .ref aMc, .int (za_bi true), .ref aBr, .ref aCd, .ref aNx, .int (nI mkc), .ref aMk, .int (nI mpl), .ref aAt, .ref aAs])), (aMv, .inl (cZ, 2304, .inl (fun j => za_bi (Mv j)))), (aMc, .inl (cI, 24, .inl Mc)), (aBr, .inl (cI, 576, .inl Br)), (aCd, .inl (cZ, 576, .inl (fun j => za_bi (Cd j)))), (aNx, .inl (cZ, 576, .inl (fun j => za_bi (Nx j)))), (aMk, .inl (cI, 24, .inl Mk))] := hD
    refine lv_aload_n hx hb zd_M_look_13 rfl (lv_at hl 0 rfl) ?_
    refine za_wVv (As := []) (rest := []) (wr := [(aCd, .inl (cZ, 576, .inl (fun j => za_bi (Cd j)))), (aNx, .inl (cZ, 576, .inl (fun j => za_bi (Nx j)))), (aMk, .inl (cI, 24, .inl Mk))]) (wz := (fun Br1_14 => [(aO, .inr (5, [.ref aMv, .int mn, .ref aMc, .int (za_bi true), .ref aBr, .ref aCd, .ref aNx, .int (nI mkc), .ref aMk, .int (nI mpl), .ref aAt, .ref aAs])), (aMv, .inl (cZ, 2304, .inl (fun j => za_bi (Mv j)))), (aMc, .inl (cI, 24, .inl Mc)), (aBr, .inl (cI, 576, .inl Br1_14)), (aCd, .inl (cZ, 576, .inl (fun j => za_bi (Cd j)))), (aNx, .inl (cZ, 576, .inl (fun j => za_bi (Nx j)))), (aMk, .inl (cI, 24, .inl Mk))])) ⟨hx, hb, hml, hown, hts⟩ (zc_M_findBreaches ln D cI cZ _ aO aMv aMc aBr aCd aNx aMk aAt aAs mkc mpl mn true Mv Mc Br Tg Co (by exact hMv) (by exact hMc)) (za_gV 0 hts zw_519 zw_521 zw_21 zw_40 zw_522 (by decide +kernel) ⟨Nat.le_of_ble_eq_true rfl, Nat.le_of_ble_eq_true rfl⟩) hK hN hP hD hS hA [0, 1, 2, 3] [4, 5, 6] [3, 4, 5, 6, 0, 1, 2] rfl rfl (by decide) (by decide) (by decide) (by decide) (fun _ => rfl) (q0 := 0) rfl rfl hl rfl rfl (Nat.le_of_ble_eq_true rfl) zd_M_look_14 ⟨Nat.le_of_ble_eq_true rfl, Nat.le_of_ble_eq_true rfl⟩ (fun u14 H locs hq14 hP hD hS => ?_)
    obtain ⟨Br1_14, rfl⟩ : ∃ z, z = u14 := ⟨_, rfl⟩
    have hP : va_P D vwCl [(aO, .inr (5, [.ref aMv, .int mn, .ref aMc, .int (za_bi true), .ref aBr, .ref aCd, .ref aNx, .int (nI mkc), .ref aMk, .int (nI mpl), .ref aAt, .ref aAs])), (aMv, .inl (cZ, 2304, .inl (fun j => za_bi (Mv j)))), (aMc, .inl (cI, 24, .inl Mc)), (aBr, .inl (cI, 576, .inl Br1_14)), (aCd, .inl (cZ, 576, .inl (fun j => za_bi (Cd j)))), (aNx, .inl (cZ, 576, .inl (fun j => za_bi (Nx j)))), (aMk, .inl (cI, 24, .inl Mk))] H := hP
    have hD : va_D A [(aO, .inr (5, [.ref aMv, .int mn, .ref aMc, .int (za_bi true), .ref aBr, .ref aCd, .ref aNx, .int (nI mkc), .ref aMk, .int (nI mpl), .ref aAt, .ref aAs])), (aMv, .inl (cZ, 2304, .inl (fun j => za_bi (Mv j)))), (aMc, .inl (cI, 24, .inl Mc)), (aBr, .inl (cI, 576, .inl Br1_14)), (aCd, .inl (cZ, 576, .inl (fun j => za_bi (Cd j)))), (aNx, .inl (cZ, 576, .inl (fun j => za_bi (Nx j)))), (aMk, .inl (cI, 24, .inl Mk))] := hD
    have hq14 : za_brs Tg Co Br1_14 := hq14
    refine lv_aload_n hx hb zd_M_look_17 rfl (lv_at hl 0 rfl) ?_
    refine za_wVv (As := []) (rest := []) (wr := [(aBr, .inl (cI, 576, .inl Br1_14)), (aMk, .inl (cI, 24, .inl Mk))]) (wz := (fun u => [(aO, .inr (5, [.ref aMv, .int mn, .ref aMc, .int (za_bi true), .ref aBr, .ref aCd, .ref aNx, .int (nI mkc), .ref aMk, .int (nI mpl), .ref aAt, .ref aAs])), (aMv, .inl (cZ, 2304, .inl (fun j => za_bi (Mv j)))), (aMc, .inl (cI, 24, .inl Mc)), (aBr, .inl (cI, 576, .inl Br1_14)), (aCd, .inl (cZ, 576, .inl (fun j => za_bi (u.1 j)))), (aNx, .inl (cZ, 576, .inl (fun j => za_bi (u.2 j)))), (aMk, .inl (cI, 24, .inl Mk))])) ⟨hx, hb, hml, hown, hts⟩ (zc_M_findCovers ln D cI cZ _ aO aMv aMc aBr aCd aNx aMk aAt aAs mkc mpl mn true Mv Mc Cd Nx Tg Co (by exact hMv) (by exact hMc)) (za_gV 0 hts zw_531 zw_533 zw_24 zw_40 zw_534 (by decide +kernel) ⟨Nat.le_of_ble_eq_true rfl, Nat.le_of_ble_eq_true rfl⟩) hK hN hP hD hS hA [0, 1, 2, 4, 5] [3, 6] [2, 3, 4, 0, 5, 6, 1] rfl rfl (by decide) (by decide) (by decide) (by decide) (fun _ => rfl) (q0 := 0) rfl rfl hl rfl rfl (Nat.le_of_ble_eq_true rfl) zd_M_look_18 ⟨Nat.le_of_ble_eq_true rfl, Nat.le_of_ble_eq_true rfl⟩ (fun u18 H locs hq18 hP hD hS => ?_)
    obtain ⟨Cd1_18, Nx1_18⟩ := u18
    have hP : va_P D vwCl [(aO, .inr (5, [.ref aMv, .int mn, .ref aMc, .int (za_bi true), .ref aBr, .ref aCd, .ref aNx, .int (nI mkc), .ref aMk, .int (nI mpl), .ref aAt, .ref aAs])), (aMv, .inl (cZ, 2304, .inl (fun j => za_bi (Mv j)))), (aMc, .inl (cI, 24, .inl Mc)), (aBr, .inl (cI, 576, .inl Br1_14)), (aCd, .inl (cZ, 576, .inl (fun j => za_bi (Cd1_18 j)))), (aNx, .inl (cZ, 576, .inl (fun j => za_bi (Nx1_18 j)))), (aMk, .inl (cI, 24, .inl Mk))] H := hP
    have hD : va_D A [(aO, .inr (5, [.ref aMv, .int mn, .ref aMc, .int (za_bi true), .ref aBr, .ref aCd, .ref aNx, .int (nI mkc), .ref aMk, .int (nI mpl), .ref aAt, .ref aAs])), (aMv, .inl (cZ, 2304, .inl (fun j => za_bi (Mv j)))), (aMc, .inl (cI, 24, .inl Mc)), (aBr, .inl (cI, 576, .inl Br1_14)), (aCd, .inl (cZ, 576, .inl (fun j => za_bi (Cd1_18 j)))), (aNx, .inl (cZ, 576, .inl (fun j => za_bi (Nx1_18 j)))), (aMk, .inl (cI, 24, .inl Mk))] := hD
    have hq18 : za_cds Tg Co Cd1_18 := hq18
    refine lv_aload_n hx hb zd_M_look_21 rfl (lv_at hl 0 rfl) ?_
    refine za_wVv (As := []) (rest := []) (wr := [(aMv, .inl (cZ, 2304, .inl (fun j => za_bi (Mv j)))), (aMc, .inl (cI, 24, .inl Mc)), (aCd, .inl (cZ, 576, .inl (fun j => za_bi (Cd1_18 j)))), (aNx, .inl (cZ, 576, .inl (fun j => za_bi (Nx1_18 j))))]) (wz := (fun Mk1_22 => [(aO, .inr (5, [.ref aMv, .int mn, .ref aMc, .int (za_bi true), .ref aBr, .ref aCd, .ref aNx, .int (nI (za_kc Tg Co)), .ref aMk, .int (nI mpl), .ref aAt, .ref aAs])), (aMv, .inl (cZ, 2304, .inl (fun j => za_bi (Mv j)))), (aMc, .inl (cI, 24, .inl Mc)), (aBr, .inl (cI, 576, .inl Br1_14)), (aCd, .inl (cZ, 576, .inl (fun j => za_bi (Cd1_18 j)))), (aNx, .inl (cZ, 576, .inl (fun j => za_bi (Nx1_18 j)))), (aMk, .inl (cI, 24, .inl Mk1_22))])) ⟨hx, hb, hml, hown, hts⟩ (zc_M_findKinds ln D cI cZ _ aO aMv aMc aBr aCd aNx aMk aAt aAs mkc mpl mn true Br1_14 Mk Tg Co (by exact hq14)) (za_gV 0 hts zw_539 zw_541 zw_26 zw_40 zw_542 (by decide +kernel) ⟨Nat.le_of_ble_eq_true rfl, Nat.le_of_ble_eq_true rfl⟩) hK hN hP hD hS hA [0, 3, 6] [1, 2, 4, 5] [4, 0, 1, 5, 2, 3, 6] rfl rfl (by decide) (by decide) (by decide) (by decide) (fun _ => rfl) (q0 := 0) rfl rfl hl rfl rfl (Nat.le_of_ble_eq_true rfl) zd_M_look_22 ⟨Nat.le_of_ble_eq_true rfl, Nat.le_of_ble_eq_true rfl⟩ (fun u22 H locs hq22 hP hD hS => ?_)
    obtain ⟨Mk1_22, rfl⟩ : ∃ z, z = u22 := ⟨_, rfl⟩
    have hP : va_P D vwCl [(aO, .inr (5, [.ref aMv, .int mn, .ref aMc, .int (za_bi true), .ref aBr, .ref aCd, .ref aNx, .int (nI (za_kc Tg Co)), .ref aMk, .int (nI mpl), .ref aAt, .ref aAs])), (aMv, .inl (cZ, 2304, .inl (fun j => za_bi (Mv j)))), (aMc, .inl (cI, 24, .inl Mc)), (aBr, .inl (cI, 576, .inl Br1_14)), (aCd, .inl (cZ, 576, .inl (fun j => za_bi (Cd1_18 j)))), (aNx, .inl (cZ, 576, .inl (fun j => za_bi (Nx1_18 j)))), (aMk, .inl (cI, 24, .inl Mk1_22))] H := hP
    have hD : va_D A [(aO, .inr (5, [.ref aMv, .int mn, .ref aMc, .int (za_bi true), .ref aBr, .ref aCd, .ref aNx, .int (nI (za_kc Tg Co)), .ref aMk, .int (nI mpl), .ref aAt, .ref aAs])), (aMv, .inl (cZ, 2304, .inl (fun j => za_bi (Mv j)))), (aMc, .inl (cI, 24, .inl Mc)), (aBr, .inl (cI, 576, .inl Br1_14)), (aCd, .inl (cZ, 576, .inl (fun j => za_bi (Cd1_18 j)))), (aNx, .inl (cZ, 576, .inl (fun j => za_bi (Nx1_18 j)))), (aMk, .inl (cI, 24, .inl Mk1_22))] := hD
    have hq22 : (∀ x, x < 24 → Mk1_22 x = za_kd Tg Co x) := hq22
    have hP9 : va_P D vwCl [(aO, .inr (5, [.ref aMv, .int mn, .ref aMc, .int (za_bi true), .ref aBr, .ref aCd, .ref aNx, .int (nI (za_kc Tg Co)), .ref aMk, .int (nI mpl), .ref aAt, .ref aAs])), (aMv, .inl (cZ, 2304, .inl (fun j => za_bi (Mv j)))), (aMc, .inl (cI, 24, .inl Mc)), (aBr, .inl (cI, 576, .inl Br1_14)), (aCd, .inl (cZ, 576, .inl (fun j => za_bi (Cd1_18 j)))), (aNx, .inl (cZ, 576, .inl (fun j => za_bi (Nx1_18 j)))), (aMk, .inl (cI, 24, .inl Mk1_22))] H := hP
    have hD9 : va_D A [(aO, .inr (5, [.ref aMv, .int mn, .ref aMc, .int (za_bi true), .ref aBr, .ref aCd, .ref aNx, .int (nI (za_kc Tg Co)), .ref aMk, .int (nI mpl), .ref aAt, .ref aAs])), (aMv, .inl (cZ, 2304, .inl (fun j => za_bi (Mv j)))), (aMc, .inl (cI, 24, .inl Mc)), (aBr, .inl (cI, 576, .inl Br1_14)), (aCd, .inl (cZ, 576, .inl (fun j => za_bi (Cd1_18 j)))), (aNx, .inl (cZ, 576, .inl (fun j => za_bi (Nx1_18 j)))), (aMk, .inl (cI, 24, .inl Mk1_22))] := hD
    have hQ9 : za_brs Tg Co Br1_14 ∧ za_cds Tg Co Cd1_18 ∧ (∀ x, x < 24 → Mk1_22 x = za_kd Tg Co x) := by exact ⟨hq14, hq18, hq22⟩
    exact hret ⟨Br1_14, Cd1_18, Nx1_18, Mk1_22⟩ _ _ _ _ (hQ9) hP9 hD9 hS zd_M_look_25
  · have h4 := za_bT h4
    have e1 : za_bi true = za_bi kn := by first | with_reducible rfl | (first | rw [h4] | rw [(hkn h4).2.2.2])
    have e2 : nI (za_kc Tg Co) = nI mkc := by first | with_reducible rfl | (first | rw [h4] | rw [(hkn h4).2.2.2])
    have hP9 : va_P D vwCl [(aO, .inr (5, [.ref aMv, .int mn, .ref aMc, .int (za_bi true), .ref aBr, .ref aCd, .ref aNx, .int (nI (za_kc Tg Co)), .ref aMk, .int (nI mpl), .ref aAt, .ref aAs])), (aMv, .inl (cZ, 2304, .inl (fun j => za_bi (Mv j)))), (aMc, .inl (cI, 24, .inl Mc)), (aBr, .inl (cI, 576, .inl Br)), (aCd, .inl (cZ, 576, .inl (fun j => za_bi (Cd j)))), (aNx, .inl (cZ, 576, .inl (fun j => za_bi (Nx j)))), (aMk, .inl (cI, 24, .inl Mk))] H0 := by rw [e1, e2]; exact hP
    have hD9 : va_D A [(aO, .inr (5, [.ref aMv, .int mn, .ref aMc, .int (za_bi true), .ref aBr, .ref aCd, .ref aNx, .int (nI (za_kc Tg Co)), .ref aMk, .int (nI mpl), .ref aAt, .ref aAs])), (aMv, .inl (cZ, 2304, .inl (fun j => za_bi (Mv j)))), (aMc, .inl (cI, 24, .inl Mc)), (aBr, .inl (cI, 576, .inl Br)), (aCd, .inl (cZ, 576, .inl (fun j => za_bi (Cd j)))), (aNx, .inl (cZ, 576, .inl (fun j => za_bi (Nx j)))), (aMk, .inl (cI, 24, .inl Mk))] := by rw [e1, e2]; exact hD
    have hQ9 : za_brs Tg Co Br ∧ za_cds Tg Co Cd ∧ (∀ x, x < 24 → Mk x = za_kd Tg Co x) := by exact ⟨(hkn h4).1, (hkn h4).2.1, (hkn h4).2.2.1⟩
    exact hret ⟨Br, Cd, Nx, Mk⟩ _ _ _ _ (hQ9) hP9 hD9 hS zd_M_look_7
