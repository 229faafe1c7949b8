/-! THE CLAIM OUT OF ONE WALK OF THE LAW'S BODY. Your part is whole_start (and what it stands on); all else here is the same for every law, but numbers. -/
def R_law : String := "AlikeStatesLaw"
def lw_P (b : Addr) (xs : List Int32) (args : Array Value) (s : State) : Prop := args = #[.ref b] ∧ s.IntsAt b xs ∧ xs.length ≤ 2048 ∧ (Jvm.Cond.and given_1 narrow_1).before args s = true
def lw_Q (_ : Array Value) (s : State) (o : Outcome) (t : State) : Prop := o = .returned (some (.int 1)) ∧ Framed s o t [] 24 6302
def lw_Z (below : List Frame) (a : Array Value) (s : State) : State → Prop := fun t => ∃ o, t.status = .running ∧ Ended t below o ∧ lw_Q a s o t
/-- the law's own end, with 1 on the stack, nothing written that was there before, its room as the claim has it -/
theorem lw_ret {p : Program} {l : Launch} {e : Env} {s : State} {m : MethodId} {below : List Frame} {meth : Method} {c : Code} {b : Nat} (hx : p.tables.exec = Jvm.exec) (hb : c.code = code) (hr : meth.sig.returnType = ret) (hlocks : meth.locks = false) {pc : Nat} {H : Heap} {ls : Array Slot} (hdg : decode code pc = .ok (.ireturn, 1)) : W p l e room_1 s m #[Value.ref b] below meth c H [] 24 6302 (lw_Z below #[Value.ref b] s) (F0 m pc ls [.int 1]) := by
  intro T hT X
  obtain ⟨fs, hret, hrun, hended, hW, hframe⟩ := X.leave (v := some (.int 1)) (hlocks := hlocks) (fun h => by rw [hr] at h; cases h)
  have hmeth' : T.vm.method? m = some meth := X.method'
  refine ⟨T.setFrames fs, ?_, .returned (some (.int 1)), hrun, hended, rfl, ⟨_, rfl⟩, hW, hframe⟩
  jvm_step X.here [X.here.top, hx, hb, hdg, hmeth', hr, ret, narrow_b1]
  (try refine ⟨rfl, ?_⟩); (try refine ⟨rfl, ?_⟩)
  first | (intro acts; rw [hret _ acts rfl rfl rfl]) | rw [hret _ _ rfl rfl rfl]
  exact Steps.refl _
/-- what holds at the law's entry: the machine, the code, the tables' words (any of lw_tbl by 'hts w (by decide +kernel)'), the script of L ints xs at the cell b, what the Statement gives of the start (any of its parts by flat_of_before) -/
def lw_At (p : Program) (s : State) (m : MethodId) (meth : Method) (c : Code) (b L : Nat) (xs : Nat → Int32) : Prop :=
  p.tables.exec = Jvm.exec ∧ c.code = code ∧ meth.sig.returnType = ret ∧ c.maxLocals = 4 ∧ s.vm.findClass R_law = some m.cls ∧ (∀ w ∈ lw_tbl, w.before #[Value.ref b] s = true) ∧ va_X b L xs s s.heap ∧ b < s.heap.size ∧ meth.locks = false ∧ (Jvm.Cond.and given_1 narrow_1).before #[Value.ref b] s = true
/-! the law's loop: the class's state and the reference's, side by side -/
def za_kno (Tg Co Br : Nat → Int32) (Cd : Nat → Bool) (Mk : Nat → Int32) (mkc : Nat) : Prop := za_brs Tg Co Br ∧ za_cds Tg Co Cd ∧ (∀ x, x < 24 → Mk x = za_kd Tg Co x) ∧ mkc = za_kc Tg Co
def za_cnt (i : Nat) (ct : Int32) : Prop := ∃ a : Nat, ct = nI a - nI 4096 ∧ 4096 ≤ a + i ∧ a ≤ 4216
def za_I (i : Nat) (ct mn : Int32) (Tg Co : Nat → Int32) (Mv : Nat → Bool) (Mc : Nat → Int32) (sd : Bool) (lr kc : Nat) (Rw Kd : Nat → Int32) (sc : Bool) (Bl : Nat → Int32) (kn : Bool) (mkc : Nat) (Br : Nat → Int32) (Cd : Nat → Bool) (Mk : Nat → Int32) : Prop :=
  i ≤ 2052 ∧ mn = ct ∧ za_cnt i ct ∧ za_small Tg ∧ za_rel Tg Mv ∧ (∀ s, s < 24 → Mc s = Co s) ∧ (sd = true → za_like Tg Co Rw lr Kd kc) ∧ (sc = true → za_cov Tg Co Bl) ∧ (kn = true → za_kno Tg Co Br Cd Mk mkc)
section ZI
variable {i : Nat} {ct mn w x0 v : Int32} {Tg Co : Nat → Int32} {Mv : Nat → Bool} {Mc : Nat → Int32} {sd : Bool} {lr kc : Nat} {Rw Kd : Nat → Int32} {sc : Bool} {Bl : Nat → Int32} {kn : Bool} {mkc : Nat} {Br : Nat → Int32} {Cd : Nat → Bool} {Mk : Nat → Int32}
theorem za_Iok (h : za_I i ct mn Tg Co Mv Mc sd lr kc Rw Kd sc Bl kn mkc Br Cd Mk) : sd = true → za_like Tg Co Rw lr Kd kc := h.2.2.2.2.2.2.1
theorem za_Iokc (h : za_I i ct mn Tg Co Mv Mc sd lr kc Rw Kd sc Bl kn mkc Br Cd Mk) : sc = true → za_cov Tg Co Bl := h.2.2.2.2.2.2.2.1
theorem za_Ism (h : za_I i ct mn Tg Co Mv Mc sd lr kc Rw Kd sc Bl kn mkc Br Cd Mk) : za_small Tg := h.2.2.2.1
theorem za_IMv (h : za_I i ct mn Tg Co Mv Mc sd lr kc Rw Kd sc Bl kn mkc Br Cd Mk) : za_rel Tg Mv := h.2.2.2.2.1
theorem za_IMc (h : za_I i ct mn Tg Co Mv Mc sd lr kc Rw Kd sc Bl kn mkc Br Cd Mk) : ∀ s, s < 24 → Mc s = Co s := h.2.2.2.2.2.1
theorem za_Ikn (h : za_I i ct mn Tg Co Mv Mc sd lr kc Rw Kd sc Bl kn mkc Br Cd Mk) : kn = true → (za_brs Tg Co Br ∧ za_cds Tg Co Cd ∧ (∀ x, x < 24 → Mk x = za_kd Tg Co x) ∧ mkc = za_kc Tg Co) := h.2.2.2.2.2.2.2.2
theorem za_cnt_up (h : za_cnt i ct) : za_cnt (i + 4) ct := by
  obtain ⟨a, h1, h2, h3⟩ := h
  exact ⟨a, h1, by omega, h3⟩
theorem za_Istay (h : za_I i ct mn Tg Co Mv Mc sd lr kc Rw Kd sc Bl kn mkc Br Cd Mk) (hi : i + 4 ≤ 2052) : za_I (i + 4) ct mn Tg Co Mv Mc sd lr kc Rw Kd sc Bl kn mkc Br Cd Mk :=
  ⟨hi, h.2.1, za_cnt_up h.2.2.1, h.2.2.2⟩
theorem za_Ilike {sd1 : Bool} {lr1 kc1 : Nat} {Rw1 Kd1 Br1 Mk1 : Nat → Int32} {Cd1 : Nat → Bool} (h : za_I i ct mn Tg Co Mv Mc sd lr kc Rw Kd sc Bl kn mkc Br Cd Mk) (hi : i + 4 ≤ 2052) (h1 : sd1 = true → za_like Tg Co Rw1 lr1 Kd1 kc1) (h2 : za_brs Tg Co Br1 ∧ za_cds Tg Co Cd1 ∧ (∀ x, x < 24 → Mk1 x = za_kd Tg Co x)) : za_I (i + 4) ct mn Tg Co Mv Mc sd1 lr1 kc1 Rw1 Kd1 sc Bl true (za_kc Tg Co) Br1 Cd1 Mk1 :=
  ⟨hi, h.2.1, za_cnt_up h.2.2.1, za_Ism h, za_IMv h, za_IMc h, h1, za_Iokc h, fun _ => ⟨h2.1, h2.2.1, h2.2.2, rfl⟩⟩
theorem za_Icov {sc1 : Bool} {Bl1 Br1 Mk1 : Nat → Int32} {Cd1 : Nat → Bool} (h : za_I i ct mn Tg Co Mv Mc sd lr kc Rw Kd sc Bl kn mkc Br Cd Mk) (hi : i + 4 ≤ 2052) (h1 : sc1 = true → za_cov Tg Co Bl1) (h2 : za_brs Tg Co Br1 ∧ za_cds Tg Co Cd1 ∧ (∀ x, x < 24 → Mk1 x = za_kd Tg Co x)) : za_I (i + 4) ct mn Tg Co Mv Mc sd lr kc Rw Kd sc1 Bl1 true (za_kc Tg Co) Br1 Cd1 Mk1 :=
  ⟨hi, h.2.1, za_cnt_up h.2.2.1, za_Ism h, za_IMv h, za_IMc h, za_Iok h, h1, fun _ => ⟨h2.1, h2.2.1, h2.2.2, rfl⟩⟩
theorem za_bset {x : Int32} {t j : Nat} (ht : t < 32) (hj : j < 32) : bt (x ||| (nI 1 <<< (nI t &&& 31))) j = (bt x j || decide (j = t)) := by
  rw [b_or, b_shl t ht (nI 1) hj, za_1b (j - t) (by omega)]
  by_cases e : j = t
  · subst e; simp
  · by_cases g : t ≤ j
    · simp [e, g, show ¬ j - t = 0 by omega]
    · simp [e, g]
theorem za_bclr {x : Int32} {t j : Nat} (ht : t < 32) (hj : j < 32) : bt (x &&& ((nI 1 <<< (nI t &&& 31)) ^^^ (-1))) j = (bt x j && !decide (j = t)) := by
  rw [b_and, b_xor, b_m1 j hj, b_shl t ht (nI 1) hj, za_1b (j - t) (by omega)]
  by_cases e : j = t
  · subst e; simp
  · by_cases g : t ≤ j
    · simp [e, g, show ¬ j - t = 0 by omega]
    · simp [e, g]
theorem za_rel_set {s l t : Nat} {b : Bool} {x : Int32} (hr : za_rel Tg Mv) (hs : s < 24) (hl : l < 4) (ht : t < 24) (hx : ∀ j, j < 24 → bt x j = if j = t then b else bt (Tg (s * 4 + l)) j) : za_rel (upd Tg (s * 4 + l) x) (za_ub Mv (96 * s + 24 * l + t) b) := by
  intro s' l' t' h1 h2 h3
  unfold upd za_ub
  by_cases e : s' * 4 + l' = s * 4 + l
  · have e1 : s' = s := by omega
    have e2 : l' = l := by omega
    subst e1 e2
    rw [if_pos rfl, hx t' h3]
    by_cases e3 : t' = t
    · rw [if_pos e3, if_pos (by omega)]
    · rw [if_neg e3, if_neg (by omega)]
      exact hr s' l' t' h1 h2 h3
  · rw [if_neg e, if_neg (by omega)]
    exact hr s' l' t' h1 h2 h3
theorem za_small_set {j0 : Nat} {x : Int32} (h : za_small Tg) (hx : ∀ i, 24 ≤ i → bt x i = false) : za_small (upd Tg j0 x) := by
  intro j hj i hi
  unfold upd
  by_cases e : j = j0
  · rw [if_pos e]; exact hx i hi
  · rw [if_neg e]; exact h j hj i hi
theorem za_sub1 {a : Nat} (h : a < 2 ^ 30) : nI a - nI 4096 + nI 1 = nI (a + 1) - nI 4096 := by
  apply Int32.toBitVec_inj.1
  show BitVec.ofNat 32 a - BitVec.ofNat 32 4096 + BitVec.ofNat 32 1 = BitVec.ofNat 32 (a + 1) - BitVec.ofNat 32 4096
  apply BitVec.eq_of_toNat_eq
  simp only [BitVec.toNat_add, BitVec.toNat_sub, BitVec.toNat_ofNat]
  omega
theorem za_sub2 {a : Nat} (h : a < 2 ^ 30) (h1 : 1 ≤ a) : nI a - nI 4096 - nI 1 = nI (a - 1) - nI 4096 := by
  apply Int32.toBitVec_inj.1
  show BitVec.ofNat 32 a - BitVec.ofNat 32 4096 - BitVec.ofNat 32 1 = BitVec.ofNat 32 (a - 1) - BitVec.ofNat 32 4096
  apply BitVec.eq_of_toNat_eq
  simp only [BitVec.toNat_sub, BitVec.toNat_ofNat]
  omega
theorem za_cnt_lt (h : za_cnt i ct) : decide (ct < nI 120) = !decide (ct = nI 120) := by
  obtain ⟨a, h1, h2, h3⟩ := h
  have e : ct.toInt = (a : Int) - 4096 := by rw [h1]; exact pk_sub_toInt (by omega) (by omega)
  have e2 : (nI 120).toInt = 120 := nI_toInt (by omega)
  by_cases g : ct = nI 120
  · rw [decide_eq_true g, decide_eq_false (by rw [g]; decide)]
    rfl
  · have g2 : ct < nI 120 := by
      refine Int32.lt_iff_toInt_lt.mpr ?_
      rw [e2]
      have : ¬ ct.toInt = 120 := fun z => g (Int32.toInt_inj.mp (by rw [z, e2]))
      omega
    rw [decide_eq_true g2, decide_eq_false g]
    rfl
theorem za_mok_eq (h : za_I i ct mn Tg Co Mv Mc sd lr kc Rw Kd sc Bl kn mkc Br Cd Mk) : za_mok Tg ct w x0 v = za_Mok Mv mn w x0 v := by
  unfold za_mok za_Mok
  rw [h.2.1, za_cnt_lt h.2.2.1]
  by_cases g : (za_isS w && za_isS v && za_isL x0) = true
  · obtain ⟨⟨s, hs, hw⟩, ⟨l, hl, hx⟩, t, ht, hv⟩ := za_isM_of g
    have g2 : (za_isS w && za_isL x0 && za_isS v) = true := by
      rw [Bool.and_eq_true, Bool.and_eq_true] at g ⊢
      exact ⟨⟨g.1.1, g.2⟩, g.1.2⟩
    rw [g, g2, hw, hx, hv, za_clS hs, za_clL hl, za_clS ht, za_IMv h s l t hs hl ht]
  · have g1 : (za_isS w && za_isS v && za_isL x0) = false := by simpa using g
    have g2 : (za_isS w && za_isL x0 && za_isS v) = false := by
      rw [← g1, Bool.and_assoc, Bool.and_assoc, Bool.and_comm (za_isL x0)]
    rw [g1, g2, Bool.false_and, Bool.false_and]
theorem za_dok_eq (h : za_I i ct mn Tg Co Mv Mc sd lr kc Rw Kd sc Bl kn mkc Br Cd Mk) : za_dok Tg w x0 v = za_Dok Mv w x0 v := by
  unfold za_dok za_Dok
  by_cases g : (za_isS w && za_isS v && za_isL x0) = true
  · obtain ⟨⟨s, hs, hw⟩, ⟨l, hl, hx⟩, t, ht, hv⟩ := za_isM_of g
    have g2 : (za_isS w && za_isL x0 && za_isS v) = true := by
      rw [Bool.and_eq_true, Bool.and_eq_true] at g ⊢
      exact ⟨⟨g.1.1, g.2⟩, g.1.2⟩
    rw [g, g2, hw, hx, hv, za_clS hs, za_clL hl, za_clS ht, za_IMv h s l t hs hl ht]
  · have g1 : (za_isS w && za_isS v && za_isL x0) = false := by simpa using g
    have g2 : (za_isS w && za_isL x0 && za_isS v) = false := by
      rw [← g1, Bool.and_assoc, Bool.and_assoc, Bool.and_comm (za_isL x0)]
    rw [g1, g2, Bool.false_and, Bool.false_and]
theorem za_Imove (h : za_I i ct mn Tg Co Mv Mc sd lr kc Rw Kd sc Bl kn mkc Br Cd Mk) (hi : i + 4 ≤ 2052) : za_I (i + 4) (za_mct Tg ct w x0 v) (za_Mct Mv mn w x0 v) (za_mvT Tg ct w x0 v) Co (za_MvT Mv mn w x0 v) Mc (sd && !za_mok Tg ct w x0 v) lr kc Rw Kd (sc && !za_mok Tg ct w x0 v) Bl (kn && !za_Mok Mv mn w x0 v) mkc Br Cd Mk := by
  have e := za_mok_eq (w := w) (x0 := x0) (v := v) h
  unfold za_mct za_Mct za_mvT za_MvT
  rw [← e]
  cases hm : za_mok Tg ct w x0 v with
  | false =>
    simp only [Bool.false_eq_true, if_false, Bool.not_false, Bool.and_true]
    exact za_Istay h hi
  | true =>
    simp only [if_true, Bool.not_true, Bool.and_false]
    have g : (za_isS w && za_isS v && za_isL x0) = true := by
      unfold za_mok at hm
      rw [Bool.and_eq_true] at hm
      exact hm.1
    have g3 : ct < nI 120 := by
      unfold za_mok at hm
      rw [Bool.and_eq_true] at hm
      have z := hm.2
      rw [Bool.and_eq_true] at z
      exact of_decide_eq_true z.2
    obtain ⟨⟨s, hs, hw⟩, ⟨l, hl, hx⟩, t, ht, hv⟩ := za_isM_of g
    rw [hw, hx, hv, za_clS hs, za_clL hl, za_clS ht]
    obtain ⟨a, c1, c2, c3⟩ := h.2.2.1
    have c4 : a < 4216 := by
      have z := Int32.lt_iff_toInt_lt.mp g3
      rw [c1, pk_sub_toInt (by omega) (by omega), nI_toInt (by omega)] at z
      omega
    refine ⟨hi, by rw [h.2.1], ⟨a + 1, by rw [c1, za_sub1 (by omega)], by omega, by omega⟩, za_small_set (za_Ism h) (fun j hj => ?_), za_rel_set (za_IMv h) hs hl ht (fun j hj => ?_), za_IMc h, (fun z => by cases z), (fun z => by cases z), (fun z => by cases z)⟩
    · rcases Nat.lt_or_ge j 32 with q | q
      · rw [za_bset (by omega) q, za_Ism h _ (by omega) j hj, decide_eq_false (by omega)]; rfl
      · exact b_big q
    · rw [za_bset (by omega) (by omega)]
      by_cases q : j = t
      · rw [if_pos q, decide_eq_true q, Bool.or_true]
      · rw [if_neg q, decide_eq_false q, Bool.or_false]
theorem za_Idrop (h : za_I i ct mn Tg Co Mv Mc sd lr kc Rw Kd sc Bl kn mkc Br Cd Mk) (hi : i + 4 ≤ 2052) : za_I (i + 4) (za_dct Tg ct w x0 v) (za_Dct Mv mn w x0 v) (za_dvT Tg w x0 v) Co (za_DvT Mv w x0 v) Mc (sd && !za_dok Tg w x0 v) lr kc Rw Kd (sc && !za_dok Tg w x0 v) Bl (kn && !za_Dok Mv w x0 v) mkc Br Cd Mk := by
  have e := za_dok_eq (w := w) (x0 := x0) (v := v) h
  unfold za_dct za_Dct za_dvT za_DvT
  rw [← e]
  cases hm : za_dok Tg w x0 v with
  | false =>
    simp only [Bool.false_eq_true, if_false, Bool.not_false, Bool.and_true]
    exact za_Istay h hi
  | true =>
    simp only [if_true, Bool.not_true, Bool.and_false]
    have g : (za_isS w && za_isS v && za_isL x0) = true := by
      unfold za_dok at hm
      rw [Bool.and_eq_true] at hm
      exact hm.1
    obtain ⟨⟨s, hs, hw⟩, ⟨l, hl, hx⟩, t, ht, hv⟩ := za_isM_of g
    rw [hw, hx, hv, za_clS hs, za_clL hl, za_clS ht]
    obtain ⟨a, c1, c2, c3⟩ := h.2.2.1
    have hi2 := h.1
    refine ⟨hi, by rw [h.2.1], ⟨a - 1, by rw [c1, za_sub2 (by omega) (by omega)], by omega, by omega⟩, za_small_set (za_Ism h) (fun j hj => ?_), za_rel_set (za_IMv h) hs hl ht (fun j hj => ?_), za_IMc h, (fun z => by cases z), (fun z => by cases z), (fun z => by cases z)⟩
    · rcases Nat.lt_or_ge j 32 with q | q
      · rw [za_bclr (by omega) q, za_Ism h _ (by omega) j hj, Bool.false_and]
      · exact b_big q
    · rw [za_bclr (by omega) (by omega)]
      by_cases q : j = t
      · rw [if_pos q, decide_eq_true q]; simp
      · rw [if_neg q, decide_eq_false q]; simp
theorem za_Icolour (h : za_I i ct mn Tg Co Mv Mc sd lr kc Rw Kd sc Bl kn mkc Br Cd Mk) (hi : i + 4 ≤ 2052) : za_I (i + 4) ct mn Tg (za_cvC Co w x0) Mv (za_cvC Mc w x0) (sd && !za_isS w) lr kc Rw Kd (sc && !za_isS w) Bl (kn && !za_isS w) mkc Br Cd Mk := by
  unfold za_cvC
  cases hm : za_isS w with
  | false =>
    simp only [Bool.false_eq_true, if_false, Bool.not_false, Bool.and_true]
    exact za_Istay h hi
  | true =>
    simp only [if_true, Bool.not_true, Bool.and_false]
    refine ⟨hi, h.2.1, za_cnt_up h.2.2.1, za_Ism h, za_IMv h, fun s hs => ?_, (fun z => by cases z), (fun z => by cases z), (fun z => by cases z)⟩
    unfold upd
    by_cases q : s = za_clp w
    · rw [if_pos q, if_pos q]
    · rw [if_neg q, if_neg q]; exact za_IMc h s hs
theorem za_Iclear (h : za_I i ct mn Tg Co Mv Mc sd lr kc Rw Kd sc Bl kn mkc Br Cd Mk) (hi : i + 4 ≤ 2052) : za_I (i + 4) (nI 0) (nI 0) (za_fl (fun _ => nI 0) Tg 96) (za_fl (fun _ => nI 0) Co 24) (za_fb (fun _ => false) Mv 2304) (za_fl (fun _ => nI 0) Mc 24) false lr kc Rw Kd false Bl false mkc Br Cd Mk := by
  refine ⟨hi, rfl, ⟨4096, by decide, by omega, by omega⟩, fun j hj k hk => ?_, fun s l t h1 h2 h3 => ?_, fun s hs => ?_, (fun z => by cases z), (fun z => by cases z), (fun z => by cases z)⟩
  · rw [za_fl_lt hj]; exact b_0 k
  · rw [za_fl_lt (by omega)]
    have e : za_fb (fun _ => false) Mv 2304 (96 * s + 24 * l + t) = false := by unfold za_fb; rw [if_pos (by omega)]
    rw [e]
    exact (b_0 t).symm
  · rw [za_fl_lt hs, za_fl_lt hs]
end ZI
theorem za_I0 : za_I 0 (nI 0) (nI 0) (fun _ => nI 0) (fun _ => nI 0) (fun _ => false) (fun _ => nI 0) false 0 0 (fun _ => nI 0) (fun _ => nI 0) false (fun _ => nI 0) false 0 (fun _ => nI 0) (fun _ => false) (fun _ => nI 0) := by
  refine ⟨by omega, rfl, ⟨4096, by decide, by omega, by omega⟩, fun j _ k _ => b_0 k, fun s l t _ _ _ => (b_0 t).symm, fun s _ => rfl, (fun z => by cases z), (fun z => by cases z), (fun z => by cases z)⟩
theorem za_k32 {k : Nat} (h : k < 2 ^ 5) : k = 0 ∨ k = 1 ∨ k = 2 ∨ k = 3 ∨ k = 4 ∨ k = 5 ∨ k = 6 ∨ k = 7 ∨ k = 8 ∨ k = 9 ∨ k = 10 ∨ k = 11 ∨ k = 12 ∨ k = 13 ∨ k = 14 ∨ k = 15 ∨ k = 16 ∨ k = 17 ∨ 18 ≤ k := by omega
theorem za_inc4 (i : Nat) : nI i + Int32.ofInt 4 = nI (i + 4) := by
  rw [show Int32.ofInt 4 = nI 4 from by decide]
  exact nI_add i 4
theorem za_gtL {i L : Nat} (hi : i < 2 ^ 30) (hL : L < 2 ^ 30) (h : ¬ nI L - nI 4 < nI i) : i + 4 ≤ L := by
  rcases Nat.lt_or_ge L (i + 4) with g | g
  · exfalso
    refine h (Int32.lt_iff_toInt_lt.mpr ?_)
    rw [pk_sub_toInt hL (by omega), nI_toInt (by omega)]
    omega
  · exact g
section ZL
variable {p : Program} {l : Launch} {e : Env} {R : Room} {s : State} {m : MethodId} {args : Array Value} {below : List Frame} {meth : Method} {c : Code} {H H0 : Heap} {locs : List Loc} {cells slots : Nat} {Q : State → Prop} {cc : ByteArray} {pc : Nat} {ls : Array Slot} {rest : List Value} {A : Nat → Prop}
theorem za_sld (hx : p.tables.exec = Jvm.exec) (hb : c.code = cc) {b L : Nat} {xs : Nat → Int32} (hX : va_X b L xs s H0) (hbl : b < H0.size) (hbA : ¬ A b) (hS : va_S A H0 H locs) {k : Nat} (hk : k < L) (hL : L < 2 ^ 31) (hd : decode cc pc = .ok (.iaload, 1))
    (kk : W p l e R s m args below meth c H locs cells slots Q (F0 m (pc + 1) ls (.int (xs k) :: rest))) : W p l e R s m args below meth c H locs cells slots Q (F0 m pc ls (.int (nI k) :: .ref b :: rest)) :=
  va_sld hx hb hX hbl hbA hS (vp_in_nI hk hL) hd (by rw [nI_clamp (Nat.lt_trans hk hL)]; exact kk)
end ZL
