/-! mirrors of the reference's loops -/
def za_mans (Mv : Nat → Bool) (Br : Nat → Int32) (t l u k : Nat) : Bool := za_ex (fun x => Mv (96 * t + 24 * l + x) && !decide (Br (24 * u + x) ≤ nI k)) 24
def za_mfol (Mv : Nat → Bool) (Br : Nat → Int32) (s t k : Nat) : Bool := za_al (fun x => !Mv (96 * s + x) || za_mans Mv Br t (x / 24) (x % 24) k) 96
def za_mm2 (Mv Cd : Nat → Bool) (s i x : Nat) : Bool := Mv (96 * s + 24 * (i / 24) + x) && Cd (24 * x + i % 24)
def za_mm1 (Mv Cd : Nat → Bool) (s t i : Nat) : Bool := !Mv (96 * t + i) || za_ex (za_mm2 Mv Cd s i) 24
def za_mmat (Mv Cd : Nat → Bool) (s t : Nat) : Bool := za_al (za_mm1 Mv Cd s t) 96
theorem za_ex_mono {p : Nat → Bool} {i n : Nat} (h : i ≤ n) (hp : za_ex p i = true) : za_ex p n = true := by
  obtain ⟨j, hj, g⟩ := za_ex_iff.mp hp
  exact za_ex_iff.mpr ⟨j, by omega, g⟩
theorem za_mm3 {Mv Cd : Nat → Bool} {s t i j : Nat} {sm : Bool} (h : sm = (!Mv (96 * t + i) || za_ex (za_mm2 Mv Cd s i) j)) (h1 : sm = true) (hj : j ≤ 24) : (!Mv (96 * t + i) || za_ex (za_mm2 Mv Cd s i) 24) = sm := by
  rw [h1] at h ⊢
  have h := h.symm
  rw [Bool.or_eq_true] at h ⊢
  rcases h with h | h
  · exact Or.inl h
  · exact Or.inr (za_ex_mono hj h)
def za_mat (Mv : Nat → Bool) (Br : Nat → Int32) (s t x k : Nat) : Bool := Mv (96 * s + x) && !za_mans Mv Br t (x / 24) (x % 24) k
def za_ri (w : Int32) (l : Nat) (Mv : Nat → Bool) (Mk : Nat → Int32) (s : Nat) (a : Int32) : Nat → Int32
  | 0 => a
  | n + 1 => if Mk s = w ∧ Mv (96 * s + 24 * l + n) = true then za_ri w l Mv Mk s a n ||| (nI 1 <<< (Mk n &&& 31)) else za_ri w l Mv Mk s a n
def za_ro (w : Int32) (l : Nat) (Mv : Nat → Bool) (Mk : Nat → Int32) : Nat → Int32
  | 0 => nI 0
  | n + 1 => za_ri w l Mv Mk n (za_ro w l Mv Mk n) 24
