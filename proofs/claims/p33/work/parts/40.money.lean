/-! a permit's money and days over its row f; d: its days to come; M: a bound of what is paid -/
def RI (f : Nat → Int32) (d : Nat) (M : Int) : Prop :=
  (0 ≤ (f 6).toInt ∧ 0 ≤ (f 7).toInt ∧ 0 ≤ (f 8).toInt ∧ (f 5).toInt ≤ M) ∧
  (f 5).toInt = (f 6).toInt + (f 7).toInt + (f 8).toInt + (f 4).toInt * (d : Int) ∧
  (f 11 = 0 → (f 9).toInt + (f 10).toInt + (d : Int) = (f 2).toInt - (f 1).toInt + 1) ∧
  (¬ f 11 = 0 → d = 0 ∧ (f 9).toInt + (f 10).toInt < (f 2).toInt - (f 1).toInt + 1)
theorem RI.mono {f : Nat → Int32} {d : Nat} {M M' : Int} (h : RI f d M) (hM : M ≤ M') : RI f d M' := by
  obtain ⟨⟨h1, h2, h3, h4⟩, h5⟩ := h
  exact ⟨⟨h1, h2, h3, Int.le_trans h4 hM⟩, h5⟩
theorem RI.congr {f g : Nat → Int32} {d : Nat} {M : Int} (h : RI f d M) (e : ∀ j, j < 12 → g j = f j) : RI g d M := by
  unfold RI at h ⊢
  rw [e 1 (by decide), e 2 (by decide), e 4 (by decide), e 5 (by decide), e 6 (by decide), e 7 (by decide), e 8 (by decide), e 9 (by decide), e 10 (by decide), e 11 (by decide)]
  exact h
theorem fd_0 {a : Int} {d : Nat} (h : 1 ≤ a) : 0 ≤ a * (d : Int) := Int.mul_nonneg (by omega) (by omega)
theorem fd_s (a : Int) (d : Nat) : a * ((d + 1 : Nat) : Int) = a * (d : Int) + a := by
  show a * ((d : Int) + 1) = _
  rw [Int.mul_add, Int.mul_one]
theorem RI.us {f : Nat → Int32} {d : Nat} {M B : Int} {c2 c0 : Int32} (h : RI f (d + 1) M) (W : WPr c2 c0 B f) (h0 : f 11 = 0) (hM : M < 2000000000) : RI (usF f) d M := by
  obtain ⟨⟨h1, h2, h3, h4⟩, h5, h6, -⟩ := h
  obtain ⟨-, w2, -, w4, -, w6, -⟩ := W
  have h6 := h6 h0
  rw [fd_s] at h5
  have hn := fd_0 (d := d) w4.1
  have e6 : (usF f 6).toInt = (f 6).toInt + (f 4).toInt := addT (a := f 6) (b := f 4) (by omega) (by omega)
  have e9 : (usF f 9).toInt = (f 9).toInt + 1 := addT (a := f 9) (b := 1) (by rw [tl_1]; omega) (by rw [tl_1]; omega)
  refine ⟨⟨by rw [e6]; omega, h2, h3, h4⟩, ?_, fun _ => ?_, fun q => absurd h0 q⟩
  · rw [e6]
    show (f 5).toInt = (f 6).toInt + (f 4).toInt + (f 7).toInt + (f 8).toInt + (f 4).toInt * (d : Int)
    omega
  · rw [e9]
    show (f 9).toInt + 1 + (f 10).toInt + (d : Int) = (f 2).toInt - (f 1).toInt + 1
    omega
theorem RI.lo {f : Nat → Int32} {d : Nat} {M B : Int} {c2 c0 : Int32} (h : RI f (d + 1) M) (W : WPr c2 c0 B f) (h0 : f 11 = 0) (hM : M < 2000000000) : RI (loF f) d M := by
  obtain ⟨⟨h1, h2, h3, h4⟩, h5, h6, -⟩ := h
  obtain ⟨-, w2, -, w4, -, w6, -⟩ := W
  have h6 := h6 h0
  rw [fd_s] at h5
  have hn := fd_0 (d := d) w4.1
  have e7 : (loF f 7).toInt = (f 7).toInt + (f 4).toInt := addT (a := f 7) (b := f 4) (by omega) (by omega)
  have e10 : (loF f 10).toInt = (f 10).toInt + 1 := addT (a := f 10) (b := 1) (by rw [tl_1]; omega) (by rw [tl_1]; omega)
  refine ⟨⟨h1, by rw [e7]; omega, h3, h4⟩, ?_, fun _ => ?_, fun q => absurd h0 q⟩
  · rw [e7]
    show (f 5).toInt = (f 6).toInt + ((f 7).toInt + (f 4).toInt) + (f 8).toInt + (f 4).toInt * (d : Int)
    omega
  · rw [e10]
    show (f 9).toInt + ((f 10).toInt + 1) + (d : Int) = (f 2).toInt - (f 1).toInt + 1
    omega
theorem RI.mv {f : Nat → Int32} {d : Nat} {M : Int} {nr nf D : Int32} (h : RI f d M) (hf : 1 ≤ (f 4).toInt) (hD : D.toInt = (nf.toInt - (f 4).toInt) * (d : Int)) (hb : -14970 ≤ D.toInt ∧ D.toInt ≤ 14970) (hM : M + 15000 < 2000000000) : RI (mvF f nr nf D) d (M + 15000) := by
  obtain ⟨⟨h1, h2, h3, h4⟩, h5, h6, h7⟩ := h
  have hn := fd_0 (d := d) hf
  rw [Int.sub_mul] at hD
  by_cases hc : 0 < D
  · have em : mvF f nr nf D = upd (upd (upd f 5 (f 5 + D)) 0 nr) 4 nf := by unfold mvF; rw [if_pos hc]
    rw [em]
    rw [il, tl_0] at hc
    have e5 : (f 5 + D).toInt = (f 5).toInt + D.toInt := addT (by omega) (by omega)
    refine ⟨⟨h1, h2, h3, ?_⟩, ?_, h6, h7⟩
    · show (f 5 + D).toInt ≤ _
      rw [e5]; omega
    · show (f 5 + D).toInt = (f 6).toInt + (f 7).toInt + (f 8).toInt + nf.toInt * (d : Int)
      rw [e5]; omega
  · have em : mvF f nr nf D = upd (upd (upd f 7 (f 7 - D)) 0 nr) 4 nf := by unfold mvF; rw [if_neg hc]
    rw [em]
    rw [il, tl_0] at hc
    have e7 : (f 7 - D).toInt = (f 7).toInt - D.toInt := subT (by omega) (by omega)
    refine ⟨⟨h1, ?_, h3, ?_⟩, ?_, h6, h7⟩
    · show 0 ≤ (f 7 - D).toInt
      rw [e7]; omega
    · show (f 5).toInt ≤ _
      omega
    · show (f 5).toInt = (f 6).toInt + (f 7 - D).toInt + (f 8).toInt + nf.toInt * (d : Int)
      rw [e7]; omega
theorem cn_num {a : Int32} (ha : 1 ≤ a.toInt ∧ a.toInt ≤ 500) {op cl : Nat} (h : op + cl ≤ 30) :
    (nI cl * a + nI op * (a / 2)).toInt = cl * a.toInt + op * (a / 2).toInt ∧ (nI op * (a - a / 2)).toInt = op * (a.toInt - (a / 2).toInt) ∧ 0 ≤ (cl : Int) * a.toInt + op * (a / 2).toInt ∧ (cl : Int) * a.toInt + op * (a / 2).toInt ≤ 30000 ∧ 0 ≤ (op : Int) * (a.toInt - (a / 2).toInt) ∧ (op : Int) * (a.toInt - (a / 2).toInt) ≤ 15000 := by
  have hh := hf_b ha
  have k1 := tn (n := cl) (by omega)
  have k2 := tn (n := op) (by omega)
  have m1 : (cl : Int) * a.toInt ≤ cl * 500 := Int.mul_le_mul_of_nonneg_left ha.2 (by omega)
  have m2 : 0 ≤ (cl : Int) * a.toInt := Int.mul_nonneg (by omega) (by omega)
  have m3 : (op : Int) * (a / 2).toInt ≤ op * 500 := Int.mul_le_mul_of_nonneg_left (by omega) (by omega)
  have m4 : 0 ≤ (op : Int) * (a / 2).toInt := Int.mul_nonneg (by omega) (by omega)
  have m5 : (op : Int) * (a.toInt - (a / 2).toInt) ≤ op * 500 := Int.mul_le_mul_of_nonneg_left (by omega) (by omega)
  have m6 : 0 ≤ (op : Int) * (a.toInt - (a / 2).toInt) := Int.mul_nonneg (by omega) (by omega)
  have t1 : (nI cl * a).toInt = cl * a.toInt := by rw [mulT (by rw [k1]; omega) (by rw [k1]; omega), k1]
  have t2 : (nI op * (a / 2)).toInt = op * (a / 2).toInt := by rw [mulT (by rw [k2]; omega) (by rw [k2]; omega), k2]
  have t0 : (a - a / 2).toInt = a.toInt - (a / 2).toInt := subT (by omega) (by omega)
  have t3 : (nI op * (a - a / 2)).toInt = op * (a.toInt - (a / 2).toInt) := by rw [mulT (by rw [k2, t0]; omega) (by rw [k2, t0]; omega), k2, t0]
  refine ⟨?_, t3, by omega, by omega, m6, by omega⟩
  rw [addT (by rw [t1, t2]; omega) (by rw [t1, t2]; omega), t1, t2]
theorem RI.cn {f : Nat → Int32} {op cl : Nat} {M B : Int} {c2 c0 : Int32} (h : RI f (op + cl) M) (W : WPr c2 c0 B f) (h0 : f 11 = 0) (hd : 0 < op + cl) (h30 : op + cl ≤ 30) (hM : M < 2000000000) : RI (cnF f (nI op) (nI cl)) 0 M := by
  obtain ⟨⟨h1, h2, h3, h4⟩, h5, h6, -⟩ := h
  obtain ⟨-, w2, -, w4, -, w6, -⟩ := W
  have h6 := h6 h0
  obtain ⟨n1, n2, n3, n4, n5, n6⟩ := cn_num w4 h30
  have es : (f 4).toInt * ((op + cl : Nat) : Int) = (cl : Int) * (f 4).toInt + op * (f 4 / 2).toInt + op * ((f 4).toInt - (f 4 / 2).toInt) := by
    show (f 4).toInt * ((op : Int) + (cl : Int)) = _
    rw [Int.mul_add, Int.mul_sub, Int.mul_comm (f 4).toInt (op : Int), Int.mul_comm (f 4).toInt (cl : Int)]
    omega
  rw [es] at h5
  have e7 : (cnF f (nI op) (nI cl) 7).toInt = (f 7).toInt + ((cl : Int) * (f 4).toInt + op * (f 4 / 2).toInt) := by
    show (f 7 + (nI cl * f 4 + nI op * (f 4 / 2))).toInt = _
    rw [addT (by rw [n1]; omega) (by rw [n1]; omega), n1]
  have e6 : (cnF f (nI op) (nI cl) 6).toInt = (f 6).toInt + op * ((f 4).toInt - (f 4 / 2).toInt) := by
    show (f 6 + nI op * (f 4 - f 4 / 2)).toInt = _
    rw [addT (by rw [n2]; omega) (by rw [n2]; omega), n2]
  refine ⟨⟨by rw [e6]; omega, by rw [e7]; omega, h3, h4⟩, ?_, fun q => absurd q (by show ¬ (1 : Int32) = 0; decide), fun _ => ⟨rfl, ?_⟩⟩
  · rw [e6, e7]
    show (f 5).toInt = _ + _ + (f 8).toInt + (f 4).toInt * 0
    rw [Int.mul_zero]
    omega
  · show (f 9).toInt + (f 10).toInt < (f 2).toInt - (f 1).toInt + 1
    omega
theorem RI.rfd {f : Nat → Int32} {d : Nat} {M : Int} (h : RI f d M) (hf : 1 ≤ (f 4).toInt) (hM : M < 2000000000) : RI (rfF f) d M := by
  obtain ⟨⟨h1, h2, h3, h4⟩, h5, h6, h7⟩ := h
  have hn := fd_0 (d := d) hf
  have e8 : (rfF f 8).toInt = (f 8).toInt + (f 7).toInt := addT (a := f 8) (b := f 7) (by omega) (by omega)
  refine ⟨⟨h1, by show 0 ≤ (0 : Int32).toInt; decide, by rw [e8]; omega, h4⟩, ?_, h6, h7⟩
  rw [e8]
  show (f 5).toInt = (f 6).toInt + (0 : Int32).toInt + _ + (f 4).toInt * (d : Int)
  rw [tl_0]
  omega
theorem RI.bg {f : Nat → Int32} {x nf a b dr : Int32} {d : Nat} {M : Int} (hf : 1 ≤ nf.toInt ∧ nf.toInt ≤ 500) (hd : b.toInt - a.toInt + 1 = d) (h30 : d ≤ 30) (ha : 0 ≤ a.toInt ∧ b.toInt ≤ 181) (hM : 15000 ≤ M) : RI (bgF f x nf a b dr) d M := by
  have t1 : (b - a).toInt = b.toInt - a.toInt := subT (by omega) (by omega)
  have t2 : (b - a + 1).toInt = (d : Int) := by rw [addT (by rw [t1, tl_1]; omega) (by rw [t1, tl_1]; omega), t1, tl_1, hd]
  have m1 : nf.toInt * (d : Int) ≤ 500 * d := Int.mul_le_mul_of_nonneg_right hf.2 (by omega)
  have m2 := fd_0 (d := d) hf.1
  have t3 : (nf * (b - a + 1)).toInt = nf.toInt * (d : Int) := by rw [mulT (by rw [t2]; omega) (by rw [t2]; omega), t2]
  refine ⟨⟨by show 0 ≤ (0 : Int32).toInt; decide, by show 0 ≤ (0 : Int32).toInt; decide, by show 0 ≤ (0 : Int32).toInt; decide, ?_⟩, ?_, fun _ => ?_, fun q => absurd (show (0 : Int32) = 0 from rfl) q⟩
  · show (nf * (b - a + 1)).toInt ≤ M
    rw [t3]; omega
  · show (nf * (b - a + 1)).toInt = (0 : Int32).toInt + (0 : Int32).toInt + (0 : Int32).toInt + nf.toInt * (d : Int)
    rw [t3, tl_0]; omega
  · show (0 : Int32).toInt + (0 : Int32).toInt + (d : Int) = b.toInt - a.toInt + 1
    rw [tl_0]; omega
/-- what it says of the numbers as the machine adds them -/
theorem RI.i32 {f : Nat → Int32} {d : Nat} {M : Int} (h : RI f d M) (hd : d < 2 ^ 31) : f 5 = f 6 + f 7 + f 8 + f 4 * nI d := by
  have e := h.2.1
  have k := tn hd
  have h1 : Int32.ofInt (f 5).toInt = Int32.ofInt ((f 6).toInt + (f 7).toInt + (f 8).toInt + (f 4).toInt * (nI d).toInt) := by rw [k]; exact congrArg Int32.ofInt e
  rw [Int32.ofInt_add, Int32.ofInt_add, Int32.ofInt_add, Int32.ofInt_mul] at h1
  simpa only [Int32.ofInt_toInt] using h1
