theorem pm_in {s : Sv} {B : Int} (hW : WF s B) {p : Nat} (hp : p < npN s) : 0 ≤ nI p ∧ nI p < s 3 := by
  have hnp := hW.np
  refine ⟨?_, ?_⟩
  · rw [ie, tn (by omega), tl_0]; omega
  · rw [il, hnp.1, tn (by omega), tn (by omega)]; omega
theorem pm_k {s : Sv} {B : Int} (hW : WF s B) {p k : Nat} (hp : p < npN s) (hk : k < 11) : anPermit s (nI p) (nI k) = pf s p k := by
  have hnp := hW.np
  refine (cif_t (pm_in hW hp)).trans ?_
  · unfold prI
    rw [tn (by omega), if_neg (by omega), if_neg (fun q => by rw [iq, tn (by omega), tl_11] at q; omega), if_neg (fun q => by rw [iq, tn (by omega), tl_12] at q; omega), nt_nI (by omega)]
    show pf s p (nI k).toNatClampNeg = _
    rw [nI_clamp (by omega)]
theorem pm_11 {s : Sv} {B : Int} (hW : WF s B) {p : Nat} (hp : p < npN s) : anPermit s (nI p) 11 = dtc s p := by
  have hnp := hW.np
  refine (cif_t (pm_in hW hp)).trans ?_
  · rw [nt_nI (by omega)]
    unfold prI
    rw [if_neg (by decide), if_pos rfl]
    rfl
theorem pm_12 {s : Sv} {B : Int} (hW : WF s B) {p : Nat} (hp : p < npN s) : anPermit s (nI p) 12 = pf s p 11 := by
  have hnp := hW.np
  refine (cif_t (pm_in hW hp)).trans ?_
  · rw [nt_nI (by omega)]
    unfold prI
    rw [if_neg (by decide), if_neg (by decide), if_pos rfl]
    rfl
theorem rm_in {s : Sv} {B : Int} (hW : WF s B) {r : Nat} (hr : r < nrN s) : 0 ≤ nI r ∧ nI r < s 2 := by
  have hnr := hW.nr
  refine ⟨?_, ?_⟩
  · rw [ie, tn (by omega), tl_0]; omega
  · rw [il, hnr.1, tn (by omega), tn (by omega)]; omega
theorem rm_0 {s : Sv} {B : Int} (hW : WF s B) {r : Nat} (hr : r < nrN s) : anRamp s (nI r) 0 = rf s r 0 := by
  have hnr := hW.nr
  refine (cif_t (rm_in hW hr)).trans ((cif_t (by decide)).trans ?_)
  rw [nt_nI (by omega)]
  rfl
theorem rm_1 {s : Sv} {B : Int} (hW : WF s B) {r : Nat} (hr : r < nrN s) : anRamp s (nI r) 1 = rf s r 1 := by
  have hnr := hW.nr
  refine (cif_t (rm_in hW hr)).trans ((cif_t (by decide)).trans ?_)
  rw [nt_nI (by omega)]
  rfl
theorem rm_3 {s : Sv} {B : Int} (hW : WF s B) {r : Nat} (hr : r < nrN s) : anRamp s (nI r) 3 = nI (cTo s (nI r) (npN s)) := (cif_t (rm_in hW hr)).trans ((cif_f (by decide)).trans (cif_t rfl))
theorem rm_4 {s : Sv} {B : Int} (hW : WF s B) {r : Nat} (hr : r < nrN s) : anRamp s (nI r) 4 = nI (cOn s (nI r) (tN s) (npN s)) := (cif_t (rm_in hW hr)).trans ((cif_f (by decide)).trans ((cif_f (by decide)).trans (cif_t rfl)))
/-- a permit's numbers as the tests of the law need them -/
theorem pe_all {s : Sv} {B M : Int} (hW : WF s B) (hI : IV s M) {p : Nat} (hp : p < npN s) : ∃ d len u l : Nat, dtc s p = nI d ∧ d ≤ 30 ∧ pf s p 2 - pf s p 1 + 1 = nI len ∧ 1 ≤ len ∧ len ≤ 30 ∧ pf s p 9 = nI u ∧ pf s p 10 = nI l ∧ (pf s p 11 = 0 → u + l + d = len) ∧ (¬ pf s p 11 = 0 → d = 0 ∧ u + l < len) ∧ pf s p 5 = pf s p 6 + pf s p 7 + pf s p 8 + pf s p 4 * nI d ∧ clN s p (laN s p + 1) ≤ d ∧ 0 ≤ (pf s p 5).toInt ∧ 0 ≤ (pf s p 6).toInt ∧ 0 ≤ (pf s p 7).toInt ∧ 0 ≤ (pf s p 8).toInt := by
  obtain ⟨e, hd, hc⟩ := dtc_N hW hp
  obtain ⟨g1, g2, g3, g4, -, -, g7⟩ := hW.pl hp
  have w := hW.pm hp
  obtain ⟨w9, w10, -⟩ := w.2.2.2.2.2.1
  have hR := hI.1 p hp
  obtain ⟨⟨h1, h2, h3, h4⟩, h5, h6, h7⟩ := id hR
  have hn := fd_0 (d := dN s p) (a := (pf s p 4).toInt) w.2.2.2.1.1
  have t1 : (pf s p 1).toInt = fiN s p := by rw [g1, tn (by omega)]
  have t2 : (pf s p 2).toInt = laN s p := by rw [g2, tn (by omega)]
  have u9 : pf s p 9 = nI (pf s p 9).toInt.toNat := ofNI w9
  have u10 : pf s p 10 = nI (pf s p 10).toInt.toNat := ofNI w10
  refine ⟨dN s p, laN s p - fiN s p + 1, (pf s p 9).toInt.toNat, (pf s p 10).toInt.toNat, e, hd, ?_, by omega, by omega, u9, u10, fun q => ?_, fun q => ?_, hR.i32 (by omega), hc, ?_, h1, h2, h3⟩
  · rw [g1, g2, pk_sub g3, nI_1]
  · have q6 : (pf s p 9).toInt + (pf s p 10).toInt + (dN s p : Int) = (pf s p 2).toInt - (pf s p 1).toInt + 1 := h6 q
    omega
  · have q7 : dN s p = 0 ∧ (pf s p 9).toInt + (pf s p 10).toInt < (pf s p 2).toInt - (pf s p 1).toInt + 1 := h7 q
    omega
  · have q5 : (pf s p 5).toInt = (pf s p 6).toInt + (pf s p 7).toInt + (pf s p 8).toInt + (pf s p 4).toInt * (dN s p : Int) := h5
    have a1 : 0 ≤ (pf s p 6).toInt := h1
    have a2 : 0 ≤ (pf s p 7).toInt := h2
    have a3 : 0 ≤ (pf s p 8).toInt := h3
    omega
theorem sum5 {s : Sv} {B M : Int} (hW : WF s B) (hI : IV s M) : ∀ n, n ≤ npN s → sumN (fun p => pf s p 5) n = sumN (fun p => pf s p 6) n + sumN (fun p => pf s p 7) n + sumN (fun p => pf s p 8) n + sumN (fun p => pf s p 4 * dtc s p) n
  | 0, _ => rfl
  | n + 1, h => by
    have ih := sum5 hW hI n (by omega)
    obtain ⟨d, -, -, -, e, -, -, -, -, -, -, -, -, e5, -⟩ := pe_all hW hI (show n < npN s by omega)
    show sumN (fun p => pf s p 5) n + pf s n 5 = (sumN (fun p => pf s p 6) n + pf s n 6) + (sumN (fun p => pf s p 7) n + pf s n 7) + (sumN (fun p => pf s p 8) n + pf s n 8) + (sumN (fun p => pf s p 4 * dtc s p) n + pf s n 4 * dtc s n)
    rw [ih, e5, e]
    ac_rfl
theorem on_to {s : Sv} {B : Int} (hW : WF s B) (x : Int32) : cOn s x (tN s) (npN s) ≤ cTo s x (npN s) := by
  refine cntN_sub _ (fun p hp q => ⟨q.1, ?_⟩)
  have ht := hW.t
  have q2 := (cms_iff hW hp (by omega)).mp q.2
  rcases dtc_cases hW hp with ⟨-, h | h⟩ | ⟨-, -, h1, h2⟩
  · rw [q2.1] at h; exact absurd h (by decide)
  · omega
  · have hf := hW.pl hp
    rw [h2, il, tl_0, tn (by omega)]
    omega
theorem pt_1 : ∀ t, t < 31 → ∀ u, u < t + 1 → 1 ≤ t → (0 ≤ (FP.f2i (FP.fdiv (FP.fmul fK (FP.i2f (nI u))) (FP.i2f (nI t)))).toInt ∧ (FP.f2i (FP.fdiv (FP.fmul fK (FP.i2f (nI u))) (FP.i2f (nI t)))).toInt ≤ 1000 ∧ ((FP.f2i (FP.fdiv (FP.fmul fK (FP.i2f (nI u))) (FP.i2f (nI t)))).toInt = 1000 ↔ u = t)) := by decide +kernel
