theorem dN_f {s : Sv} {p fi la t : Nat} (e1 : pf s p 1 = nI fi) (e2 : pf s p 2 = nI la) (h0 : pf s p 11 = 0) (e0 : s 0 = nI t) (b1 : fi ≤ 181) (b2 : la ≤ 181) (b0 : t ≤ 182) : dN s p = la + 1 - (if fi < t then t else fi) := by
  unfold dN dtc dtcI
  have em : (if s 0 < pf s p 1 then pf s p 1 else s 0) = nI (if fi < t then t else fi) := by
    rw [e0, e1]
    by_cases q : fi < t
    · rw [if_pos q, if_neg (nI_nlt (by omega) (by omega))]
    · rw [if_neg q]
      by_cases q2 : t < fi
      · rw [if_pos (nI_lt q2 (by omega))]
      · rw [if_neg (nI_nlt (by omega) (by omega)), show t = fi by omega]
  rw [if_neg (by rw [h0]; decide), em, e2]
  have hm : (if fi < t then t else fi) ≤ 182 := by split <;> omega
  by_cases hl : la < (if fi < t then t else fi)
  · rw [if_pos (nI_lt hl (by omega)), tl_0]
    omega
  · rw [if_neg (nI_nlt (by omega) (by omega)), pk_sub (by omega), nI_1, tn (by omega)]
    omega
theorem iv_pass {s : Sv} {M B : Int} (hW : WF s B) (hI : IV s M) (hM : M < 2000000000) {c : Int32} (h : cdPass s c = 0) : IV (nxPass s c) M ∧ tN (nxPass s c) = tN s + 1 ∧ nrN (nxPass s c) = nrN s := by
  obtain ⟨-, h1⟩ := cd_ok h (by decide)
  obtain ⟨h1, -⟩ := cd_ok' h1 (by decide)
  rw [iq, tl_181] at h1
  have ht := hW.t
  have b1 := hW.1
  have hnr := hW.nr.2
  have lo : ∀ m, m < 49 → m ≠ 0 → m ≠ 1 → nxPass s c m = s m := fun m hm h0 h1 => by
    unfold nxPass
    rw [upd_n _ _ h0, upd_n _ _ h1, psS_lo _ _ _ hm]
  have e0 : nxPass s c 0 = nI (tN s + 1) := by
    unfold nxPass
    rw [upd_s, ht.1, nI_1]
  have t0 : tN (nxPass s c) = tN s + 1 := by
    show (nxPass s c 0).toInt.toNat = _
    rw [e0, tn (by omega)]
    omega
  have e2 : nrN (nxPass s c) = nrN s := by unfold nrN; rw [lo 2 (by decide) (by decide) (by decide)]
  have e3 : npN (nxPass s c) = npN s := by unfold npN; rw [lo 3 (by decide) (by decide) (by decide)]
  have hq : ∀ p j, p < npN s → j < 12 → pf (nxPass s c) p j = cif (cms s p (tN s)) ((cif (opn s (rrN s p) (pf s p 3) (s 1)) (usF (prw s p)) (loF (prw s p))) j) (pf s p j) := fun p j hp hj => by
    have q := psS_pf (s := s) (npN s) p j hj
    have e : pf (nxPass s c) p j = pf (psS s (npN s)) p j := by
      unfold nxPass
      rw [upd_pf _ _ _ (by decide), upd_pf _ _ _ (by decide)]
    rw [e, q]
    by_cases hc : cms s p (tN s)
    · rw [cif_t hc, cif_t ⟨hp, hc⟩]
    · rw [cif_f hc, cif_f (fun z => hc z.2)]
  have hs : ∀ p j, p < npN s → (j = 0 ∨ j = 1 ∨ j = 2 ∨ j = 11) → pf (nxPass s c) p j = pf s p j := fun p j hp hj => by
    rw [hq p j hp (by omega)]
    by_cases hc : cms s p (tN s)
    · rw [cif_t hc]
      by_cases ho : opn s (rrN s p) (pf s p 3) (s 1)
      · rw [cif_t ho]
        rcases hj with rfl | rfl | rfl | rfl <;> rfl
      · rw [cif_f ho]
        rcases hj with rfl | rfl | rfl | rfl <;> rfl
    · rw [cif_f hc]
  refine ⟨⟨fun p hp => ?_, fun r D hr t1 t2 => ?_⟩, t0, e2⟩
  · rw [e3] at hp
    obtain ⟨g1, g2, g3, g4, -⟩ := hW.pl hp
    have hf := ftc_t s p
    have hR := hI.1 p hp
    have hWr := WP_r (hW.pm hp)
    by_cases hc : cms s p (tN s)
    · have q := (cms_iff hW hp (by omega)).mp hc
      have d1 := dN_f (s := s) (p := p) g1 g2 q.1 ht.1 (by omega) g4 (by omega)
      have d2 := dN_f (s := nxPass s c) (p := p) ((hs p 1 hp (by omega)).trans g1) ((hs p 2 hp (by omega)).trans g2) ((hs p 11 hp (by omega)).trans q.1) e0 (by omega) g4 (by omega)
      have hd : dN s p = dN (nxPass s c) p + 1 := by
        rw [d1, d2]
        split <;> split <;> omega
      rw [hd] at hR
      by_cases ho : opn s (rrN s p) (pf s p 3) (s 1)
      · refine (RI.us hR hWr q.1 hM).congr (fun j hj => ?_)
        show pf (nxPass s c) p j = _
        rw [hq p j hp hj, cif_t hc, cif_t ho]
      · refine (RI.lo hR hWr q.1 hM).congr (fun j hj => ?_)
        show pf (nxPass s c) p j = _
        rw [hq p j hp hj, cif_t hc, cif_f ho]
    · have hd : dN (nxPass s c) p = dN s p := by
        rcases hW.c01 hp with h0 | h0
        · have d1 := dN_f (s := s) (p := p) g1 g2 h0 ht.1 (by omega) g4 (by omega)
          have d2 := dN_f (s := nxPass s c) (p := p) ((hs p 1 hp (by omega)).trans g1) ((hs p 2 hp (by omega)).trans g2) ((hs p 11 hp (by omega)).trans h0) e0 (by omega) g4 (by omega)
          have q : ¬ (ftc s p ≤ tN s ∧ tN s ≤ laN s p) := fun z => hc ((cms_iff hW hp (by omega)).mpr ⟨h0, z⟩)
          rw [d1, d2]
          split <;> split <;> omega
        · rw [dN_c1 h0, dN_c1 ((hs p 11 hp (by omega)).trans h0)]
      rw [hd]
      refine hR.congr (fun j hj => ?_)
      show pf (nxPass s c) p j = pf s p j
      rw [hq p j hp hj, cif_f hc]
  · rw [e2] at hr
    rw [t0] at t1
    rw [e3, show rf (nxPass s c) r 1 = rf s r 1 from lo _ (by omega) (by omega) (by omega)]
    have hcm : ∀ p, p < npN s → (cms (nxPass s c) p D ↔ cms s p D) := fun p hp => by
      unfold cms cmsP
      rw [hs p 1 hp (by omega), hs p 2 hp (by omega), hs p 11 hp (by omega), e0, ht.1]
      have a1 : nI (tN s + 1) ≤ nI D := nI_le t1 (by omega)
      have a2 : nI (tN s) ≤ nI D := nI_le (by omega) (by omega)
      exact ⟨fun z => ⟨z.1, a2, z.2.2⟩, fun z => ⟨z.1, a1, z.2.2⟩⟩
    rw [show cOn (nxPass s c) (nI r) D (npN s) = cOn s (nI r) D (npN s) from cntN_c _ (fun p hp => by rw [hs p 0 hp (by omega), hcm p hp])]
    exact hI.2 r D hr (by omega) t2
theorem sumN_one {f g : Nat → Int32} {p : Nat} {x : Int32} (h : g p = f p + x) (h2 : ∀ q, q ≠ p → g q = f q) : ∀ n, p < n → sumN g n = sumN f n + x
  | 0, hp => absurd hp (Nat.not_lt_zero p)
  | n + 1, hp => by
    show sumN g n + g n = sumN f n + f n + x
    by_cases hn : n = p
    · subst hn
      rw [h, sumN_c n (fun i hi => h2 i (by omega)), Int32.add_assoc]
    · rw [sumN_one h h2 n (by omega), h2 n hn, Int32.add_assoc, Int32.add_comm x, ← Int32.add_assoc]
theorem mo_k (s : Sv) {k : Nat} (hk : k < 4) : anMoney s (nI k) = sumN (fun p => pf s p (5 + k)) (npN s) := by
  refine (cif_t ?_).trans ?_
  · rw [ie, ie, tn (by omega), tl_0, tl_3]
    omega
  · rw [nt_nI (by omega)]
theorem mo_2 (s : Sv) : anMoney s 2 = sumN (fun p => pf s p 7) (npN s) := mo_k s (k := 2) (by decide)
theorem mo_4 (s : Sv) : anMoney s 4 = sumN (fun p => pf s p 4 * dtc s p) (npN s) := (cif_f (by decide)).trans (cif_t rfl)
theorem mo_5 (s : Sv) : anMoney s 5 = s 10 := (cif_f (by decide)).trans ((cif_f (by decide)).trans (cif_t rfl))
theorem mo_row {s : Sv} {B : Int} (hW : WF s B) {p : Nat} (hp : p < npN s) {f : Nat → Int32} {x : Int32} (h : f 7 = pf s p 7 + x) : anMoney (prow s p f) 2 = anMoney s 2 + x := by
  rw [mo_2, mo_2, show npN (prow s p f) = npN s by unfold npN; rw [prow_lo _ _ _ _ (by decide)]]
  refine sumN_one (p := p) ?_ (fun q hq => ?_) _ hp
  · show pf (prow s p f) p 7 = _
    rw [prow_pf _ _ _ (by decide), if_pos rfl]
    exact h
  · show pf (prow s p f) q 7 = _
    rw [prow_pf _ _ _ (by decide), if_neg hq]
theorem mo_cancel {s : Sv} {B : Int} (hW : WF s B) {x : Int32} (h : cdCancel s x = 0) : anMoney (nxCancel s x) 2 = anMoney s 2 + anCancel s x := by
  obtain ⟨h1, -⟩ := cd_ok h (by decide)
  obtain ⟨p, hxp, hp⟩ := hW.pix h1
  have hnp := hW.np.2
  have hx : nt x = p := by rw [hxp, nt_nI (by omega)]
  unfold nxCancel anCancel
  rw [hx]
  refine mo_row hW hp ?_
  unfold cnF
  rw [upd_n _ _ (by decide), upd_n _ _ (by decide), upd_s]
  rfl
theorem mo_refund {s : Sv} {B : Int} (hW : WF s B) {x : Int32} (h : cdRefund s x = 0) : anMoney (nxRefund s x) 2 = anMoney s 2 - pf s (nt x) 7 := by
  obtain ⟨h1, -⟩ := cd_ok h (by decide)
  obtain ⟨p, hxp, hp⟩ := hW.pix h1
  have hnp := hW.np.2
  have hx : nt x = p := by rw [hxp, nt_nI (by omega)]
  unfold nxRefund
  rw [hx, Int32.sub_eq_add_neg]
  refine mo_row hW hp ?_
  rw [← Int32.sub_eq_add_neg, Int32.sub_self]
  rfl
theorem mo_launch (s : Sv) (x d q : Int32) : anMoney (nxLaunch s x d q) 5 = anMoney s 5 + anLaunch s x d q := by
  rw [mo_5, mo_5]
  unfold nxLaunch anLaunch
  by_cases h0 : rsn s (nt x) d q = 0
  · rw [cif_t h0, cif_t h0, Int32.add_zero]
  · rw [cif_f h0, cif_f h0, upd_s]
