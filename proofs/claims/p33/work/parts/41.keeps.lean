def IV (s : Sv) (M : Int) : Prop := (∀ p, p < npN s → RI (prw s p) (dN s p) M) ∧ (∀ r D : Nat, r < nrN s → tN s ≤ D → D ≤ 181 → ((cOn s (nI r) D (npN s) : Nat) : Int) ≤ (rf s r 1).toInt)
theorem dtc_e {s s' : Sv} {p q : Nat} (e0 : s' 0 = s 0) (e1 : pf s' q 1 = pf s p 1) (e2 : pf s' q 2 = pf s p 2) (e11 : pf s' q 11 = pf s p 11) : dtc s' q = dtc s p := by
  unfold dtc
  rw [e0, e1, e2, e11]
theorem dN_e {s s' : Sv} {p q : Nat} (e : dtc s' q = dtc s p) : dN s' q = dN s p := by
  unfold dN
  rw [e]
theorem cms_e {s s' : Sv} {p q : Nat} (e0 : s' 0 = s 0) (e1 : pf s' q 1 = pf s p 1) (e2 : pf s' q 2 = pf s p 2) (e11 : pf s' q 11 = pf s p 11) (D : Nat) : cms s' q D = cms s p D := by
  unfold cms
  rw [e0, e1, e2, e11]
theorem cntN_sub {P Q : Nat → Prop} : ∀ n, (∀ i, i < n → Q i → P i) → cntN Q n ≤ cntN P n
  | 0, _ => Nat.le_refl 0
  | n + 1, h => by
    have ih := cntN_sub (P := P) (Q := Q) n (fun i hi => h i (by omega))
    by_cases hq : Q n
    · rw [cntN_t hq, cntN_t (h n (by omega) hq)]; omega
    · rw [cntN_f hq]
      by_cases hp : P n
      · rw [cntN_t hp]; omega
      · rw [cntN_f hp]; exact ih
theorem cntN_up1 {P Q : Nat → Prop} {p : Nat} (h : ∀ i, i ≠ p → Q i → P i) : ∀ n, cntN Q n ≤ cntN P n + 1
  | 0 => Nat.zero_le _
  | n + 1 => by
    by_cases hn : n = p
    · have h1 := cntN_sub (P := P) (Q := Q) n (fun i hi => h i (by omega))
      have h2 : cntN Q (n + 1) ≤ cntN Q n + 1 := by
        by_cases hq : Q n
        · rw [cntN_t hq]; omega
        · rw [cntN_f hq]; omega
      have h3 : cntN P n ≤ cntN P (n + 1) := by
        by_cases hp : P n
        · rw [cntN_t hp]; omega
        · rw [cntN_f hp]; omega
      omega
    · have ih := cntN_up1 (P := P) (Q := Q) h n
      by_cases hq : Q n
      · rw [cntN_t hq, cntN_t (h n hn hq)]; omega
      · rw [cntN_f hq]
        by_cases hp : P n
        · rw [cntN_t hp]; omega
        · rw [cntN_f hp]; exact ih
theorem IV.mono {s : Sv} {M M' : Int} (h : IV s M) (hM : M ≤ M') : IV s M' := ⟨fun p hp => (h.1 p hp).mono hM, h.2⟩
theorem IV.same {s s' : Sv} {M : Int} (h : IV s M) (e0 : s' 0 = s 0) (e2 : s' 2 = s 2) (e3 : s' 3 = s 3) (ep : ∀ p j, p < npN s → j < 12 → pf s' p j = pf s p j) (er : ∀ r, r < nrN s → rf s' r 1 = rf s r 1) : IV s' M := by
  have t0 : tN s' = tN s := by unfold tN; rw [e0]
  have t2 : nrN s' = nrN s := by unfold nrN; rw [e2]
  have t3 : npN s' = npN s := by unfold npN; rw [e3]
  refine ⟨fun p hp => ?_, fun r D hr h1 h2 => ?_⟩
  · rw [t3] at hp
    rw [dN_e (dtc_e e0 (ep p 1 hp (by decide)) (ep p 2 hp (by decide)) (ep p 11 hp (by decide)))]
    exact (h.1 p hp).congr (fun j hj => ep p j hp hj)
  · rw [t2] at hr
    rw [t0] at h1
    rw [t3, er r hr, show cOn s' (nI r) D (npN s) = cOn s (nI r) D (npN s) from cntN_c _ (fun i hi => by rw [cms_e e0 (ep i 1 hi (by decide)) (ep i 2 hi (by decide)) (ep i 11 hi (by decide)) D, ep i 0 hi (by decide)])]
    exact h.2 r D hr h1 h2
/-- one permit's row changes -/
theorem IV.row {s : Sv} {M M' B : Int} {p : Nat} {f : Nat → Int32} (hW : WF s B) (hI : IV s M) (hM : M ≤ M') (hr : RI f (dN (prow s p f) p) M') (hc : ∀ r D : Nat, r < nrN s → tN s ≤ D → D ≤ 181 → ((cOn (prow s p f) (nI r) D (npN s) : Nat) : Int) ≤ (rf s r 1).toInt) : IV (prow s p f) M' := by
  have lo : ∀ m, m < 49 → prow s p f m = s m := fun m hm => prow_lo s p m f hm
  have t0 : tN (prow s p f) = tN s := by unfold tN; rw [lo 0 (by decide)]
  have t2 : nrN (prow s p f) = nrN s := by unfold nrN; rw [lo 2 (by decide)]
  have t3 : npN (prow s p f) = npN s := by unfold npN; rw [lo 3 (by decide)]
  have hn := hW.nr.2
  refine ⟨fun q hq => ?_, fun r D hr' h1 h2 => ?_⟩
  · rw [t3] at hq
    by_cases hqp : q = p
    · subst hqp
      exact hr.congr (fun j hj => by
        show pf (prow s q f) q j = f j
        rw [prow_pf _ _ _ hj, if_pos rfl])
    · have e : ∀ j, j < 12 → pf (prow s p f) q j = pf s q j := fun j hj => by rw [prow_pf _ _ _ hj, if_neg hqp]
      rw [dN_e (dtc_e (lo 0 (by decide)) (e 1 (by decide)) (e 2 (by decide)) (e 11 (by decide)))]
      exact ((hI.1 q hq).congr (fun j hj => e j hj)).mono hM
  · rw [t2] at hr'
    rw [t0] at h1
    rw [t3, show rf (prow s p f) r 1 = rf s r 1 from lo _ (by omega)]
    exact hc r D hr' h1 h2
/-- counts on a day do not grow where the row that changes comes on no more days on its ramp -/
theorem cOn_sub {s : Sv} {p : Nat} {f : Nat → Int32} {x : Int32} {D n : Nat} (h : f 0 = x → cms (prow s p f) p D → pf s p 0 = x ∧ cms s p D) : cOn (prow s p f) x D n ≤ cOn s x D n := by
  refine cntN_sub n (fun i _ q => ?_)
  by_cases hi : i = p
  · subst hi
    have q1 := q.1
    rw [prow_pf _ _ _ (by decide), if_pos rfl] at q1
    exact h q1 q.2
  · have e : ∀ j, j < 12 → pf (prow s p f) i j = pf s i j := fun j hj => by rw [prow_pf _ _ _ hj, if_neg hi]
    rw [cms_e (prow_lo s p 0 f (by decide)) (e 1 (by decide)) (e 2 (by decide)) (e 11 (by decide)), e 0 (by decide)] at q
    exact q
theorem cOn_up1 {s : Sv} {p : Nat} {f : Nat → Int32} {x : Int32} {D n : Nat} : cOn (prow s p f) x D n ≤ cOn s x D n + 1 := by
  refine cntN_up1 (p := p) (fun i hi q => ?_) n
  have e : ∀ j, j < 12 → pf (prow s p f) i j = pf s i j := fun j hj => by rw [prow_pf _ _ _ hj, if_neg hi]
  rw [cms_e (prow_lo s p 0 f (by decide)) (e 1 (by decide)) (e 2 (by decide)) (e 11 (by decide)), e 0 (by decide)] at q
  exact q
theorem fit_lt {s : Sv} {B : Int} (hW : WF s B) {r a b D : Nat} {dr : Int32} (h : fitP s r a b dr) (h1 : a ≤ D) (h2 : D ≤ b) : ((cOn s (nI r) D (npN s) : Nat) : Int) < (rf s r 1).toInt := by
  have q := (h D h1 h2).2
  have hn := hW.np.2
  have hc : cOn s (nI r) D (npN s) ≤ npN s := cntN_le _ _
  rw [il, tn (by omega)] at q
  exact q
theorem dN_c1 {s : Sv} {p : Nat} (h : pf s p 11 = 1) : dN s p = 0 := by
  unfold dN dtc dtcI
  rw [h, if_pos (by decide)]
  rfl
theorem iv_refund {s : Sv} {M B : Int} (hW : WF s B) (hI : IV s M) (hM : M < 2000000000) {x : Int32} (h : cdRefund s x = 0) : IV (nxRefund s x) M := by
  obtain ⟨h1, -⟩ := cd_ok h (by decide)
  obtain ⟨p, hxp, hp⟩ := hW.pix h1
  have hnp := hW.np.2
  have hx : nt x = p := by rw [hxp, nt_nI (by omega)]
  unfold nxRefund
  rw [hx]
  have e : ∀ j, j = 0 ∨ j = 1 ∨ j = 2 ∨ j = 11 → pf (prow s p (rfF (prw s p))) p j = pf s p j := fun j hj => by
    rw [prow_pf _ _ _ (by omega), if_pos rfl]
    rcases hj with rfl | rfl | rfl | rfl <;> rfl
  have l0 := prow_lo s p 0 (rfF (prw s p)) (by decide)
  refine IV.row hW hI (Int.le_refl M) ?_ (fun r D hr t1 t2 => ?_)
  · rw [dN_e (dtc_e l0 (e 1 (by omega)) (e 2 (by omega)) (e 11 (by omega)))]
    exact (hI.1 p hp).rfd (hW.pm hp).2.2.2.1.1 hM
  · refine Int.le_trans ?_ (hI.2 r D hr t1 t2)
    refine Int.ofNat_le.mpr (cOn_sub (fun q1 q2 => ⟨q1, ?_⟩))
    rw [cms_e l0 (e 1 (by omega)) (e 2 (by omega)) (e 11 (by omega))] at q2
    exact q2
theorem iv_cancel {s : Sv} {M B : Int} (hW : WF s B) (hI : IV s M) (hM : M < 2000000000) {x : Int32} (h : cdCancel s x = 0) : IV (nxCancel s x) M := by
  obtain ⟨h1, h2⟩ := cd_ok h (by decide)
  obtain ⟨h2, -⟩ := cd_ok' h2 (by decide)
  obtain ⟨p, hxp, hp⟩ := hW.pix h1
  have hnp := hW.np.2
  have hx : nt x = p := by rw [hxp, nt_nI (by omega)]
  rw [hx] at h2
  obtain ⟨e, hd, hcl⟩ := dtc_N hW hp
  have h0 := ((dtc_cases hW hp).resolve_left (fun q => h2 q.1)).2.1
  have hd0 : 0 < dN s p := by
    rcases Nat.eq_zero_or_pos (dN s p) with q | q
    · rw [q] at e; exact absurd e h2
    · exact q
  unfold nxCancel clI
  rw [hx, e, pk_sub hcl]
  have e11 : pf (prow s p (cnF (prw s p) (nI (dN s p - clN s p (laN s p + 1))) (nI (clN s p (laN s p + 1))))) p 11 = 1 := by
    rw [prow_pf _ _ _ (by decide), if_pos rfl]; rfl
  refine IV.row hW hI (Int.le_refl M) ?_ (fun r D hr t1 t2 => ?_)
  · rw [dN_c1 e11]
    have hR := hI.1 p hp
    rw [show dN s p = dN s p - clN s p (laN s p + 1) + clN s p (laN s p + 1) by omega] at hR
    exact RI.cn hR (WP_r (hW.pm hp)) h0 (by omega) (by omega) hM
  · refine Int.le_trans ?_ (hI.2 r D hr t1 t2)
    refine Int.ofNat_le.mpr (cOn_sub (fun q1 q2 => ?_))
    have q3 := q2.1
    rw [e11] at q3
    exact absurd q3 (by decide)
theorem mvD_i {s : Sv} {B : Int} (hW : WF s B) {p r : Nat} (hp : p < npN s) (hr : r < nrN s) {x y : Int32} (hx : nt x = p) (hy : nt y = r) : (mvD s x y).toInt = ((rf s r 2).toInt - (pf s p 4).toInt) * (dN s p : Int) := by
  have h1 := (hW.rm hr).2.2
  have h2 := (hW.pm hp).2.2.2.1
  obtain ⟨e, hd, -⟩ := dtc_N hW hp
  unfold mvD
  rw [hx, hy]
  have es : (rf s r 2 - pf s p 4).toInt = (rf s r 2).toInt - (pf s p 4).toInt := subT (by omega) (by omega)
  have q := mulB (a := (rf s r 2).toInt - (pf s p 4).toInt) (d := dN s p) (M := 30) (K := 499) (by omega) (by omega) hd
  rw [e, mulT (by rw [es, tn (by omega)]; omega) (by rw [es, tn (by omega)]; omega), es, tn (by omega)]
theorem iv_move {s : Sv} {M B : Int} (hW : WF s B) (hI : IV s M) (hM : M + 15000 < 2000000000) {x y : Int32} (h : cdMove s x y = 0) : IV (nxMove s x y) (M + 15000) := by
  obtain ⟨⟨h1, h2⟩, h3⟩ := cd_ok h (by decide)
  obtain ⟨⟨h3, h4, h5⟩, -⟩ := cd_ok h3 (by decide)
  obtain ⟨p, hxp, hp⟩ := hW.pix h1
  obtain ⟨r, hyr, hr⟩ := hW.rix h2
  have hnr := hW.nr.2
  have hnp := hW.np.2
  have hx : nt x = p := by rw [hxp, nt_nI (by omega)]
  have hy : nt y = r := by rw [hyr, nt_nI (by omega)]
  have hd := mvD_b hW hp hr hx hy
  have hi := mvD_i hW hp hr hx hy
  rw [hx, hy] at h5
  unfold nxMove
  rw [hx, hy]
  have fo : ∀ j, j = 1 ∨ j = 2 ∨ j = 11 → pf (prow s p (mvF (prw s p) y (rf s r 2) (mvD s x y))) p j = pf s p j := fun j hj => by
    rw [prow_pf _ _ _ (by omega), if_pos rfl]
    unfold mvF
    rw [upd_n _ _ (by omega), upd_n _ _ (by omega)]
    split
    · rw [upd_n _ _ (by omega)]; rfl
    · rw [upd_n _ _ (by omega)]; rfl
  have l0 := prow_lo s p 0 (mvF (prw s p) y (rf s r 2) (mvD s x y)) (by decide)
  have ec := fun D => cms_e l0 (fo 1 (by omega)) (fo 2 (by omega)) (fo 11 (by omega)) D
  refine IV.row hW hI (by omega) ?_ (fun r' D hr' t1 t2 => ?_)
  · rw [dN_e (dtc_e l0 (fo 1 (by omega)) (fo 2 (by omega)) (fo 11 (by omega)))]
    exact RI.mv (hI.1 p hp) (hW.pm hp).2.2.2.1.1 hi hd hM
  · have hq := hI.2 r' D hr' t1 t2
    by_cases hc : r' = r ∧ cms s p D
    · obtain ⟨rfl, hc⟩ := hc
      have hq2 := (cms_iff hW hp (by omega)).mp hc
      have hq3 := fit_lt hW h5 hq2.2.1 hq2.2.2
      have hq4 := cOn_up1 (s := s) (p := p) (f := mvF (prw s p) y (rf s r' 2) (mvD s x y)) (x := nI r') (D := D) (n := npN s)
      omega
    · refine Int.le_trans (Int.ofNat_le.mpr (cOn_sub (fun q1 q2 => ?_))) hq
      rw [ec D] at q2
      have q3 : y = nI r' := q1
      rw [hyr] at q3
      exact absurd ⟨((nI_eq (by omega) (by omega)).mp q3).symm, q2⟩ hc
theorem iv_put {s : Sv} {M : Int} (hI : IV s M) {m : Nat} {x : Int32} (hm : m < 37) (h0 : m ≠ 0) (h2 : m ≠ 2) (h3 : m ≠ 3) : IV (upd s m x) M :=
  hI.same (upd_n _ _ (Ne.symm h0)) (upd_n _ _ (Ne.symm h2)) (upd_n _ _ (Ne.symm h3)) (fun p j _ _ => upd_pf _ _ _ (by omega)) (fun r _ => upd_rf _ _ _ hm)
theorem iv_launch {s : Sv} {M : Int} (hI : IV s M) (x d q : Int32) : IV (nxLaunch s x d q) M := by
  unfold nxLaunch
  by_cases h0 : rsn s (nt x) d q = 0
  · rw [cif_t h0]; exact hI
  · rw [cif_f h0]
    have hi := rsn_i h0
    exact iv_put (iv_put hI (by omega) (by omega) (by omega) (by omega)) (by decide) (by decide) (by decide) (by decide)
theorem iv_fee {s : Sv} {M B : Int} (hW : WF s B) (hI : IV s M) {x f : Int32} (h : cdFee s x f = 0) : IV (upd s (37 + 3 * nt x + 2) f) M := by
  obtain ⟨⟨h1, -⟩, -⟩ := cd_ok h (by decide)
  obtain ⟨r, hxr, hr⟩ := hW.rix h1
  have hnr := hW.nr.2
  have hxn : nt x = r := by rw [hxr, nt_nI (by omega)]
  rw [hxn]
  refine hI.same (upd_n _ _ (by omega)) (upd_n _ _ (by omega)) (upd_n _ _ (by omega)) (fun p j _ _ => upd_pf _ _ _ (by omega)) (fun q hq => ?_)
  unfold rf
  exact upd_n _ _ (by omega)
theorem iv_ramp {s : Sv} {M B : Int} (hW : WF s B) (hI : IV s M) {e b f : Int32} (h : cdRamp s e b f = 0) : IV (nxRamp s e b f) M := by
  obtain ⟨⟨-, h2, -⟩, h4⟩ := cd_ok h (by decide)
  obtain ⟨h4, -⟩ := cd_ok' h4 (by decide)
  rw [ie, ie, tl_1, tl_20] at h2
  have hnr := hW.nr
  have b3 := hW.2.2.1
  rw [iq, show (4 : Int32).toInt = 4 from rfl] at h4
  have e1 : (s 2 + 1).toInt = (s 2).toInt + 1 := by rw [addT (by rw [tl_1]; omega) (by rw [tl_1]; omega), tl_1]
  have hk : nrN s < 4 := by unfold nrN; omega
  have lo : ∀ m, m ≠ 2 → (m < 37 + 3 * nrN s ∨ 37 + 3 * nrN s + 3 ≤ m) → nxRamp s e b f m = s m := fun m h2 hm => by
    unfold nxRamp
    rw [upd_n _ _ h2, upd_n _ _ (by omega), upd_n _ _ (by omega), upd_n _ _ (by omega)]
  have e2 : nrN (nxRamp s e b f) = nrN s + 1 := by
    unfold nrN nxRamp
    rw [upd_s, e1]
    omega
  have e3 : npN (nxRamp s e b f) = npN s := by unfold npN; rw [lo 3 (by decide) (by omega)]
  have e0 : tN (nxRamp s e b f) = tN s := by unfold tN; rw [lo 0 (by decide) (by omega)]
  have ep : ∀ p j, pf (nxRamp s e b f) p j = pf s p j := fun p j => by unfold pf; exact lo _ (by omega) (by omega)
  have ed : ∀ p, dtc (nxRamp s e b f) p = dtc s p := fun p => dtc_e (lo 0 (by decide) (by omega)) (ep p 1) (ep p 2) (ep p 11)
  have ec : ∀ p D, cms (nxRamp s e b f) p D = cms s p D := fun p D => cms_e (lo 0 (by decide) (by omega)) (ep p 1) (ep p 2) (ep p 11) D
  have eo : ∀ x D, cOn (nxRamp s e b f) x D (npN s) = cOn s x D (npN s) := fun x D => cntN_c _ (fun i _ => by rw [ec i D, ep i 0])
  refine ⟨fun p hp => ?_, fun r D hr t1 t2 => ?_⟩
  · rw [e3] at hp
    rw [dN_e (ed p)]
    exact (hI.1 p hp).congr (fun j _ => ep p j)
  · rw [e2] at hr
    rw [e0] at t1
    rw [e3, eo]
    by_cases hq : r = nrN s
    · rw [show cOn s (nI r) D (npN s) = 0 from cntN_0 _ (fun i hi q => by
        obtain ⟨-, -, -, -, e5, e6, -⟩ := hW.pl hi
        have q1 := q.1
        rw [e5] at q1
        have := (nI_eq (by omega) (by omega)).mp q1
        omega)]
      have eb : rf (nxRamp s e b f) r 1 = b := by
        subst hq
        unfold rf nxRamp
        rw [upd_n _ _ (by omega), upd_n _ _ (by omega), upd_s]
      rw [eb]
      omega
    · rw [show rf (nxRamp s e b f) r 1 = rf s r 1 from lo _ (by omega) (by omega)]
      exact hI.2 r D (by omega) t1 t2
theorem iv_buy {s : Sv} {M B : Int} (hW : WF s B) (hI : IV s M) (hM : 15000 ≤ M) {x a b d : Int32} (h : cdBuy s x a b d = 0) : IV (nxBuy s x a b d) M := by
  obtain ⟨⟨h1, h2, h3⟩, h4⟩ := cd_ok h (by decide)
  obtain ⟨⟨h5, h6⟩, h4⟩ := cd_ok h4 (by decide)
  obtain ⟨h4, -⟩ := cd_ok' h4 (by decide)
  obtain ⟨r, hxr, hr⟩ := hW.rix h1
  have hnr := hW.nr
  have hnp := hW.np
  have ht := hW.t
  have hxn : nt x = r := by rw [hxr, nt_nI (by omega)]
  rw [iq, show (12 : Int32).toInt = 12 from rfl] at h4
  obtain ⟨ea, eb, hab, hb⟩ := span_n h2
  have h7 := h2.2.2
  rw [ie, subT (by rw [ea, eb, tn (by omega), tn (by omega)]; omega) (by rw [ea, eb, tn (by omega), tn (by omega)]; omega), tl_29, ea, eb, tn (by omega), tn (by omega)] at h7
  have hfee := (hW.rm hr).2.2
  have h12 : npN s < 12 := by
    rw [hnp.1, tn (by omega)] at h4
    omega
  have b4 := hW.2.2.2.1
  have e1 : (s 3 + 1).toInt = (s 3).toInt + 1 := by rw [addT (by rw [tl_1]; omega) (by rw [tl_1]; omega), tl_1]
  have hta : tN s ≤ nt a := by
    rw [ie, ht.1, ea, tn (by omega), tn (by omega)] at h5
    omega
  rw [hxn] at h6
  have e3 : npN (nxBuy s x a b d) = npN s + 1 := by
    unfold npN nxBuy
    rw [upd_s, e1]
    omega
  have lo : ∀ m, m ≠ 3 → m < 49 → nxBuy s x a b d m = s m := fun m q hm => by
    unfold nxBuy
    rw [upd_n _ _ q, prow_lo _ _ _ _ hm]
  have e0 : tN (nxBuy s x a b d) = tN s := by unfold tN; rw [lo 0 (by decide) (by decide)]
  have e2 : nrN (nxBuy s x a b d) = nrN s := by unfold nrN; rw [lo 2 (by decide) (by decide)]
  have ep : ∀ p j, j < 12 → pf (nxBuy s x a b d) p j = if p = npN s then bgF (prw s (npN s)) x (rf s (nt x) 2) a b d j else pf s p j := fun p j hj => by
    unfold nxBuy
    rw [upd_pf _ _ _ (by decide), prow_pf _ _ _ hj]
  have eN : ∀ j, j < 12 → pf (nxBuy s x a b d) (npN s) j = bgF (prw s (npN s)) x (rf s (nt x) 2) a b d j := fun j hj => by rw [ep _ j hj, if_pos rfl]
  have eO : ∀ p j, p ≠ npN s → j < 12 → pf (nxBuy s x a b d) p j = pf s p j := fun p j hp hj => by rw [ep _ j hj, if_neg hp]
  have c0 := lo 0 (by decide) (by decide)
  have hdt : dtc (nxBuy s x a b d) (npN s) = nI (nt b - nt a + 1) := by
    unfold dtc
    rw [eN 1 (by decide), eN 2 (by decide), eN 11 (by decide), c0]
    show dtcI a b 0 (s 0) = _
    unfold dtcI
    rw [if_neg (by decide)]
    have em : (if s 0 < a then a else s 0) = nI (nt a) := by
      by_cases q : s 0 < a
      · rw [if_pos q]; exact ea
      · rw [if_neg q, ht.1]
        rw [ht.1, ea, il, tn (by omega), tn (by omega)] at q
        rw [show tN s = nt a by omega]
    rw [em, eb, if_neg (nI_nlt (by omega) (by omega)), pk_sub hab, nI_1]
    rw [show nt (nI (nt b)) = nt b from nt_nI (by omega)]
  have hdN : dN (nxBuy s x a b d) (npN s) = nt b - nt a + 1 := by
    unfold dN
    rw [hdt, tn (by omega)]
    omega
  refine ⟨fun p hp => ?_, fun r' D hr' t1 t2 => ?_⟩
  · rw [e3] at hp
    by_cases hq : p = npN s
    · subst hq
      rw [hdN]
      refine RI.congr (f := bgF (prw s (npN s)) x (rf s (nt x) 2) a b d) ?_ (fun j hj => eN j hj)
      rw [hxn]
      have hea : a.toInt = (nt a : Int) := by rw [ea, tn (by omega), nt_nI (by omega)]
      have heb : b.toInt = (nt b : Int) := by rw [eb, tn (by omega), nt_nI (by omega)]
      exact RI.bg hfee (by rw [hea, heb]; omega) (by omega) (by rw [hea, heb]; omega) hM
    · rw [dN_e (dtc_e c0 (eO p 1 hq (by decide)) (eO p 2 hq (by decide)) (eO p 11 hq (by decide)))]
      exact (hI.1 p (by omega)).congr (fun j hj => eO p j hq hj)
  · rw [e2] at hr'
    rw [e0] at t1
    have hq := hI.2 r' D hr' t1 t2
    have er : rf (nxBuy s x a b d) r' 1 = rf s r' 1 := lo _ (by omega) (by omega)
    have eC : cOn (nxBuy s x a b d) (nI r') D (npN s) = cOn s (nI r') D (npN s) := cntN_c _ (fun i hi => by
      have hne : i ≠ npN s := by omega
      rw [cms_e c0 (eO i 1 hne (by decide)) (eO i 2 hne (by decide)) (eO i 11 hne (by decide)), eO i 0 hne (by decide)])
    rw [e3, er]
    by_cases hc : pf (nxBuy s x a b d) (npN s) 0 = nI r' ∧ cms (nxBuy s x a b d) (npN s) D
    · rw [show cOn (nxBuy s x a b d) (nI r') D (npN s + 1) = cOn (nxBuy s x a b d) (nI r') D (npN s) + 1 from cntN_t hc, eC]
      obtain ⟨c1, c2⟩ := hc
      rw [eN 0 (by decide)] at c1
      have c3 : x = nI r' := c1
      rw [hxr] at c3
      have c4 := (nI_eq (by omega) (by omega)).mp c3
      subst c4
      obtain ⟨-, -, c5, c6⟩ := c2
      rw [eN 1 (by decide)] at c5
      rw [eN 2 (by decide)] at c6
      have c7 : a ≤ nI D := c5
      have c8 : nI D ≤ b := c6
      rw [ie, ea, tn (by omega), tn (by omega)] at c7
      rw [ie, eb, tn (by omega), tn (by omega)] at c8
      have c9 := fit_lt hW h6 (D := D) (by omega) (by omega)
      omega
    · rw [show cOn (nxBuy s x a b d) (nI r') D (npN s + 1) = cOn (nxBuy s x a b d) (nI r') D (npN s) from cntN_f hc, eC]
      exact hq
