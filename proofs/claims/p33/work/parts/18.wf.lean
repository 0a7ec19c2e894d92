theorem noerr {x : Int32} (h : -100000 ≤ x.toInt) : ¬ errP x := by
  rintro (e | e | e) <;> subst e <;> revert h <;> decide
theorem cms_iff {s : Sv} {B : Int} (hW : WF s B) {p D : Nat} (hp : p < npN s) (hD : D < 2 ^ 30) : cms s p D ↔ pf s p 11 = 0 ∧ ftc s p ≤ D ∧ D ≤ laN s p := by
  obtain ⟨e1, e2, e3, e4, -⟩ := hW.pl hp
  have ht := hW.t
  have hf := ftc_t s p
  unfold cms cmsP
  rw [ht.1, e1, e2, ie, ie, ie, tn (by omega), tn (by omega), tn (by omega), tn (by omega)]
  constructor
  · rintro ⟨h1, h2, h3, h4⟩
    exact ⟨h1, by omega, by omega⟩
  · rintro ⟨h1, h2, h3⟩
    exact ⟨h1, by omega, by omega, by omega⟩
theorem cnt_cms {s : Sv} {B : Int} (hW : WF s B) {p : Nat} (hp : p < npN s) (h0 : pf s p 11 = 0) : ∀ n, n ≤ laN s p + 1 → cntN (cms s p) n = n - ftc s p
  | 0, _ => by simp [cntN]
  | n + 1, h => by
    have ih := cnt_cms hW hp h0 n (by omega)
    have h4 := (hW.pl hp).2.2.2.1
    by_cases hc : cms s p n
    · have q := (cms_iff hW hp (by omega)).mp hc
      rw [cntN_t hc, ih]
      omega
    · rw [cntN_f hc, ih]
      have q : ¬ ftc s p ≤ n := fun z => hc ((cms_iff hW hp (by omega)).mpr ⟨h0, z, by omega⟩)
      omega
theorem cnt_cms1 {s : Sv} {B : Int} (hW : WF s B) {p : Nat} (hp : p < npN s) (h1 : ¬ pf s p 11 = 0) (n : Nat) (hn : n < 2 ^ 30) : cntN (cms s p) n = 0 := cntN_0 n (fun i hi q => h1 ((cms_iff hW hp (by omega)).mp q).1)
theorem cntN_mono {P Q : Nat → Prop} (h : ∀ i, P i → Q i) : ∀ n, cntN P n ≤ cntN Q n
  | 0 => Nat.le_refl 0
  | n + 1 => by
    have ih := cntN_mono h n
    by_cases hp : P n
    · rw [cntN_t hp, cntN_t (h n hp)]; omega
    · rw [cntN_f hp]
      by_cases hq : Q n
      · rw [cntN_t hq]; omega
      · rw [cntN_f hq]; exact ih
theorem dtc_cnt {s : Sv} {B : Int} (hW : WF s B) {p : Nat} (hp : p < npN s) : dtc s p = nI (cntN (cms s p) (laN s p + 1)) ∧ cntN (cms s p) (laN s p + 1) ≤ 30 := by
  have h7 := hW.pl hp
  have hf := ftc_t s p
  rcases dtc_cases hW hp with ⟨e, h | h⟩ | ⟨-, h0, h1, e⟩
  · rw [cnt_cms1 hW hp (by rw [h]; decide) _ (by omega), e]
    exact ⟨rfl, by decide⟩
  · by_cases h0 : pf s p 11 = 0
    · rw [cnt_cms hW hp h0 _ (Nat.le_refl _), show laN s p + 1 - ftc s p = 0 by omega, e]
      exact ⟨rfl, by decide⟩
    · rw [cnt_cms1 hW hp h0 _ (by omega), e]
      exact ⟨rfl, by decide⟩
  · rw [cnt_cms hW hp h0 _ (Nat.le_refl _), show laN s p + 1 - ftc s p = laN s p - ftc s p + 1 by omega, e]
    exact ⟨rfl, by omega⟩
def dN (s : Sv) (p : Nat) : Nat := (dtc s p).toInt.toNat
theorem dtc_N {s : Sv} {B : Int} (hW : WF s B) {p : Nat} (hp : p < npN s) : dtc s p = nI (dN s p) ∧ dN s p ≤ 30 ∧ clN s p (laN s p + 1) ≤ dN s p := by
  have h := dtc_cnt hW hp
  have e : dN s p = cntN (cms s p) (laN s p + 1) := by
    unfold dN
    rw [h.1, tn (by omega)]
    omega
  rw [e]
  exact ⟨h.1, h.2, cntN_mono (fun i q => q.1) _⟩
/-! a permit's row -/
def WPr (c2 c0 : Int32) (B : Int) (f : Nat → Int32) : Prop :=
  (0 ≤ (f 0).toInt ∧ (f 0).toInt < c2.toInt) ∧ (0 ≤ (f 1).toInt ∧ (f 1).toInt ≤ (f 2).toInt ∧ (f 2).toInt ≤ 181 ∧ (f 2).toInt ≤ (f 1).toInt + 29) ∧
  (0 ≤ (f 3).toInt ∧ (f 3).toInt ≤ 300) ∧ (1 ≤ (f 4).toInt ∧ (f 4).toInt ≤ 500) ∧ (0 ≤ (f 7).toInt ∧ (f 7).toInt ≤ B) ∧
  (0 ≤ (f 9).toInt ∧ 0 ≤ (f 10).toInt ∧ (f 9).toInt + (f 10).toInt ≤ c0.toInt) ∧ (f 11 = 0 ∨ f 11 = 1)
theorem WP_r {s : Sv} {B : Int} {p : Nat} (h : WP s B p) : WPr (s 2) (s 0) B (prw s p) := h
theorem prow_pf (s : Sv) (p : Nat) (f : Nat → Int32) {q j : Nat} (hj : j < 12) : pf (prow s p f) q j = if q = p then f j else pf s q j := by
  unfold pf prow
  by_cases h : q = p
  · subst h
    rw [if_pos (by omega), if_pos rfl, show 49 + 12 * q + j - (49 + 12 * q) = j by omega]
  · rw [if_neg (by omega), if_neg h]
theorem WP_c {s s' : Sv} {B B' : Int} {p : Nat} (h : WP s B p) (e2 : s' 2 = s 2) (e0 : (s 0).toInt ≤ (s' 0).toInt) (hB : B ≤ B') (he : ∀ j, j < 12 → pf s' p j = pf s p j) : WP s' B' p := by
  unfold WP at h ⊢
  rw [e2, he 0 (by decide), he 1 (by decide), he 2 (by decide), he 3 (by decide), he 4 (by decide), he 7 (by decide), he 9 (by decide), he 10 (by decide), he 11 (by decide)]
  obtain ⟨q1, q2, q3, q4, q5, q6, q7⟩ := h
  exact ⟨q1, q2, q3, q4, by omega, by omega, q7⟩
theorem WF.prowU {s : Sv} {B B' : Int} (h : WF s B) (hB : B ≤ B') {p : Nat} (hp : p < 12) {f : Nat → Int32} (hf : WPr (s 2) (s 0) B' f) : WF (prow s p f) B' := by
  obtain ⟨h1, h2, h3, h4, h5, h6, h7, h8⟩ := h
  have lo : ∀ m, m < 49 → prow s p f m = s m := fun m hm => prow_lo s p m f hm
  refine ⟨by rw [lo 0 (by decide)]; exact h1, by rw [lo 1 (by decide)]; exact h2, by rw [lo 2 (by decide)]; exact h3, by rw [lo 3 (by decide)]; exact h4, fun i hi => by rw [lo _ (by omega)]; exact h5 i hi, fun w hw => by rw [lo _ (by omega)]; exact h6 w hw, fun r hr => ?_, fun q hq => ?_⟩
  · have e2 : nrN (prow s p f) = nrN s := by unfold nrN; rw [lo 2 (by decide)]
    rw [e2] at hr
    have hr4 : r < 4 := by unfold nrN at hr; omega
    unfold rf
    rw [lo _ (by omega), lo _ (by omega), lo _ (by omega)]
    exact h7 r hr
  · have e3 : npN (prow s p f) = npN s := by unfold npN; rw [lo 3 (by decide)]
    rw [e3] at hq
    by_cases hqp : q = p
    · subst hqp
      unfold WP
      simp only [prow_pf s q f (show 0 < 12 by decide), prow_pf s q f (show 1 < 12 by decide), prow_pf s q f (show 2 < 12 by decide), prow_pf s q f (show 3 < 12 by decide), prow_pf s q f (show 4 < 12 by decide), prow_pf s q f (show 7 < 12 by decide), prow_pf s q f (show 9 < 12 by decide), prow_pf s q f (show 10 < 12 by decide), prow_pf s q f (show 11 < 12 by decide), lo 2 (by decide), lo 0 (by decide), if_true]
      exact hf
    · exact WP_c (h8 q hq) (lo 2 (by decide)) (by rw [lo 0 (by decide)]; omega) hB (fun j hj => by rw [prow_pf s p f hj, if_neg hqp])
theorem upd_pf (s : Sv) (m : Nat) (x : Int32) {p j : Nat} (h : m < 49) : pf (upd s m x) p j = pf s p j := by
  unfold pf
  exact upd_n _ _ (by omega)
theorem upd_rf (s : Sv) (m : Nat) (x : Int32) {r j : Nat} (h : m < 37) : rf (upd s m x) r j = rf s r j := by
  unfold rf
  exact upd_n _ _ (by omega)
/-- a number below 37 other than the counts and today changes -/
theorem WF.put {s : Sv} {B : Int} (h : WF s B) {m : Nat} {x : Int32} (hm : m < 37) (h0 : m ≠ 0) (h2 : m ≠ 2) (h3 : m ≠ 3)
    (a1 : m = 1 → 0 ≤ x.toInt ∧ x.toInt ≤ 5000) (a2 : 4 ≤ m → m < 7 → 0 ≤ x.toInt ∧ x.toInt ≤ 500) (a3 : 11 ≤ m → -50 ≤ x.toInt ∧ x.toInt ≤ 50) : WF (upd s m x) B := by
  obtain ⟨b1, b2, b3, b4, b5, b6, b7, b8⟩ := h
  have e2 : nrN (upd s m x) = nrN s := by unfold nrN; rw [upd_n _ _ (Ne.symm h2)]
  have e3 : npN (upd s m x) = npN s := by unfold npN; rw [upd_n _ _ (Ne.symm h3)]
  refine ⟨by rw [upd_n _ _ (Ne.symm h0)]; exact b1, ?_, by rw [upd_n _ _ (Ne.symm h2)]; exact b3, by rw [upd_n _ _ (Ne.symm h3)]; exact b4, fun i hi => ?_, fun w hw => ?_, fun r hr => ?_, fun p hp => ?_⟩
  · by_cases q : m = 1
    · subst q; rw [upd_s]; exact a1 rfl
    · rw [upd_n _ _ (Ne.symm q)]; exact b2
  · by_cases q : 4 + i = m
    · subst q; rw [upd_s]; exact a2 (by omega) (by omega)
    · rw [upd_n _ _ q]; exact b5 i hi
  · by_cases q : 11 + w = m
    · subst q; rw [upd_s]; exact a3 (by omega)
    · rw [upd_n _ _ q]; exact b6 w hw
  · rw [e2] at hr
    rw [upd_rf _ _ _ hm, upd_rf _ _ _ hm, upd_rf _ _ _ hm]
    exact b7 r hr
  · rw [e3] at hp
    exact WP_c (b8 p hp) (upd_n _ _ (Ne.symm h2)) (by rw [upd_n _ _ (Ne.symm h0)]; omega) (Int.le_refl B) (fun j _ => upd_pf _ _ _ (by omega))
theorem cd_ok {P : Prop} {x y : Int32} (h : cif P x y = 0) (hy : y ≠ 0) : P ∧ x = 0 := by
  by_cases hp : P
  · rw [cif_t hp] at h; exact ⟨hp, h⟩
  · rw [cif_f hp] at h; exact absurd h hy
theorem cd_ok' {P : Prop} {x y : Int32} (h : cif P x y = 0) (hx : x ≠ 0) : ¬ P ∧ y = 0 := by
  by_cases hp : P
  · rw [cif_t hp] at h; exact absurd h hx
  · rw [cif_f hp] at h; exact ⟨hp, h⟩
theorem wf_level {s : Sv} {B : Int} (hW : WF s B) {x : Int32} (h : cdLevel x = 0) : WF (upd s 1 x) B := by
  obtain ⟨h, -⟩ := cd_ok h (by decide)
  rw [ie, ie, tl_0, tl_5000] at h
  exact hW.put (by decide) (by decide) (by decide) (by decide) (fun _ => h) (fun q => absurd q (by decide)) (fun q => absurd q (by decide))
theorem wf_rate {s : Sv} {B : Int} (hW : WF s B) {w x : Int32} (h : cdRate w x = 0) : WF (upd s (11 + nt w) x) B := by
  obtain ⟨⟨h1, h2⟩, -⟩ := cd_ok h (by decide)
  rw [ie, ie, tl_0, tl_25] at h1
  rw [ie, ie, tl_m50, tl_50] at h2
  exact hW.put (by unfold nt; omega) (by omega) (by omega) (by omega) (fun q => absurd q (by omega)) (fun q q2 => absurd q2 (by omega)) (fun _ => h2)
theorem wf_fine {s : Sv} {B : Int} (hW : WF s B) {r a : Int32} (h : cdFine r a = 0) : WF (upd s (4 + (nt r - 1)) a) B := by
  obtain ⟨⟨h1, h2⟩, -⟩ := cd_ok h (by decide)
  rw [ie, ie, tl_1, tl_3] at h1
  rw [ie, ie, tl_0, tl_500] at h2
  have hi : nt r - 1 < 3 := by unfold nt; omega
  exact hW.put (by omega) (by omega) (by omega) (by omega) (fun q => absurd q (by omega)) (fun _ _ => h2) (fun q => absurd q (by omega))
theorem wf_launch {s : Sv} {B : Int} (hW : WF s B) (x d q : Int32) : WF (nxLaunch s x d q) B := by
  unfold nxLaunch
  by_cases h0 : rsn s (nt x) d q = 0
  · rw [cif_t h0]; exact hW
  · rw [cif_f h0]
    have hi := rsn_i h0
    refine (hW.put (by omega) (by omega) (by omega) (by omega) (fun q => absurd q (by omega)) (fun q q2 => absurd q2 (by omega)) (fun q => absurd q (by omega))).put (by decide) (by decide) (by decide) (by decide) (fun q => absurd q (by decide)) (fun q q2 => absurd q2 (by decide)) (fun q => absurd q (by decide))
theorem wf_fee {s : Sv} {B : Int} (hW : WF s B) {x f : Int32} (h : cdFee s x f = 0) : WF (upd s (37 + 3 * nt x + 2) f) B := by
  obtain ⟨⟨h1, h2⟩, -⟩ := cd_ok h (by decide)
  rw [ie, ie, tl_1, tl_500] at h2
  obtain ⟨r, hxr, hr⟩ := hW.rix h1
  have hnr := hW.nr.2
  have hxn : nt x = r := by rw [hxr, nt_nI (by omega)]
  rw [hxn]
  obtain ⟨b1, b2, b3, b4, b5, b6, b7, b8⟩ := hW
  have e2 : nrN (upd s (37 + 3 * r + 2) f) = nrN s := by unfold nrN; rw [upd_n _ _ (by omega)]
  have e3 : npN (upd s (37 + 3 * r + 2) f) = npN s := by unfold npN; rw [upd_n _ _ (by omega)]
  refine ⟨by rw [upd_n _ _ (by omega)]; exact b1, by rw [upd_n _ _ (by omega)]; exact b2, by rw [upd_n _ _ (by omega)]; exact b3, by rw [upd_n _ _ (by omega)]; exact b4, fun i hi => by rw [upd_n _ _ (by omega)]; exact b5 i hi, fun w hw => by rw [upd_n _ _ (by omega)]; exact b6 w hw, fun q hq => ?_, fun p hp => ?_⟩
  · rw [e2] at hq
    obtain ⟨c1, c2, c3⟩ := b7 q hq
    unfold rf at c1 c2 c3 ⊢
    rw [upd_n _ _ (show 37 + 3 * q + 0 ≠ 37 + 3 * r + 2 by omega), upd_n _ _ (show 37 + 3 * q + 1 ≠ 37 + 3 * r + 2 by omega)]
    refine ⟨c1, c2, ?_⟩
    by_cases hqr : q = r
    · subst hqr; rw [upd_s]; exact h2
    · rw [upd_n _ _ (by omega)]; exact c3
  · rw [e3] at hp
    exact WP_c (b8 p hp) (upd_n _ _ (by omega)) (by rw [upd_n _ _ (by omega)]; omega) (Int.le_refl B) (fun j _ => upd_pf _ _ _ (by omega))
theorem wf_ramp {s : Sv} {B : Int} (hW : WF s B) {e b f : Int32} (h : cdRamp s e b f = 0) : WF (nxRamp s e b f) B := by
  obtain ⟨⟨h1, h2, h3⟩, h4⟩ := cd_ok h (by decide)
  obtain ⟨h4, -⟩ := cd_ok' h4 (by decide)
  rw [ie, ie, tl_0, tl_4000] at h1
  rw [ie, ie, tl_1, tl_20] at h2
  rw [ie, ie, tl_1, tl_500] at h3
  have hnr := hW.nr
  rw [iq, show (4 : Int32).toInt = 4 from rfl] at h4
  obtain ⟨b1, b2, b3, b4, b5, b6, b7, b8⟩ := hW
  have e1 : (s 2 + 1).toInt = (s 2).toInt + 1 := by rw [addT (by rw [tl_1]; omega) (by rw [tl_1]; omega), tl_1]
  have e2 : nrN (nxRamp s e b f) = nrN s + 1 := by
    unfold nrN nxRamp
    rw [upd_s, e1]
    omega
  have e3 : npN (nxRamp s e b f) = npN s := by
    unfold npN nxRamp
    rw [upd_n _ _ (by decide), upd_n _ _ (by omega), upd_n _ _ (by omega), upd_n _ _ (by omega)]
  have hk : nrN s < 4 := by unfold nrN; omega
  have lo : ∀ m, m ≠ 2 → (m < 37 + 3 * nrN s ∨ 37 + 3 * nrN s + 3 ≤ m) → nxRamp s e b f m = s m := fun m h2 hm => by
    unfold nxRamp
    rw [upd_n _ _ h2, upd_n _ _ (by omega), upd_n _ _ (by omega), upd_n _ _ (by omega)]
  refine ⟨by rw [lo _ (by decide) (by omega)]; exact b1, by rw [lo _ (by decide) (by omega)]; exact b2, ?_, by rw [lo _ (by decide) (by omega)]; exact b4, fun i hi => by rw [lo _ (by omega) (by omega)]; exact b5 i hi, fun w hw => by rw [lo _ (by omega) (by omega)]; exact b6 w hw, fun q hq => ?_, fun p hp => ?_⟩
  · unfold nxRamp
    rw [upd_s, e1]
    omega
  · rw [e2] at hq
    by_cases hqr : q = nrN s
    · subst hqr
      unfold rf nxRamp
      rw [upd_n _ _ (by omega), upd_n _ _ (by omega), upd_n _ _ (by omega), upd_s, upd_n _ _ (by omega), upd_n _ _ (by omega), upd_s, upd_n _ _ (by omega), upd_s]
      exact ⟨h1, h2, h3⟩
    · unfold rf
      rw [lo _ (by omega) (by omega), lo _ (by omega) (by omega), lo _ (by omega) (by omega)]
      exact b7 q (by omega)
  · rw [e3] at hp
    have hq := b8 p hp
    unfold WP at hq ⊢
    have lp : ∀ j, pf (nxRamp s e b f) p j = pf s p j := fun j => by unfold pf; exact lo _ (by omega) (by omega)
    rw [lp, lp, lp, lp, lp, lp, lp, lp, lp, lo 0 (by decide) (by omega)]
    have e5 : (nxRamp s e b f 2).toInt = (s 2).toInt + 1 := by unfold nxRamp; rw [upd_s, e1]
    rw [e5]
    obtain ⟨q1, q2, q3, q4, q5, q6, q7⟩ := hq
    exact ⟨by omega, q2, q3, q4, q5, q6, q7⟩
theorem wf_buy {s : Sv} {B : Int} (hB : 0 ≤ B) (hW : WF s B) {x a b d : Int32} (h : cdBuy s x a b d = 0) : WF (nxBuy s x a b d) B := by
  obtain ⟨⟨h1, h2, h3⟩, h4⟩ := cd_ok h (by decide)
  obtain ⟨-, h4⟩ := cd_ok h4 (by decide)
  obtain ⟨h4, -⟩ := cd_ok' h4 (by decide)
  obtain ⟨r, hxr, hr⟩ := hW.rix h1
  have hnr := hW.nr
  have hnp := hW.np
  have hxn : nt x = r := by rw [hxr, nt_nI (by omega)]
  rw [iq, show (12 : Int32).toInt = 12 from rfl] at h4
  rw [ie, ie, tl_0, tl_300] at h3
  obtain ⟨ea, eb, hab, hb⟩ := span_n h2
  have h5 := h2.2.2
  rw [ie, subT (by rw [ea, eb, tn (by omega), tn (by omega)]; omega) (by rw [ea, eb, tn (by omega), tn (by omega)]; omega), tl_29, ea, eb, tn (by omega), tn (by omega)] at h5
  have hfee := (hW.rm hr).2.2
  have h12 : npN s < 12 := by
    rw [hnp.1, tn (by omega)] at h4
    omega
  have hrow : WPr (s 2) (s 0) B (bgF (prw s (npN s)) x (rf s (nt x) 2) a b d) := by
    unfold WPr
    rw [show bgF (prw s (npN s)) x (rf s (nt x) 2) a b d 0 = x from rfl, show bgF (prw s (npN s)) x (rf s (nt x) 2) a b d 1 = a from rfl, show bgF (prw s (npN s)) x (rf s (nt x) 2) a b d 2 = b from rfl, show bgF (prw s (npN s)) x (rf s (nt x) 2) a b d 3 = d from rfl, show bgF (prw s (npN s)) x (rf s (nt x) 2) a b d 4 = rf s (nt x) 2 from rfl, show bgF (prw s (npN s)) x (rf s (nt x) 2) a b d 7 = 0 from rfl, show bgF (prw s (npN s)) x (rf s (nt x) 2) a b d 9 = 0 from rfl, show bgF (prw s (npN s)) x (rf s (nt x) 2) a b d 10 = 0 from rfl, show bgF (prw s (npN s)) x (rf s (nt x) 2) a b d 11 = 0 from rfl, hxn, tl_0]
    rw [ie, il, tl_0] at h1
    have hea : a.toInt = (nt a : Int) := by rw [ea, tn (by omega), nt_nI (by omega)]
    have heb : b.toInt = (nt b : Int) := by rw [eb, tn (by omega), nt_nI (by omega)]
    rw [hea, heb]
    have ht := hW.1
    exact ⟨h1, ⟨by omega, by omega, by omega, by omega⟩, h3, hfee, ⟨by omega, hB⟩, ⟨by omega, by omega, by omega⟩, Or.inl rfl⟩
  have h6 := hW.prowU (Int.le_refl B) h12 hrow
  obtain ⟨b1, b2, b3, b4, b5, b6, b7, b8⟩ := h6
  have lo : ∀ m, m < 49 → prow s (npN s) (bgF (prw s (npN s)) x (rf s (nt x) 2) a b d) m = s m := fun m hm => prow_lo _ _ _ _ hm
  have e1 : (s 3 + 1).toInt = (s 3).toInt + 1 := by
    have := hW.2.2.2.1
    rw [addT (by rw [tl_1]; omega) (by rw [tl_1]; omega), tl_1]
  have h34 := hW.2.2.2.1
  have e3 : npN (nxBuy s x a b d) = npN s + 1 := by
    unfold npN nxBuy
    rw [upd_s, e1]
    omega
  have e2 : nrN (nxBuy s x a b d) = nrN (prow s (npN s) (bgF (prw s (npN s)) x (rf s (nt x) 2) a b d)) := by
    unfold nrN nxBuy
    rw [upd_n _ _ (by decide)]
  unfold nxBuy at e2 e3 ⊢
  refine ⟨by rw [upd_n _ _ (by decide)]; exact b1, by rw [upd_n _ _ (by decide)]; exact b2, by rw [upd_n _ _ (by decide)]; exact b3, ?_, fun i hi => by rw [upd_n _ _ (by omega)]; exact b5 i hi, fun w hw => by rw [upd_n _ _ (by omega)]; exact b6 w hw, fun q hq => ?_, fun p hp => ?_⟩
  · rw [upd_s, e1]
    omega
  · rw [e2] at hq
    rw [upd_rf _ _ _ (by decide), upd_rf _ _ _ (by decide), upd_rf _ _ _ (by decide)]
    exact b7 q hq
  · rw [e3] at hp
    by_cases hq : p = npN s
    · subst hq
      have hw : WP (prow s (npN s) (bgF (prw s (npN s)) x (rf s (nt x) 2) a b d)) B (npN s) := by
        unfold WP
        simp only [prow_pf s (npN s) _ (show 0 < 12 by decide), prow_pf s (npN s) _ (show 1 < 12 by decide), prow_pf s (npN s) _ (show 2 < 12 by decide), prow_pf s (npN s) _ (show 3 < 12 by decide), prow_pf s (npN s) _ (show 4 < 12 by decide), prow_pf s (npN s) _ (show 7 < 12 by decide), prow_pf s (npN s) _ (show 9 < 12 by decide), prow_pf s (npN s) _ (show 10 < 12 by decide), prow_pf s (npN s) _ (show 11 < 12 by decide), lo 2 (by decide), lo 0 (by decide), if_true]
        exact hrow
      exact WP_c hw (upd_n _ _ (by decide)) (by rw [upd_n _ _ (by decide)]; omega) (Int.le_refl B) (fun j _ => upd_pf _ _ _ (by decide))
    · have e4 : npN (prow s (npN s) (bgF (prw s (npN s)) x (rf s (nt x) 2) a b d)) = npN s := by unfold npN; rw [prow_lo _ _ _ _ (by decide)]
      exact WP_c (b8 p (by rw [e4]; omega)) (upd_n _ _ (by decide)) (by rw [upd_n _ _ (by decide)]; omega) (Int.le_refl B) (fun j _ => upd_pf _ _ _ (by decide))
theorem mulB {a : Int} {d M : Nat} {K : Int} (h1 : -K ≤ a) (h2 : a ≤ K) (hd : d ≤ M) : -(K * M) ≤ a * d ∧ a * d ≤ K * M := by
  have hK : 0 ≤ K := by omega
  have e1 : a * d ≤ K * d := Int.mul_le_mul_of_nonneg_right h2 (by omega)
  have e2 : -K * d ≤ a * d := Int.mul_le_mul_of_nonneg_right h1 (by omega)
  have e3 : K * (d : Int) ≤ K * M := Int.mul_le_mul_of_nonneg_left (by omega) hK
  rw [Int.neg_mul] at e2
  omega
theorem mvD_b {s : Sv} {B : Int} (hW : WF s B) {p r : Nat} (hp : p < npN s) (hr : r < nrN s) {x y : Int32} (hx : nt x = p) (hy : nt y = r) : -14970 ≤ (mvD s x y).toInt ∧ (mvD s x y).toInt ≤ 14970 := by
  have h1 := (hW.rm hr).2.2
  have h2 := (hW.pm hp).2.2.2.1
  obtain ⟨e, hd, -⟩ := dtc_N hW hp
  unfold mvD
  rw [hx, hy]
  have es : (rf s r 2 - pf s p 4).toInt = (rf s r 2).toInt - (pf s p 4).toInt := subT (by omega) (by omega)
  have q := mulB (a := (rf s r 2).toInt - (pf s p 4).toInt) (d := dN s p) (M := 30) (K := 499) (by omega) (by omega) hd
  rw [mulT (by rw [es, e, tn (by omega)]; omega) (by rw [es, e, tn (by omega)]; omega), es, e, tn (by omega)]
  omega
theorem wf_move {s : Sv} {B : Int} (hB : B + 15000 < 2147483648) (hB0 : 0 ≤ B) (hW : WF s B) {x y : Int32} (h : cdMove s x y = 0) : WF (nxMove s x y) (B + 15000) := by
  obtain ⟨⟨h1, h2⟩, h3⟩ := cd_ok h (by decide)
  obtain ⟨p, hxp, hp⟩ := hW.pix h1
  obtain ⟨r, hyr, hr⟩ := hW.rix h2
  have hnr := hW.nr.2
  have hnp := hW.np.2
  have hx : nt x = p := by rw [hxp, nt_nI (by omega)]
  have hy : nt y = r := by rw [hyr, nt_nI (by omega)]
  have hd := mvD_b hW hp hr hx hy
  have hfee := (hW.rm hr).2.2
  unfold nxMove
  rw [hx, hy]
  refine hW.prowU (by omega) (by omega) ?_
  obtain ⟨q1, q2, q3, q4, q5, q6, q7⟩ := hW.pm hp
  have f7 : (mvF (prw s p) y (rf s r 2) (mvD s x y) 7).toInt = if 0 < mvD s x y then (pf s p 7).toInt else (pf s p 7).toInt - (mvD s x y).toInt := by
    unfold mvF
    rw [upd_n _ _ (by decide), upd_n _ _ (by decide)]
    by_cases hc : 0 < mvD s x y
    · rw [if_pos hc, if_pos hc, upd_n _ _ (by decide)]; rfl
    · rw [if_neg hc, if_neg hc, upd_s]
      rw [il, tl_0] at hc
      exact subT (a := pf s p 7) (by omega) (by omega)
  have fo : ∀ j, j ≠ 0 → j ≠ 4 → j ≠ 5 → j ≠ 7 → mvF (prw s p) y (rf s r 2) (mvD s x y) j = pf s p j := fun j h0 h4 h5 h7 => by
    unfold mvF
    rw [upd_n _ _ h4, upd_n _ _ h0]
    split
    · rw [upd_n _ _ h5]; rfl
    · rw [upd_n _ _ h7]; rfl
  unfold WPr
  rw [f7, fo 1 (by decide) (by decide) (by decide) (by decide), fo 2 (by decide) (by decide) (by decide) (by decide), fo 3 (by decide) (by decide) (by decide) (by decide), fo 9 (by decide) (by decide) (by decide) (by decide), fo 10 (by decide) (by decide) (by decide) (by decide), fo 11 (by decide) (by decide) (by decide) (by decide)]
  rw [show mvF (prw s p) y (rf s r 2) (mvD s x y) 0 = y from rfl, show mvF (prw s p) y (rf s r 2) (mvD s x y) 4 = rf s r 2 from rfl]
  rw [ie, il, tl_0] at h2
  refine ⟨h2, q2, q3, hfee, ?_, q6, q7⟩
  by_cases hc : 0 < mvD s x y
  · rw [if_pos hc]; omega
  · rw [if_neg hc]
    rw [il, tl_0] at hc
    omega
theorem hf_b {f : Int32} (h : 1 ≤ f.toInt ∧ f.toInt ≤ 500) : 0 ≤ (f / 2).toInt ∧ (f / 2).toInt ≤ 250 ∧ (f / 2).toInt ≤ f.toInt := by
  have e := ofNI (x := f) (by omega)
  have hl := Int32.toInt_lt f
  rw [e, show (2 : Int32) = nI 2 from rfl, pk_div (by omega) (by decide) (by decide), tn (by omega), tn (by omega)]
  omega
theorem cnO_b {s : Sv} {B : Int} (hW : WF s B) {p : Nat} (hp : p < npN s) {x : Int32} (hx : nt x = p) : 0 ≤ (anCancel s x).toInt ∧ (anCancel s x).toInt ≤ 15000 := by
  obtain ⟨e, hd, hc⟩ := dtc_N hW hp
  have hf := (hW.pm hp).2.2.2.1
  have hh := hf_b hf
  unfold anCancel clI cnO
  rw [hx, e, pk_sub hc]
  show 0 ≤ (nI (clN s p (laN s p + 1)) * pf s p 4 + nI (dN s p - clN s p (laN s p + 1)) * (pf s p 4 / 2)).toInt ∧ (nI (clN s p (laN s p + 1)) * pf s p 4 + nI (dN s p - clN s p (laN s p + 1)) * (pf s p 4 / 2)).toInt ≤ 15000
  have k1 := tn (n := clN s p (laN s p + 1)) (by omega)
  have k2 := tn (n := dN s p - clN s p (laN s p + 1)) (by omega)
  have m1 : ((clN s p (laN s p + 1) : Nat) : Int) * (pf s p 4).toInt ≤ (clN s p (laN s p + 1) : Nat) * 500 := Int.mul_le_mul_of_nonneg_left hf.2 (by omega)
  have m2 : 0 ≤ ((clN s p (laN s p + 1) : Nat) : Int) * (pf s p 4).toInt := Int.mul_nonneg (by omega) (by omega)
  have m3 : ((dN s p - clN s p (laN s p + 1) : Nat) : Int) * (pf s p 4 / 2).toInt ≤ (dN s p - clN s p (laN s p + 1) : Nat) * 500 := Int.mul_le_mul_of_nonneg_left (by omega) (by omega)
  have m4 : 0 ≤ ((dN s p - clN s p (laN s p + 1) : Nat) : Int) * (pf s p 4 / 2).toInt := Int.mul_nonneg (by omega) (by omega)
  have t1 : (nI (clN s p (laN s p + 1)) * pf s p 4).toInt = (clN s p (laN s p + 1) : Nat) * (pf s p 4).toInt := by rw [mulT (by rw [k1]; omega) (by rw [k1]; omega), k1]
  have t2 : (nI (dN s p - clN s p (laN s p + 1)) * (pf s p 4 / 2)).toInt = (dN s p - clN s p (laN s p + 1) : Nat) * (pf s p 4 / 2).toInt := by rw [mulT (by rw [k2]; omega) (by rw [k2]; omega), k2]
  rw [addT (by rw [t1, t2]; omega) (by rw [t1, t2]; omega), t1, t2]
  omega
theorem wf_cancel {s : Sv} {B : Int} (hB : B + 15000 < 2147483648) (hW : WF s B) {x : Int32} (h : cdCancel s x = 0) : WF (nxCancel s x) (B + 15000) := by
  obtain ⟨h1, -⟩ := cd_ok h (by decide)
  obtain ⟨p, hxp, hp⟩ := hW.pix h1
  have hnp := hW.np.2
  have hx : nt x = p := by rw [hxp, nt_nI (by omega)]
  have hd := cnO_b hW hp hx
  unfold anCancel at hd
  unfold nxCancel
  rw [hx] at hd ⊢
  refine hW.prowU (by omega) (by omega) ?_
  obtain ⟨q1, q2, q3, q4, q5, q6, q7⟩ := hW.pm hp
  have f7 : (cnF (prw s p) (dtc s p - clI s x) (clI s x) 7).toInt = (pf s p 7).toInt + (cnO (prw s p) (dtc s p - clI s x) (clI s x)).toInt := by
    unfold cnF
    rw [upd_n _ _ (by decide), upd_n _ _ (by decide), upd_s]
    exact addT (a := pf s p 7) (by omega) (by omega)
  unfold WPr
  rw [f7]
  refine ⟨q1, q2, q3, q4, by omega, q6, Or.inr rfl⟩
theorem wf_refund {s : Sv} {B : Int} (hB : 0 ≤ B) (hW : WF s B) {x : Int32} (h : cdRefund s x = 0) : WF (nxRefund s x) B := by
  obtain ⟨h1, -⟩ := cd_ok h (by decide)
  obtain ⟨p, hxp, hp⟩ := hW.pix h1
  have hnp := hW.np.2
  have hx : nt x = p := by rw [hxp, nt_nI (by omega)]
  unfold nxRefund
  rw [hx]
  refine hW.prowU (Int.le_refl B) (by omega) ?_
  obtain ⟨q1, q2, q3, q4, q5, q6, q7⟩ := hW.pm hp
  unfold WPr
  rw [show rfF (prw s p) 7 = 0 from rfl, tl_0]
  exact ⟨q1, q2, q3, q4, ⟨Int.le_refl 0, hB⟩, q6, q7⟩
theorem psS_pf {s : Sv} : ∀ (n p j : Nat), j < 12 → pf (psS s n) p j = cif (p < n ∧ cms s p (tN s)) ((cif (opn s (rrN s p) (pf s p 3) (s 1)) (usF (prw s p)) (loF (prw s p))) j) (pf s p j)
  | 0, p, j, _ => by rw [cif_f (by omega)]; rfl
  | n + 1, p, j, hj => by
    have ih := psS_pf (s := s) n p j hj
    by_cases hc : cms s n (tN s)
    · rw [show psS s (n + 1) = _ from cif_t hc, prow_pf _ _ _ hj]
      by_cases hp : p = n
      · subst hp
        rw [if_pos rfl, cif_t (show p < p + 1 ∧ cms s p (tN s) from ⟨by omega, hc⟩)]
      · rw [if_neg hp, ih]
        by_cases hq : p < n ∧ cms s p (tN s)
        · rw [cif_t hq, cif_t (show p < n + 1 ∧ cms s p (tN s) from ⟨by omega, hq.2⟩)]
        · rw [cif_f hq, cif_f (show ¬ (p < n + 1 ∧ cms s p (tN s)) from fun z => hq ⟨by omega, z.2⟩)]
    · rw [show psS s (n + 1) = _ from cif_f hc, ih]
      by_cases hq : p < n ∧ cms s p (tN s)
      · rw [cif_t hq, cif_t (show p < n + 1 ∧ cms s p (tN s) from ⟨by omega, hq.2⟩)]
      · rw [cif_f hq, cif_f (show ¬ (p < n + 1 ∧ cms s p (tN s)) from fun z => hq ⟨by
          rcases Nat.lt_or_ge p n with g | g
          · exact g
          · exact absurd (show cms s n (tN s) by rw [show n = p by omega]; exact z.2) hc, z.2⟩)]
theorem wf_pass {s : Sv} {B : Int} (hB : B + 15000 < 2147483648) (hB0 : 0 ≤ B) (hW : WF s B) {c : Int32} (h : cdPass s c = 0) : WF (nxPass s c) (B + 15000) := by
  obtain ⟨-, h1⟩ := cd_ok h (by decide)
  obtain ⟨h1, -⟩ := cd_ok' h1 (by decide)
  rw [iq, tl_181] at h1
  obtain ⟨b1, b2, b3, b4, b5, b6, b7, b8⟩ := hW
  have lo : ∀ m, m < 49 → m ≠ 0 → m ≠ 1 → nxPass s c m = s m := fun m hm h0 h1 => by
    unfold nxPass
    rw [upd_n _ _ h0, upd_n _ _ h1, psS_lo _ _ _ hm]
  have e0 : (nxPass s c 0).toInt = (s 0).toInt + 1 := by
    unfold nxPass
    rw [upd_s, addT (by rw [tl_1]; omega) (by rw [tl_1]; omega), tl_1]
  have e1 : nxPass s c 1 = bnd (s 1 + c) := by
    unfold nxPass
    rw [upd_n _ _ (by decide), upd_s]
  have e2 : nrN (nxPass s c) = nrN s := by unfold nrN; rw [lo 2 (by decide) (by decide) (by decide)]
  have e3 : npN (nxPass s c) = npN s := by unfold npN; rw [lo 3 (by decide) (by decide) (by decide)]
  refine ⟨by rw [e0]; omega, by rw [e1]; exact hld_b _, by rw [lo _ (by decide) (by decide) (by decide)]; exact b3, by rw [lo _ (by decide) (by decide) (by decide)]; exact b4, fun i hi => by rw [lo _ (by omega) (by omega) (by omega)]; exact b5 i hi, fun w hw => by rw [lo _ (by omega) (by omega) (by omega)]; exact b6 w hw, fun r hr => ?_, fun p hp => ?_⟩
  · rw [e2] at hr
    have hr4 : r < 4 := by unfold nrN at hr; omega
    unfold rf
    rw [lo _ (by omega) (by omega) (by omega), lo _ (by omega) (by omega) (by omega), lo _ (by omega) (by omega) (by omega)]
    exact b7 r hr
  · rw [e3] at hp
    have hq : ∀ j, j < 12 → pf (nxPass s c) p j = cif (p < npN s ∧ cms s p (tN s)) ((cif (opn s (rrN s p) (pf s p 3) (s 1)) (usF (prw s p)) (loF (prw s p))) j) (pf s p j) := fun j hj => by
      rw [← psS_pf (npN s) p j hj]
      unfold nxPass
      rw [upd_pf _ _ _ (by decide), upd_pf _ _ _ (by decide)]
    obtain ⟨q1, q2, q3, q4, q5, q6, q7⟩ := b8 p hp
    unfold WP
    rw [lo 2 (by decide) (by decide) (by decide), e0, hq 0 (by decide), hq 1 (by decide), hq 2 (by decide), hq 3 (by decide), hq 4 (by decide), hq 7 (by decide), hq 9 (by decide), hq 10 (by decide), hq 11 (by decide)]
    by_cases hc : p < npN s ∧ cms s p (tN s)
    · simp only [cif_t hc]
      by_cases ho : opn s (rrN s p) (pf s p 3) (s 1)
      · simp only [cif_t ho]
        have u9 : (usF (prw s p) 9).toInt = (pf s p 9).toInt + 1 := addT (a := pf s p 9) (b := 1) (by rw [tl_1]; omega) (by rw [tl_1]; omega)
        rw [u9]
        exact ⟨q1, q2, q3, q4, ⟨q5.1, Int.le_trans q5.2 (by omega)⟩, ⟨by omega, q6.2.1, by have := q6.2.2; show (pf s p 9).toInt + 1 + (pf s p 10).toInt ≤ _; omega⟩, q7⟩
      · simp only [cif_f ho]
        have u7 : (loF (prw s p) 7).toInt = (pf s p 7).toInt + (pf s p 4).toInt := addT (a := pf s p 7) (b := pf s p 4) (by omega) (by omega)
        have u10 : (loF (prw s p) 10).toInt = (pf s p 10).toInt + 1 := addT (a := pf s p 10) (b := 1) (by rw [tl_1]; omega) (by rw [tl_1]; omega)
        rw [u7, u10]
        exact ⟨q1, q2, q3, q4, by omega, ⟨q6.1, by omega, by have := q6.2.2; show (pf s p 9).toInt + ((pf s p 10).toInt + 1) ≤ _; omega⟩, q7⟩
    · simp only [cif_f hc]
      exact ⟨q1, q2, q3, q4, by omega, by omega, q7⟩
