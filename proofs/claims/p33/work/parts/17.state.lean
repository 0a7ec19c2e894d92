def sbS (s : Sv) (i : Nat) : Sv := fun k => s (194 + 194 * i + k)
def StR (V : Mm) (T : Nat) (s : Sv) : Prop := Rep V (T + 1) s ∧ ∀ i, i < 2 → (V (T + 26) i = s (193 + 194 * i) ∧ (s (193 + 194 * i) = 1 → Rep V (T + 27 + 24 * i) (sbS s i)))
def WS (s : Sv) (B : Int) : Prop := WF s B ∧ ∀ i, i < 2 → ((s (193 + 194 * i) = 0 ∨ s (193 + 194 * i) = 1) ∧ (s (193 + 194 * i) = 1 → WF (sbS s i) B))
theorem narZ {x : Int32} (h : x = 0 ∨ x = 1) : vp_nar .boolean x = x := by rcases h with rfl | rfl <;> decide
theorem Rep.frame {V V' : Mm} {S : Nat} {s : Sv} (h : Rep V S s) (hF : ∀ k, S ≤ k → k < S + 24 → V' k = V k) : Rep V' S s := RepN.frame h hF
theorem Rep.congr {V : Mm} {S : Nat} {s s' : Sv} (h : Rep V S s) (he : ∀ m, m < 193 → s' m = s m) : Rep V S s' := by
  have e2 : nrN s' = nrN s := by unfold nrN; rw [he 2 (by decide)]
  have e3 : npN s' = npN s := by unfold npN; rw [he 3 (by decide)]
  intro m hm
  rw [e2, e3] at hm
  rw [he m (rel_lt hm)]
  exact h m hm
theorem WF.congr {s s' : Sv} {B : Int} (h : WF s B) (he : ∀ m, m < 193 → s' m = s m) : WF s' B := by
  have e2 : nrN s' = nrN s := by unfold nrN; rw [he 2 (by decide)]
  have e3 : npN s' = npN s := by unfold npN; rw [he 3 (by decide)]
  have hnr := h.nr.2
  have hnp := h.np.2
  obtain ⟨h1, h2, h3, h4, h5, h6, h7, h8⟩ := h
  refine ⟨by rw [he 0 (by decide)]; exact h1, by rw [he 1 (by decide)]; exact h2, by rw [he 2 (by decide)]; exact h3, by rw [he 3 (by decide)]; exact h4, fun i hi => by rw [he _ (by omega)]; exact h5 i hi, fun w hw => by rw [he _ (by omega)]; exact h6 w hw, fun r hr => ?_, fun p hp => ?_⟩
  · rw [e2] at hr
    have q := h7 r hr
    unfold rf at q ⊢
    rw [he _ (by omega), he _ (by omega), he _ (by omega)]
    exact q
  · rw [e3] at hp
    have q := h8 p hp
    unfold WP pf at q ⊢
    rw [he 2 (by decide), he 0 (by decide), he (49 + 12 * p + 0) (by omega), he (49 + 12 * p + 1) (by omega), he (49 + 12 * p + 2) (by omega), he (49 + 12 * p + 3) (by omega), he (49 + 12 * p + 4) (by omega), he (49 + 12 * p + 7) (by omega), he (49 + 12 * p + 9) (by omega), he (49 + 12 * p + 10) (by omega), he (49 + 12 * p + 11) (by omega)]
    exact q
theorem WF.mono {s : Sv} {B B' : Int} (h : WF s B) (hB : B ≤ B') : WF s B' := by
  obtain ⟨h1, h2, h3, h4, h5, h6, h7, h8⟩ := h
  refine ⟨h1, h2, h3, h4, h5, h6, h7, fun p hp => ?_⟩
  obtain ⟨q1, q2, q3, q4, q5, q6, q7⟩ := h8 p hp
  exact ⟨q1, q2, q3, q4, ⟨q5.1, Int.le_trans q5.2 hB⟩, q6, q7⟩
theorem WS.mono {s : Sv} {B B' : Int} (h : WS s B) (hB : B ≤ B') : WS s B' := ⟨h.1.mono hB, fun i hi => ⟨(h.2 i hi).1, fun q => ((h.2 i hi).2 q).mono hB⟩⟩
theorem StR.frame {V V' : Mm} {T : Nat} {s : Sv} (h : StR V T s) (hF : ∀ k, T ≤ k → k < T + 75 → V' k = V k) : StR V' T s := by
  refine ⟨h.1.frame (fun k h1 h2 => hF k (by omega) (by omega)), fun i hi => ⟨?_, fun q => ((h.2 i hi).2 q).frame (fun k h1 h2 => hF k (by omega) (by omega))⟩⟩
  rw [hF _ (by omega) (by omega)]
  exact (h.2 i hi).1
theorem StR.congr {V : Mm} {T : Nat} {s s' : Sv} (h : StR V T s) (he : ∀ m, m < 581 → s' m = s m) : StR V T s' := by
  refine ⟨h.1.congr (fun m hm => he m (by omega)), fun i hi => ⟨by rw [he _ (by omega)]; exact (h.2 i hi).1, fun q => ?_⟩⟩
  rw [he _ (by omega)] at q
  exact ((h.2 i hi).2 q).congr (fun m hm => he _ (by omega))
theorem WS.congr {s s' : Sv} {B : Int} (h : WS s B) (he : ∀ m, m < 581 → s' m = s m) : WS s' B := by
  refine ⟨h.1.congr (fun m hm => he m (by omega)), fun i hi => ⟨by rw [he _ (by omega)]; exact (h.2 i hi).1, fun q => ?_⟩⟩
  rw [he _ (by omega)] at q
  exact ((h.2 i hi).2 q).congr (fun m hm => he _ (by omega))
theorem ct_cpS (G : GT) (V : Mm) {s : Sv} {B : Int} {S Q : Nat} (hS : Sn S) (hQ : Sn Q) (hd : S + 24 ≤ Q ∨ Q + 24 ≤ S) (hR : Rep V Q s) (hW : WF s B) : Ct G mX7_copyFrom 2 [adr G S, adr G Q] V (fun v V9 => v = none ∧ Rep V9 S s ∧ Fr S (S + 24) V V9) := by
  have q2 := hR 2 (Or.inl (by decide))
  have q3 := hR 3 (Or.inl (by decide))
  have hnp := hW.np.2
  refine ct_X7_copyFrom G V hS hQ hd hR (show V Q 4 = nI (nrN s) from (show V Q 4 = s 2 from q2).trans hW.nr.1) hW.nr.2 (show V Q 5 = nI (npN s) from (show V Q 5 = s 3 from q3).trans hW.np.1) hnp (fun p hp => ?_)
  have e := cl_pm (S := Q) (p := p) (j := 11) (by decide)
  have q := hR (49 + 12 * p + 11) (Or.inr (Or.inr ⟨by omega, by omega, by omega⟩))
  rw [e.1, e.2] at q
  rw [q]
  exact hW.c01 hp
def PstS (V : Mm) (code ans : Int32) (s' : Sv) : PT := fun v V' => (code < 0 ∧ v = some (.int code) ∧ V' = V) ∨ (code = 0 ∧ v = some (.int ans) ∧ StR V' 1 s' ∧ Fr 1 76 V V')
noncomputable def cdTake (x : Int32) : Int32 := cif (0 ≤ x ∧ x ≤ 1) 0 (-100001)
noncomputable def cdRestore (s : Sv) (x : Int32) : Int32 := cif (0 ≤ x ∧ x ≤ 1) (cif (s (193 + 194 * nt x) = 0) (-100002) 0) (-100001)
def nxTake (s : Sv) (i : Nat) : Sv := fun m => if m = 193 + 194 * i then 1 else if 194 + 194 * i ≤ m ∧ m < 194 + 194 * i + 193 then s (m - (194 + 194 * i)) else s m
def nxRestore (s : Sv) (i : Nat) : Sv := fun m => if m < 193 then s (194 + 194 * i + m) else s m
theorem nxTake_lo (s : Sv) {i m : Nat} (h : m < 193) : nxTake s i m = s m := by
  unfold nxTake
  rw [if_neg (by omega), if_neg (by omega)]
theorem nxTake_at (s : Sv) (i : Nat) : nxTake s i (193 + 194 * i) = 1 := if_pos rfl
theorem nxTake_ot (s : Sv) {i j : Nat} (h : j ≠ i) (hj : j < 2) (hi : i < 2) : nxTake s i (193 + 194 * j) = s (193 + 194 * j) := by
  unfold nxTake
  rw [if_neg (by omega), if_neg (by omega)]
theorem nxTake_sb (s : Sv) {i m : Nat} (h : m < 193) : sbS (nxTake s i) i m = s m := by
  unfold sbS nxTake
  rw [if_neg (by omega), if_pos (by omega)]
  congr 1
  omega
theorem nxTake_so (s : Sv) {i j m : Nat} (h : j ≠ i) (hj : j < 2) (hi : i < 2) (hm : m < 193) : sbS (nxTake s i) j m = sbS s j m := by
  unfold sbS nxTake
  rw [if_neg (by omega), if_neg (by omega)]
theorem take_StR {V V' : Mm} {T : Nat} {s : Sv} {i : Nat} (hi : i < 2) (h : StR V T s) (hR : Rep V' (T + 27 + 24 * i) s) (hF : Fr (T + 27 + 24 * i) (T + 27 + 24 * i + 24) V V') : StR (mup V' (T + 26) i 1) T (nxTake s i) := by
  refine ⟨?_, fun j hj => ?_⟩
  · refine (h.1.congr (fun m hm => nxTake_lo s hm)).frame (fun k h1 h2 => ?_)
    rw [mup_ne _ _ _ (by omega), hF _ (by omega)]
  · by_cases hji : j = i
    · subst hji
      rw [mup_self, nxTake_at]
      refine ⟨rfl, fun _ => ?_⟩
      refine (hR.congr (fun m hm => nxTake_sb s hm)).frame (fun k h1 h2 => ?_)
      rw [mup_ne _ _ _ (by omega)]
    · rw [nxTake_ot s hji hj hi, mup_oth _ _ _ _ (Or.inr hji), hF _ (by omega)]
      refine ⟨(h.2 j hj).1, fun q => ?_⟩
      refine (((h.2 j hj).2 q).congr (fun m hm => nxTake_so s hji hj hi hm)).frame (fun k h1 h2 => ?_)
      rw [mup_ne _ _ _ (by omega), hF _ (by omega)]
theorem rest_StR {V V' : Mm} {T : Nat} {s : Sv} {i : Nat} (hi : i < 2) (h : StR V T s) (hR : Rep V' (T + 1) (sbS s i)) (hF : Fr (T + 1) (T + 1 + 24) V V') : StR V' T (nxRestore s i) := by
  refine ⟨hR.congr (fun m hm => if_pos hm), fun j hj => ?_⟩
  have e : nxRestore s i (193 + 194 * j) = s (193 + 194 * j) := if_neg (by omega)
  rw [e, hF _ (by omega)]
  refine ⟨(h.2 j hj).1, fun q => ?_⟩
  refine (((h.2 j hj).2 q).congr (fun m hm => ?_)).frame (fun k h1 h2 => hF k (by omega))
  unfold sbS nxRestore
  rw [if_neg (by omega)]
set_option maxHeartbeats 4000000 in
set_option maxRecDepth 100000 in
theorem lp_X8_copy {G : GT} {C : CT} {V : Mm} {s : Sv} {B : Int} {T U : Nat} (hT : Tn T) (hU : Tn U) (hd : T + 75 ≤ U ∨ U + 75 ≤ T) (hR : StR V U s) (hW : WS s B) (hx : Cx G mX8_copyFrom 3 C) (hq : Cq G (fun v V9 => v = none ∧ StR V9 T s ∧ Fr T (T + 75) V V9) C) : ∀ (n i : Nat), i + n = 2 → ∀ W : Mm, Fr T (T + 75) V W → Rep W (T + 1) s → (∀ j, j < i → (W (T + 26) j = s (193 + 194 * j) ∧ (s (193 + 194 * j) = 1 → Rep W (T + 27 + 24 * j) (sbS s j)))) → Ew G C (W) 13 [some (adr G T), some (adr G U), some (.int (nI i))] [] := by
  intro n
  induction n with
  | zero =>
    intro i hi W hF hR1 hI
    refine Ew.iload_n hx dX8_copyFrom_13 rfl ?_
    refine Ew.iconst hx dX8_copyFrom_14 k_iconst_2 ?_
    refine Ew.icmp_ge_t hx (tgt := 60) dX8_copyFrom_15 rfl (by rw [show i = 2 by omega]; decide) ?_
    refine Ew.vret hx hq dX8_copyFrom_60 rfl ?_
    exact ⟨rfl, ⟨hR1, fun j hj => hI j (by omega)⟩, hF⟩
  | succ n ih =>
    intro i hi W hF hR1 hI
    refine Ew.iload_n hx dX8_copyFrom_13 rfl ?_
    refine Ew.iconst hx dX8_copyFrom_14 k_iconst_2 ?_
    refine Ew.icmp_ge_f hx (tgt := 60) dX8_copyFrom_15 rfl (fun q => by rw [ie, tn (by omega), tl_2] at q; omega) ?_
    refine Ew.aload_n hx dX8_copyFrom_18 rfl ?_
    refine Ew.getR (T + 26) hx dX8_copyFrom_19 fg_RX8_22 (hT.1) (by omega) ?_
    refine Ew.iload_n hx dX8_copyFrom_22 rfl ?_
    refine Ew.aload_n hx dX8_copyFrom_23 rfl ?_
    refine Ew.getR (U + 26) hx dX8_copyFrom_24 fg_RX8_22 (hU.1) (by omega) ?_
    refine Ew.iload_n hx dX8_copyFrom_27 rfl ?_
    refine Ew.zald (i := i) hx dX8_copyFrom_28 ag_12 (hU.2.2.1) (rfl) (by omega) ?_
    have hz := (hW.2 i (by omega)).1
    rw [hF _ (by omega), (hR.2 i (by omega)).1]
    refine Ew.zast (i := i) hx dX8_copyFrom_29 ag_12 (hT.2.2.1) (rfl) (by omega) (narZ hz) ?_
    refine Ew.aload_n hx dX8_copyFrom_30 rfl ?_
    refine Ew.getR (T + 26) hx dX8_copyFrom_31 fg_RX8_22 (hT.1) (by omega) ?_
    refine Ew.iload_n hx dX8_copyFrom_34 rfl ?_
    refine Ew.zald (i := i) hx dX8_copyFrom_35 ag_12 (hT.2.2.1) (rfl) (by omega) ?_
    rw [mup_self]
    refine Ew.if_eq hx (tgt := 54) dX8_copyFrom_36 rfl (fun h36 => ?_) (fun h36 => ?_)
    · refine Ew.iinc hx dX8_copyFrom_54 rfl (k_iinc_1 _) (by decide) rfl ?_
      refine Ew.goto hx (tgt := 13) dX8_copyFrom_57 rfl ?_
      rw [nI_1]
      first
        | refine ih (i + 1) (by omega) V9 ?_ ?_ ?_
          · exact (hF.mup (by omega)).trans (fun k hk => hcF k (by omega))
          · exact hR1.frame (fun k h1 h2 => by rw [hcF _ (by omega), mup_ne _ _ _ (by omega)])
          · intro j hj
            by_cases hji : j = i
            · subst hji
              rw [hcF _ (by omega), mup_self]
              exact ⟨rfl, fun _ => hc⟩
            · rw [hcF _ (by omega), mup_oth _ _ _ _ (Or.inr hji)]
              refine ⟨(hI j (by omega)).1, fun q => ((hI j (by omega)).2 q).frame (fun k h1 h2 => ?_)⟩
              rw [hcF _ (by omega), mup_ne _ _ _ (by omega)]
        | refine ih (i + 1) (by omega) _ (hF.mup (by omega)) ?_ ?_
          · exact hR1.frame (fun k h1 h2 => by rw [mup_ne _ _ _ (by omega)])
          · intro j hj
            by_cases hji : j = i
            · subst hji
              rw [mup_self]
              exact ⟨rfl, fun q => absurd (h36.symm.trans q) (by decide)⟩
            · rw [mup_oth _ _ _ _ (Or.inr hji)]
              refine ⟨(hI j (by omega)).1, fun q => ((hI j (by omega)).2 q).frame (fun k h1 h2 => ?_)⟩
              rw [mup_ne _ _ _ (by omega)]
    · refine Ew.aload_n hx dX8_copyFrom_39 rfl ?_
      refine Ew.getR (T + 25) hx dX8_copyFrom_40 fg_RX8_18 (hT.1) (by omega) ?_
      refine Ew.iload_n hx dX8_copyFrom_43 rfl ?_
      refine Ew.aldq (T + 27 + 24 * i) hx dX8_copyFrom_44 rg_11 (hT.2.1) (rfl) (by omega) (by omega) ?_
      refine Ew.aload_n hx dX8_copyFrom_45 rfl ?_
      refine Ew.getR (U + 25) hx dX8_copyFrom_46 fg_RX8_18 (hU.1) (by omega) ?_
      refine Ew.iload_n hx dX8_copyFrom_49 rfl ?_
      refine Ew.aldq (U + 27 + 24 * i) hx dX8_copyFrom_50 rg_11 (hU.2.1) (rfl) (by omega) (by omega) ?_
      refine Ew.callV2 (y' := mX7_copyFrom) hx dX8_copyFrom_51 ml_RX8_26 cf_X7_copyFrom cv_X7_copyFrom (ct_cpS G _ (hT.2.2.2.2 i (by omega)) (hU.2.2.2.2 i (by omega)) (by omega) (show Rep _ (U + 27 + 24 * i) (sbS s i) from ((hR.2 i (by omega)).2 (hz.resolve_left h36)).frame (fun k h1 h2 => by rw [mup_ne _ _ _ (by omega), hF _ (by omega)])) ((hW.2 i (by omega)).2 (hz.resolve_left h36))) ((hT.2.2.2.2 i (by omega)).1) oc_2 rfl (by decide) (by decide) rfl (Nat.le_of_ble_eq_true rfl) ?_
      rintro _ V9 ⟨rfl, hc, hcF⟩
      refine Ew.iinc hx dX8_copyFrom_54 rfl (k_iinc_1 _) (by decide) rfl ?_
      refine Ew.goto hx (tgt := 13) dX8_copyFrom_57 rfl ?_
      rw [nI_1]
      first
        | refine ih (i + 1) (by omega) V9 ?_ ?_ ?_
          · exact (hF.mup (by omega)).trans (fun k hk => hcF k (by omega))
          · exact hR1.frame (fun k h1 h2 => by rw [hcF _ (by omega), mup_ne _ _ _ (by omega)])
          · intro j hj
            by_cases hji : j = i
            · subst hji
              rw [hcF _ (by omega), mup_self]
              exact ⟨rfl, fun _ => hc⟩
            · rw [hcF _ (by omega), mup_oth _ _ _ _ (Or.inr hji)]
              refine ⟨(hI j (by omega)).1, fun q => ((hI j (by omega)).2 q).frame (fun k h1 h2 => ?_)⟩
              rw [hcF _ (by omega), mup_ne _ _ _ (by omega)]
        | refine ih (i + 1) (by omega) _ (hF.mup (by omega)) ?_ ?_
          · exact hR1.frame (fun k h1 h2 => by rw [mup_ne _ _ _ (by omega)])
          · intro j hj
            by_cases hji : j = i
            · subst hji
              rw [mup_self]
              exact ⟨rfl, fun q => absurd (h36.symm.trans q) (by decide)⟩
            · rw [mup_oth _ _ _ _ (Or.inr hji)]
              refine ⟨(hI j (by omega)).1, fun q => ((hI j (by omega)).2 q).frame (fun k h1 h2 => ?_)⟩
              rw [mup_ne _ _ _ (by omega)]
set_option maxHeartbeats 4000000 in
set_option maxRecDepth 100000 in
theorem ct_X8_copyFrom (G : GT) (V : Mm) {s : Sv} {B : Int} {T U : Nat} (hT : Tn T) (hU : Tn U) (hd : T + 75 ≤ U ∨ U + 75 ≤ T) (hR : StR V U s) (hW : WS s B) : Ct G mX8_copyFrom 3 [adr G T, adr G U] (V) (fun v V9 => v = none ∧ StR V9 T s ∧ Fr T (T + 75) V V9) := by
  refine Ct.of cf_X8_copyFrom (List.forall_mem_cons.mpr ⟨rfl, List.forall_mem_cons.mpr ⟨rfl, fun _ h => absurd h List.not_mem_nil⟩⟩) (Nat.le_of_ble_eq_true rfl) (l0 := [some (adr G T), some (adr G U), none]) rfl (fun C hx hq => ?_)
  refine Ew.aload_n hx dX8_copyFrom_0 rfl ?_
  refine Ew.getR (T + 1) hx dX8_copyFrom_1 fg_RX8_12 (hT.1) (by omega) ?_
  refine Ew.aload_n hx dX8_copyFrom_4 rfl ?_
  refine Ew.getR (U + 1) hx dX8_copyFrom_5 fg_RX8_12 (hU.1) (by omega) ?_
  refine Ew.callV2 (y' := mX7_copyFrom) hx dX8_copyFrom_8 ml_RX8_26 cf_X7_copyFrom cv_X7_copyFrom (ct_cpS G V hT.2.2.2.1 hU.2.2.2.1 (by omega) hR.1 hW.1) (hT.2.2.2.1.1) oc_2 rfl (by decide) (by decide) rfl (Nat.le_of_ble_eq_true rfl) ?_
  rintro _ V9 ⟨rfl, hc, hcF⟩
  refine Ew.iconst hx dX8_copyFrom_11 k_iconst_0 ?_
  refine Ew.istore_n hx dX8_copyFrom_12 (by decide) rfl ?_
  exact lp_X8_copy hT hU hd hR hW hx hq 2 0 (by omega) V9 (fun k hk => hcF k (by omega)) hc (fun j hj => absurd hj (Nat.not_lt_zero j))
set_option maxHeartbeats 4000000 in
set_option maxRecDepth 100000 in
theorem ct_X8_takeSnapshot (G : GT) (V : Mm) {s : Sv} {B : Int} (hR : StR V 1 s) (hW : WS s B) (x : Int32) : Ct G mX8_takeSnapshot 3 [adr G 1, .int x] (V) (PstS V (cdTake x) (s 0) (nxTake s (nt x))) := by
  refine Ct.of cf_X8_takeSnapshot (List.forall_mem_cons.mpr ⟨rfl, List.forall_mem_cons.mpr ⟨rfl, fun _ h => absurd h List.not_mem_nil⟩⟩) (Nat.le_of_ble_eq_true rfl) (l0 := [some (adr G 1), some (.int x)]) rfl (fun C hx hq => ?_)
  refine Ew.iload_n hx dX8_takeSnapshot_0 rfl ?_
  refine Ew.iconst hx dX8_takeSnapshot_1 k_iconst_0 ?_
  refine Ew.iconst hx dX8_takeSnapshot_2 k_iconst_1 ?_
  refine Ew.callSN (y' := mX11_isWithin) hx dX8_takeSnapshot_3 (host := RX11) (List.mem_of_getElem? (i := 9) rfl) cf_X11_isWithin cs_X11_isWithin (ct_X11_isWithin G _ _ _ _) rfl (by decide) (by decide) rfl (Nat.le_of_ble_eq_true rfl) ?_
  rintro _ V9 ⟨rfl, h9⟩; subst V9
  refine Ew.ifne_b hx (tgt := 12) dX8_takeSnapshot_6 rfl (fun h6 => ?_) (fun h6 => ?_)
  · have ec : cdTake x = 0 := cif_t h6
    have h6a := h6
    rw [ie, ie, tl_0, tl_1] at h6a
    have hi : nt x < 2 := by unfold nt; omega
    have ex : x = nI (nt x) := ofNI h6a.1
    refine Ew.aload_n hx dX8_takeSnapshot_12 rfl ?_
    refine Ew.getR (26) hx dX8_takeSnapshot_13 fg_RX8_18 rfl rfl ?_
    refine Ew.iload_n hx dX8_takeSnapshot_16 rfl ?_
    refine Ew.aldq (28 + 24 * nt x) hx dX8_takeSnapshot_17 rg_11 rfl (ex) (hi) (by omega) ?_
    refine Ew.aload_n hx dX8_takeSnapshot_18 rfl ?_
    refine Ew.getR (2) hx dX8_takeSnapshot_19 fg_RX8_12 rfl rfl ?_
    refine Ew.callV2 (y' := mX7_copyFrom) hx dX8_takeSnapshot_22 ml_RX8_26 cf_X7_copyFrom cv_X7_copyFrom (ct_cpS G V (tn_1.2.2.2.2 (nt x) hi) (show Sn 2 from tn_1.2.2.2.1) (by omega) hR.1 hW.1) ((tn_1.2.2.2.2 (nt x) hi).1) oc_2 rfl (by decide) (by decide) rfl (Nat.le_of_ble_eq_true rfl) ?_
    rintro _ V9 ⟨rfl, hc, hcF⟩
    refine Ew.aload_n hx dX8_takeSnapshot_25 rfl ?_
    refine Ew.getR (27) hx dX8_takeSnapshot_26 fg_RX8_22 rfl rfl ?_
    refine Ew.iload_n hx dX8_takeSnapshot_29 rfl ?_
    refine Ew.iconst hx dX8_takeSnapshot_30 k_iconst_1 ?_
    refine Ew.zast (i := nt x) hx dX8_takeSnapshot_31 ag_12 rfl (ex) (hi) (by decide) ?_
    refine Ew.aload_n hx dX8_takeSnapshot_32 rfl ?_
    refine Ew.getR (2) hx dX8_takeSnapshot_33 fg_RX8_12 rfl rfl ?_
    refine Ew.getR (3) hx dX8_takeSnapshot_36 fg_RX8_35 rfl rfl ?_
    refine Ew.getI hx dX8_takeSnapshot_39 fg_RX8_39 rfl ?_
    refine Ew.iret hx hq dX8_takeSnapshot_42 rfl ?_
    refine Or.inr ⟨ec, ?_, take_StR hi hR hc hcF, ?_⟩
    · rw [mup_oth _ _ _ _ (Or.inl (by decide)), hcF 3 (by omega)]
      have q := Rep.today hR.1
      rw [q]
    · refine Fr.mup (fun k hk => hcF k (by omega)) (by decide)
  · have ec : cdTake x = -100001 := cif_f h6
    refine Ew.ldc hx dX8_takeSnapshot_9 kn_RX8_34 ?_
    refine Ew.iret hx hq dX8_takeSnapshot_11 rfl ?_
    exact Or.inl ⟨by rw [ec]; decide, by rw [ec], rfl⟩
set_option maxHeartbeats 4000000 in
set_option maxRecDepth 100000 in
theorem ct_X8_restoreSnapshot (G : GT) (V : Mm) {s : Sv} {B : Int} (hR : StR V 1 s) (hW : WS s B) (x : Int32) : Ct G mX8_restoreSnapshot 3 [adr G 1, .int x] (V) (PstS V (cdRestore s x) (nxRestore s (nt x) 0) (nxRestore s (nt x))) := by
  refine Ct.of cf_X8_restoreSnapshot (List.forall_mem_cons.mpr ⟨rfl, List.forall_mem_cons.mpr ⟨rfl, fun _ h => absurd h List.not_mem_nil⟩⟩) (Nat.le_of_ble_eq_true rfl) (l0 := [some (adr G 1), some (.int x)]) rfl (fun C hx hq => ?_)
  refine Ew.iload_n hx dX8_restoreSnapshot_0 rfl ?_
  refine Ew.iconst hx dX8_restoreSnapshot_1 k_iconst_0 ?_
  refine Ew.iconst hx dX8_restoreSnapshot_2 k_iconst_1 ?_
  refine Ew.callSN (y' := mX11_isWithin) hx dX8_restoreSnapshot_3 (host := RX11) (List.mem_of_getElem? (i := 9) rfl) cf_X11_isWithin cs_X11_isWithin (ct_X11_isWithin G _ _ _ _) rfl (by decide) (by decide) rfl (Nat.le_of_ble_eq_true rfl) ?_
  rintro _ V9 ⟨rfl, h9⟩; subst V9
  refine Ew.ifne_b hx (tgt := 12) dX8_restoreSnapshot_6 rfl (fun h6 => ?_) (fun h6 => ?_)
  · have ok : cdRestore s x = _ := cif_t h6
    have h6a := h6
    rw [ie, ie, tl_0, tl_1] at h6a
    have hi : nt x < 2 := by unfold nt; omega
    have ex : x = nI (nt x) := ofNI h6a.1
    refine Ew.aload_n hx dX8_restoreSnapshot_12 rfl ?_
    refine Ew.getR (27) hx dX8_restoreSnapshot_13 fg_RX8_22 rfl rfl ?_
    refine Ew.iload_n hx dX8_restoreSnapshot_16 rfl ?_
    refine Ew.zald (i := nt x) hx dX8_restoreSnapshot_17 ag_12 rfl (ex) (hi) ?_
    have e27 : V 27 (nt x) = s (193 + 194 * nt x) := (hR.2 (nt x) hi).1
    rw [e27]
    refine Ew.if_ne hx (tgt := 24) dX8_restoreSnapshot_18 rfl (fun h18 => ?_) (fun h18 => ?_)
    · have ec : cdRestore s x = 0 := ok.trans (cif_f h18)
      have h1 : s (193 + 194 * nt x) = 1 := (hW.2 (nt x) hi).1.resolve_left h18
      refine Ew.aload_n hx dX8_restoreSnapshot_24 rfl ?_
      refine Ew.getR (2) hx dX8_restoreSnapshot_25 fg_RX8_12 rfl rfl ?_
      refine Ew.aload_n hx dX8_restoreSnapshot_28 rfl ?_
      refine Ew.getR (26) hx dX8_restoreSnapshot_29 fg_RX8_18 rfl rfl ?_
      refine Ew.iload_n hx dX8_restoreSnapshot_32 rfl ?_
      refine Ew.aldq (28 + 24 * nt x) hx dX8_restoreSnapshot_33 rg_11 rfl (ex) (hi) (by omega) ?_
      refine Ew.callV2 (y' := mX7_copyFrom) hx dX8_restoreSnapshot_34 ml_RX8_26 cf_X7_copyFrom cv_X7_copyFrom (ct_cpS G V (show Sn 2 from tn_1.2.2.2.1) (tn_1.2.2.2.2 (nt x) hi) (by omega) ((hR.2 (nt x) hi).2 h1) ((hW.2 (nt x) hi).2 h1)) rfl oc_2 rfl (by decide) (by decide) rfl (Nat.le_of_ble_eq_true rfl) ?_
      rintro _ V9 ⟨rfl, hc, hcF⟩
      refine Ew.aload_n hx dX8_restoreSnapshot_37 rfl ?_
      refine Ew.getR (2) hx dX8_restoreSnapshot_38 fg_RX8_12 rfl rfl ?_
      refine Ew.getR (3) hx dX8_restoreSnapshot_41 fg_RX8_35 rfl rfl ?_
      refine Ew.getI hx dX8_restoreSnapshot_44 fg_RX8_39 rfl ?_
      refine Ew.iret hx hq dX8_restoreSnapshot_47 rfl ?_
      refine Or.inr ⟨ec, ?_, rest_StR hi hR hc hcF, fun k hk => hcF k (by omega)⟩
      have q := Rep.today hc
      rw [q]
      rfl
    · have ec : cdRestore s x = -100002 := ok.trans (cif_t h18)
      refine Ew.ldc hx dX8_restoreSnapshot_21 kn_RX8_45 ?_
      refine Ew.iret hx hq dX8_restoreSnapshot_23 rfl ?_
      exact Or.inl ⟨by rw [ec]; decide, by rw [ec], rfl⟩
  · have ec : cdRestore s x = -100001 := cif_f h6
    refine Ew.ldc hx dX8_restoreSnapshot_9 kn_RX8_34 ?_
    refine Ew.iret hx hq dX8_restoreSnapshot_11 rfl ?_
    exact Or.inl ⟨by rw [ec]; decide, by rw [ec], rfl⟩
set_option maxHeartbeats 4000000 in
set_option maxRecDepth 100000 in
theorem lp_X8_snap {G : GT} {C : CT} {V : Mm} {s : Sv} {B : Int} (hR : StR V 1 s) (hW : WS s B) (hx : Cx G mX8_snapshots 0 C) (hq : Cq G (Ri (sumN (fun i => s (193 + 194 * i)) 2) V) C) : ∀ (n i : Nat), i + n = 2 → Ew G C (V) 4 [some (adr G 1), some (.int (sumN (fun i => s (193 + 194 * i)) i)), some (.int (nI i))] [] := by
  intro n
  induction n with
  | zero =>
    intro i hi
    refine Ew.iload_n hx dX8_snapshots_4 rfl ?_
    refine Ew.iconst hx dX8_snapshots_5 k_iconst_2 ?_
    refine Ew.icmp_ge_t hx (tgt := 27) dX8_snapshots_6 rfl (by rw [show i = 2 by omega]; decide) ?_
    refine Ew.iload_n hx dX8_snapshots_27 rfl ?_
    refine Ew.iret hx hq dX8_snapshots_28 rfl ?_
    rw [show i = 2 by omega]
    exact ⟨rfl, rfl⟩
  | succ n ih =>
    intro i hi
    refine Ew.iload_n hx dX8_snapshots_4 rfl ?_
    refine Ew.iconst hx dX8_snapshots_5 k_iconst_2 ?_
    refine Ew.icmp_ge_f hx (tgt := 27) dX8_snapshots_6 rfl (fun q => by rw [ie, tn (by omega), tl_2] at q; omega) ?_
    refine Ew.aload_n hx dX8_snapshots_9 rfl ?_
    refine Ew.getR (27) hx dX8_snapshots_10 fg_RX8_22 rfl rfl ?_
    refine Ew.iload_n hx dX8_snapshots_13 rfl ?_
    refine Ew.zald (i := i) hx dX8_snapshots_14 ag_12 rfl (rfl) (by omega) ?_
    have hz := (hW.2 i (by omega)).1
    have e27 : V 27 i = s (193 + 194 * i) := (hR.2 i (by omega)).1
    rw [e27]
    refine Ew.if_eq hx (tgt := 21) dX8_snapshots_15 rfl (fun h15 => ?_) (fun h15 => ?_)
    · have e : sumN (fun i => s (193 + 194 * i)) (i + 1) = sumN (fun i => s (193 + 194 * i)) i := by
        show sumN (fun i => s (193 + 194 * i)) i + s (193 + 194 * i) = _
        rw [h15, Int32.add_zero]
      refine Ew.iinc hx dX8_snapshots_21 rfl (k_iinc_1 _) (by decide) rfl ?_
      refine Ew.goto hx (tgt := 4) dX8_snapshots_24 rfl ?_
      have q := ih (i + 1) (by omega)
      rw [e] at q
      rw [nI_1]
      exact q
    · have e : sumN (fun i => s (193 + 194 * i)) (i + 1) = sumN (fun i => s (193 + 194 * i)) i + 1 := by
        show sumN (fun i => s (193 + 194 * i)) i + s (193 + 194 * i) = _
        rw [hz.resolve_left h15]
      refine Ew.iinc hx dX8_snapshots_18 rfl (k_iinc_1 _) (by decide) rfl ?_
      refine Ew.iinc hx dX8_snapshots_21 rfl (k_iinc_1 _) (by decide) rfl ?_
      refine Ew.goto hx (tgt := 4) dX8_snapshots_24 rfl ?_
      have q := ih (i + 1) (by omega)
      rw [e] at q
      rw [nI_1]
      exact q
set_option maxHeartbeats 4000000 in
set_option maxRecDepth 100000 in
theorem ct_X8_snapshots (G : GT) (V : Mm) {s : Sv} {B : Int} (hR : StR V 1 s) (hW : WS s B) : Ct G mX8_snapshots 0 [adr G 1] (V) (Ri (sumN (fun i => s (193 + 194 * i)) 2) V) := by
  refine Ct.of cf_X8_snapshots (List.forall_mem_cons.mpr ⟨rfl, fun _ h => absurd h List.not_mem_nil⟩) (Nat.le_of_ble_eq_true rfl) (l0 := [some (adr G 1), none, none]) rfl (fun C hx hq => ?_)
  refine Ew.iconst hx dX8_snapshots_0 k_iconst_0 ?_
  refine Ew.istore_n hx dX8_snapshots_1 (by decide) rfl ?_
  refine Ew.iconst hx dX8_snapshots_2 k_iconst_0 ?_
  refine Ew.istore_n hx dX8_snapshots_3 (by decide) rfl ?_
  exact lp_X8_snap hR hW hx hq 2 0 (by omega)
set_option maxHeartbeats 4000000 in
set_option maxRecDepth 100000 in
theorem ct_X3_prepared (G : GT) (V : Mm) {n : Nat} (e1 : V 76 1 = nI n) (hn : n < 6) : Ct G mX3_prepared 1 [adr G 76] (V) (fun v V9 => v = some (adr G (78 + 75 * n)) ∧ V9 = V) := by
  refine Ct.of cf_X3_prepared (List.forall_mem_cons.mpr ⟨rfl, fun _ h => absurd h List.not_mem_nil⟩) (Nat.le_of_ble_eq_true rfl) (l0 := [some (adr G 76)]) rfl (fun C hx hq => ?_)
  refine Ew.aload_n hx dX3_prepared_0 rfl ?_
  refine Ew.getR (77) hx dX3_prepared_1 fg_RX3_11 rfl rfl ?_
  refine Ew.aload_n hx dX3_prepared_4 rfl ?_
  refine Ew.getI hx dX3_prepared_5 fg_RX3_26 rfl ?_
  refine Ew.iconst hx dX3_prepared_8 k_iconst_0 ?_
  refine Ew.iconst hx dX3_prepared_9 k_iconst_5 ?_
  refine Ew.callSN (y' := mX11_isWithin) hx dX3_prepared_10 (host := RX11) (List.mem_of_getElem? (i := 10) rfl) cf_X11_isWithin cs_X11_isWithin (ct_X11_isWithin G _ _ _ _) rfl (by decide) (by decide) rfl (Nat.le_of_ble_eq_true rfl) ?_
  rintro _ V9 ⟨rfl, h9⟩; subst V9
  rw [e1]
  have wn : (0 : Int32) ≤ nI n ∧ nI n ≤ 5 := by
    simp only [ie]
    rw [tn (by omega), tl_5, tl_0]
    omega
  rw [b2i_t (wn)]
  refine Ew.if_eq_f hx (tgt := 23) dX3_prepared_13 rfl (by decide) ?_
  refine Ew.aload_n hx dX3_prepared_16 rfl ?_
  refine Ew.getI hx dX3_prepared_17 fg_RX3_26 rfl ?_
  refine Ew.goto hx (tgt := 24) dX3_prepared_20 rfl ?_
  refine Ew.aldq (78 + 75 * n) hx dX3_prepared_24 rg_14 rfl (e1) (hn) (by omega) ?_
  refine Ew.aret hx hq dX3_prepared_25 rfl (Or.inr ⟨_, rfl⟩) ?_
  exact ⟨rfl, rfl⟩
set_option maxHeartbeats 4000000 in
set_option maxRecDepth 100000 in
theorem ct_X3_prepare (G : GT) (V : Mm) {s : Sv} {B : Int} {n : Nat} (e1 : V 76 1 = nI n) (hn : n < 6) (hR : StR V 1 s) (hW : WS s B) : Ct G mX3_prepare 4 [adr G 76, adr G 1] (V) (fun v V9 => v = none ∧ StR V9 (78 + 75 * n) s ∧ Fr (78 + 75 * n) (78 + 75 * n + 75) V V9) := by
  refine Ct.of cf_X3_prepare (List.forall_mem_cons.mpr ⟨rfl, List.forall_mem_cons.mpr ⟨rfl, fun _ h => absurd h List.not_mem_nil⟩⟩) (Nat.le_of_ble_eq_true rfl) (l0 := [some (adr G 76), some (adr G 1)]) rfl (fun C hx hq => ?_)
  refine Ew.aload_n hx dX3_prepare_0 rfl ?_
  refine Ew.callV2 (y' := mX3_prepared) hx dX3_prepare_1 ml_RX3_18 cf_X3_prepared cv_X3_prepared (ct_X3_prepared G V e1 hn) rfl oc_13 rfl (by decide) (by decide) rfl (Nat.le_of_ble_eq_true rfl) ?_
  rintro _ V9 ⟨rfl, h9⟩; subst V9
  refine Ew.aload_n hx dX3_prepare_4 rfl ?_
  refine Ew.callV2 (y' := mX8_copyFrom) hx dX3_prepare_5 ml_RX3_22 cf_X8_copyFrom cv_X8_copyFrom (ct_X8_copyFrom G _ (tn_r hn) tn_1 (by omega) hR hW) ((tn_r hn).1) oc_1 rfl (by decide) (by decide) rfl (Nat.le_of_ble_eq_true rfl) ?_
  rintro _ V9 ⟨rfl, hc, hcF⟩
  refine Ew.vret hx hq dX3_prepare_8 rfl ?_
  exact ⟨rfl, hc, hcF⟩
def nxH (n : Nat) : Nat := if 5 ≤ n then 0 else n + 1
def szH (z : Nat) : Nat := if z < 5 then z + 1 else 5
theorem mup_id {V : Mm} {k i : Nat} {x : Int32} (h : V k i = x) : mup V k i x = V := by
  funext a
  by_cases ha : a = k
  · subst ha
    rw [mup_same]
    funext j
    by_cases hj : j = i
    · subst hj; rw [upd_s]; exact h.symm
    · rw [upd_n _ _ hj]
  · rw [mup_ne _ _ _ ha]
set_option maxHeartbeats 4000000 in
set_option maxRecDepth 100000 in
theorem ct_X3_keep (G : GT) (V : Mm) {n z : Nat} (e1 : V 76 1 = nI n) (hn : n < 6) (e2 : V 76 2 = nI z) (hz : z ≤ 5) : Ct G mX3_keep 0 [adr G 76] (V) (Rv (mup (mup V 76 1 (nI (nxH n))) 76 2 (nI (szH z)))) := by
  refine Ct.of cf_X3_keep (List.forall_mem_cons.mpr ⟨rfl, fun _ h => absurd h List.not_mem_nil⟩) (Nat.le_of_ble_eq_true rfl) (l0 := [some (adr G 76)]) rfl (fun C hx hq => ?_)
  refine Ew.aload_n hx dX3_keep_0 rfl ?_
  refine Ew.aload_n hx dX3_keep_1 rfl ?_
  refine Ew.getI hx dX3_keep_2 fg_RX3_26 rfl ?_
  refine Ew.iconst hx dX3_keep_5 k_iconst_5 ?_
  rw [e1]
  refine Ew.icmp_lt hx (tgt := 13) dX3_keep_6 rfl (fun h6 => ?_) (fun h6 => ?_)
  · have e3 : nxH n = n + 1 := if_neg (by rw [il, tn (by omega), tl_5] at h6; omega)
    refine Ew.aload_n hx dX3_keep_13 rfl ?_
    refine Ew.getI hx dX3_keep_14 fg_RX3_26 rfl ?_
    refine Ew.iconst hx dX3_keep_17 k_iconst_1 ?_
    rw [e1]
    refine Ew.iadd hx dX3_keep_18 ?_
    try rw [nI_1]
    refine Ew.putI hx dX3_keep_19 pg_RX3_26 rfl ?_
    refine Ew.aload_n hx dX3_keep_22 rfl ?_
    refine Ew.getI hx dX3_keep_23 fg_RX3_34 rfl ?_
    refine Ew.iconst hx dX3_keep_26 k_iconst_5 ?_
    rw [mup_oth _ _ _ _ (Or.inr (by decide)), e2]
    refine Ew.icmp_ge hx (tgt := 40) dX3_keep_27 rfl (fun h27 => ?_) (fun h27 => ?_)
    · have e4 : szH z = 5 := if_neg (by rw [ie, tn (by omega), tl_5] at h27; omega)
      have e5 : z = 5 := by rw [ie, tn (by omega), tl_5] at h27; omega
      refine Ew.vret hx hq dX3_keep_40 rfl ?_
      rw [e3, e4]
      first
        | exact ⟨rfl, rfl⟩
        | (refine ⟨rfl, ?_⟩
           rw [mup_id (show mup V 76 1 _ 76 2 = nI 5 by rw [mup_oth _ _ _ _ (Or.inr (by decide)), e2, e5])]
           try rfl)
    · have e4 : szH z = z + 1 := if_pos (by rw [ie, tn (by omega), tl_5] at h27; omega)
      refine Ew.aload_n hx dX3_keep_30 rfl ?_
      refine Ew.dup hx dX3_keep_31 rfl ?_
      refine Ew.getI hx dX3_keep_32 fg_RX3_34 rfl ?_
      refine Ew.iconst hx dX3_keep_35 k_iconst_1 ?_
      refine Ew.iadd hx dX3_keep_36 ?_
      rw [mup_oth _ _ _ _ (Or.inr (by decide)), e2, nI_1]
      refine Ew.putI hx dX3_keep_37 pg_RX3_34 rfl ?_
      refine Ew.vret hx hq dX3_keep_40 rfl ?_
      rw [e3, e4]
      first
        | exact ⟨rfl, rfl⟩
        | (refine ⟨rfl, ?_⟩
           rw [mup_id (show mup V 76 1 _ 76 2 = nI 5 by rw [mup_oth _ _ _ _ (Or.inr (by decide)), e2, e5])]
           try rfl)
  · have e3 : nxH n = 0 := if_pos (by rw [il, tn (by omega), tl_5] at h6; omega)
    refine Ew.iconst hx dX3_keep_9 k_iconst_0 ?_
    refine Ew.goto hx (tgt := 19) dX3_keep_10 rfl ?_
    try rw [nI_1]
    refine Ew.putI hx dX3_keep_19 pg_RX3_26 rfl ?_
    refine Ew.aload_n hx dX3_keep_22 rfl ?_
    refine Ew.getI hx dX3_keep_23 fg_RX3_34 rfl ?_
    refine Ew.iconst hx dX3_keep_26 k_iconst_5 ?_
    rw [mup_oth _ _ _ _ (Or.inr (by decide)), e2]
    refine Ew.icmp_ge hx (tgt := 40) dX3_keep_27 rfl (fun h27 => ?_) (fun h27 => ?_)
    · have e4 : szH z = 5 := if_neg (by rw [ie, tn (by omega), tl_5] at h27; omega)
      have e5 : z = 5 := by rw [ie, tn (by omega), tl_5] at h27; omega
      refine Ew.vret hx hq dX3_keep_40 rfl ?_
      rw [e3, e4]
      first
        | exact ⟨rfl, rfl⟩
        | (refine ⟨rfl, ?_⟩
           rw [mup_id (show mup V 76 1 _ 76 2 = nI 5 by rw [mup_oth _ _ _ _ (Or.inr (by decide)), e2, e5])]
           try rfl)
    · have e4 : szH z = z + 1 := if_pos (by rw [ie, tn (by omega), tl_5] at h27; omega)
      refine Ew.aload_n hx dX3_keep_30 rfl ?_
      refine Ew.dup hx dX3_keep_31 rfl ?_
      refine Ew.getI hx dX3_keep_32 fg_RX3_34 rfl ?_
      refine Ew.iconst hx dX3_keep_35 k_iconst_1 ?_
      refine Ew.iadd hx dX3_keep_36 ?_
      rw [mup_oth _ _ _ _ (Or.inr (by decide)), e2, nI_1]
      refine Ew.putI hx dX3_keep_37 pg_RX3_34 rfl ?_
      refine Ew.vret hx hq dX3_keep_40 rfl ?_
      rw [e3, e4]
      first
        | exact ⟨rfl, rfl⟩
        | (refine ⟨rfl, ?_⟩
           rw [mup_id (show mup V 76 1 _ 76 2 = nI 5 by rw [mup_oth _ _ _ _ (Or.inr (by decide)), e2, e5])]
           try rfl)
def pvH (n : Nat) : Nat := if n = 0 then 5 else n - 1
set_option maxHeartbeats 4000000 in
set_option maxRecDepth 100000 in
theorem ct_X3_dropLatest (G : GT) (V : Mm) {n z : Nat} (e1 : V 76 1 = nI n) (hn : n < 6) (e2 : V 76 2 = nI (z + 1)) (hz : z < 5) : Ct G mX3_dropLatest 0 [adr G 76] (V) (Rv (mup (mup V 76 1 (nI (pvH n))) 76 2 (nI z))) := by
  refine Ct.of cf_X3_dropLatest (List.forall_mem_cons.mpr ⟨rfl, fun _ h => absurd h List.not_mem_nil⟩) (Nat.le_of_ble_eq_true rfl) (l0 := [some (adr G 76)]) rfl (fun C hx hq => ?_)
  refine Ew.aload_n hx dX3_dropLatest_0 rfl ?_
  refine Ew.aload_n hx dX3_dropLatest_1 rfl ?_
  refine Ew.getI hx dX3_dropLatest_2 fg_RX3_26 rfl ?_
  rw [e1]
  refine Ew.if_gt hx (tgt := 12) dX3_dropLatest_5 rfl (fun h5 => ?_) (fun h5 => ?_)
  · have h5 : n ≠ 0 := by rw [il, tn (by omega), tl_0] at h5; omega
    have e3 : pvH n = n - 1 := if_neg h5
    refine Ew.aload_n hx dX3_dropLatest_12 rfl ?_
    refine Ew.getI hx dX3_dropLatest_13 fg_RX3_26 rfl ?_
    refine Ew.iconst hx dX3_dropLatest_16 k_iconst_1 ?_
    have e6 : V 76 1 - 1 = nI (n - 1) := by
      have q := nI_pred (n - 1)
      rw [show n - 1 + 1 = n by omega] at q
      rw [e1]
      exact q
    refine Ew.isub hx dX3_dropLatest_17 ?_
    try rw [e6]
    refine Ew.putI hx dX3_dropLatest_18 pg_RX3_26 rfl ?_
    refine Ew.aload_n hx dX3_dropLatest_21 rfl ?_
    refine Ew.dup hx dX3_dropLatest_22 rfl ?_
    refine Ew.getI hx dX3_dropLatest_23 fg_RX3_34 rfl ?_
    refine Ew.iconst hx dX3_dropLatest_26 k_iconst_1 ?_
    refine Ew.isub hx dX3_dropLatest_27 ?_
    rw [mup_oth _ _ _ _ (Or.inr (by decide)), e2, nI_pred]
    refine Ew.putI hx dX3_dropLatest_28 pg_RX3_34 rfl ?_
    refine Ew.vret hx hq dX3_dropLatest_31 rfl ?_
    rw [e3]
    exact ⟨rfl, rfl⟩
  · have e3 : pvH n = 5 := if_pos (by rw [il, tn (by omega), tl_0] at h5; omega)
    refine Ew.iconst hx dX3_dropLatest_8 k_iconst_5 ?_
    refine Ew.goto hx (tgt := 18) dX3_dropLatest_9 rfl ?_
    try rw [e6]
    refine Ew.putI hx dX3_dropLatest_18 pg_RX3_26 rfl ?_
    refine Ew.aload_n hx dX3_dropLatest_21 rfl ?_
    refine Ew.dup hx dX3_dropLatest_22 rfl ?_
    refine Ew.getI hx dX3_dropLatest_23 fg_RX3_34 rfl ?_
    refine Ew.iconst hx dX3_dropLatest_26 k_iconst_1 ?_
    refine Ew.isub hx dX3_dropLatest_27 ?_
    rw [mup_oth _ _ _ _ (Or.inr (by decide)), e2, nI_pred]
    refine Ew.putI hx dX3_dropLatest_28 pg_RX3_34 rfl ?_
    refine Ew.vret hx hq dX3_dropLatest_31 rfl ?_
    rw [e3]
    exact ⟨rfl, rfl⟩
