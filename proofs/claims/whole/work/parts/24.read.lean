section XN
variable {G : GT} {C : CT} {V : Mm} {y : MT} {d pc npc : Nat} {l : List (Option Value)} {st : List Value}
theorem Ew.xnull (hx : Cx G y d C) (hd : Dc y.2.1 pc (.aconst_null) 1 npc) (kk : Ew G C V npc l (.null :: st)) : Ew G C V pc l st := by
  obtain ⟨he, hb, hown, ht, -⟩ := hx; obtain ⟨hd, rfl⟩ := hd
  intro H locs ls hP hS hL
  exact lv_null he hb hd (kk H locs ls hP hS hL)
theorem Ew.xnn {off : Int} {x tgt : Nat} (hx : Cx G y d C) (hd : Dc y.2.1 pc (.ifnonnull off) 3 npc) (ht : (pc : Int) + off = (tgt : Int)) (kk : Ew G C V tgt l st) : Ew G C V pc l (.ref x :: st) := by
  obtain ⟨he, hb, hown, -⟩ := hx; obtain ⟨hd, rfl⟩ := hd
  intro H locs ls hP hS hL
  exact lv_ifnonnull he hb hd ht (kk H locs ls hP hS hL)
theorem Ew.xnnN {off : Int} (hx : Cx G y d C) (hd : Dc y.2.1 pc (.ifnonnull off) 3 npc) (kk : Ew G C V npc l st) : Ew G C V pc l (.null :: st) := by
  obtain ⟨he, hb, hown, -⟩ := hx; obtain ⟨hd, rfl⟩ := hd
  intro H locs ls hP hS hL
  exact lv_ifnonnullN he hb hd (kk H locs ls hP hS hL)
theorem Ew.astore_nN {k : Fin 4} (hx : Cx G y d C) (hd : Dc y.2.1 pc (.astore_n k) 1 npc) (hk : (k : Nat) < y.2.2.1) (hc : cat1 l = true) (kk : Ew G C V npc (l.set (k : Nat) (some .null)) st) : Ew G C V pc l (.null :: st) := by
  obtain ⟨he, hb, -, -, -, -, -, -, -, hm, -⟩ := hx; obtain ⟨hd, rfl⟩ := hd
  intro H locs ls hP hS hL
  exact lv_astore_nN he hb hd rfl (lvO_has hL) (by rw [hm]; exact hk) rfl (fun ls' h => kk H locs ls' hP hS (lvO_back (fun _ q => q) hc h))
theorem Ew.astoreN {k : Nat} (hx : Cx G y d C) (hd : Dc y.2.1 pc (.astore k) 2 npc) (hk : k < y.2.2.1) (hc : cat1 l = true) (kk : Ew G C V npc (l.set k (some .null)) st) : Ew G C V pc l (.null :: st) := by
  obtain ⟨he, hb, -, -, -, -, -, -, -, hm, -⟩ := hx; obtain ⟨hd, rfl⟩ := hd
  intro H locs ls hP hS hL
  exact lv_astoreN he hb hd (lvO_has hL) (by rw [hm]; exact hk) rfl (fun ls' h => kk H locs ls' hP hS (lvO_back (fun _ q => q) hc h))
theorem Ew.aload_nN {k : Fin 4} (hx : Cx G y d C) (hd : Dc y.2.1 pc (.aload_n k) 1 npc) (hl : l[(k : Nat)]? = some (some .null)) (kk : Ew G C V npc l (.null :: st)) : Ew G C V pc l st := by
  obtain ⟨he, hb, -⟩ := hx; obtain ⟨hd, rfl⟩ := hd
  intro H locs ls hP hS hL
  exact lv_aload_nN he hb hd rfl (hL.2.2 _ _ hl) (kk H locs ls hP hS hL)
theorem Ew.aloadN {k : Nat} (hx : Cx G y d C) (hd : Dc y.2.1 pc (.aload k) 2 npc) (hl : l[k]? = some (some .null)) (kk : Ew G C V npc l (.null :: st)) : Ew G C V pc l st := by
  obtain ⟨he, hb, -⟩ := hx; obtain ⟨hd, rfl⟩ := hd
  intro H locs ls hP hS hL
  exact lv_aloadN he hb hd (hL.2.2 _ _ hl) (kk H locs ls hP hS hL)
end XN
/-! the world while a program is read: its token from a to b, the numbers read -/
def wP (V : Mm) (a b : Nat) (N : Nat → Int32) : Mm := rs (mup (mup V 529 2 (nI a)) 529 3 (nI b)) 531 N
theorem wP_a (V : Mm) (a b : Nat) (N : Nat → Int32) : wP V a b N 529 2 = nI a := by
  unfold wP
  rw [rs_ne _ _ (by decide), mup_oth _ _ _ _ (Or.inr (by decide)), mup_self]
theorem wP_b (V : Mm) (a b : Nat) (N : Nat → Int32) : wP V a b N 529 3 = nI b := by
  unfold wP
  rw [rs_ne _ _ (by decide), mup_self]
theorem wP_n (V : Mm) (a b : Nat) (N : Nat → Int32) : wP V a b N 531 = N := by
  unfold wP
  rw [rs_same]
theorem wP_o (V : Mm) (a b : Nat) (N : Nat → Int32) {k : Nat} (h : k ≠ 529 ∧ k ≠ 531) : wP V a b N k = V k := by
  unfold wP
  rw [rs_ne _ _ h.2, mup_ne _ _ _ h.1, mup_ne _ _ _ h.1]
theorem wP_p (V : Mm) (a b : Nat) (N : Nat → Int32) {i : Nat} (h : i ≠ 2 ∧ i ≠ 3) : wP V a b N 529 i = V 529 i := by
  unfold wP
  rw [rs_ne _ _ (by decide), mup_oth _ _ _ _ (Or.inr h.2), mup_oth _ _ _ _ (Or.inr h.1)]
theorem wP_T {V : Mm} {tx : Tx} {ln : Nat} (hT : TX V tx ln) (a b : Nat) (N : Nat → Int32) : TX (wP V a b N) tx ln := ⟨by rw [wP_p _ _ _ _ (by decide)]; exact hT.1, hT.2.1, fun i hi => by rw [wP_o _ _ _ _ (by decide)]; exact hT.2.2 i hi⟩
theorem wP_ext {V W : Mm} {a b : Nat} {N : Nat → Int32} (h1 : W 531 = N) (h2 : W 529 2 = nI a) (h3 : W 529 3 = nI b) (h4 : ∀ i, i ≠ 2 → i ≠ 3 → W 529 i = V 529 i) (h5 : ∀ k, k ≠ 529 → k ≠ 531 → W k = V k) : W = wP V a b N := by
  funext k
  by_cases q1 : k = 529
  · subst q1
    funext i
    by_cases q2 : i = 2
    · subst q2; rw [h2, wP_a]
    · by_cases q3 : i = 3
      · subst q3; rw [h3, wP_b]
      · rw [h4 i q2 q3, wP_p _ _ _ _ ⟨q2, q3⟩]
  · by_cases q2 : k = 531
    · subst q2; rw [h1, wP_n]
    · rw [h5 k q1 q2, wP_o _ _ _ _ ⟨q1, q2⟩]
theorem wP_m (V : Mm) (a b a' b' : Nat) (N : Nat → Int32) : mup (mup (wP V a b N) 529 2 (nI a')) 529 3 (nI b') = wP V a' b' N := by
  refine wP_ext ?_ ?_ ?_ (fun i h2 h3 => ?_) (fun k h2 h3 => ?_)
  · rw [mup_ne _ _ _ (by decide), mup_ne _ _ _ (by decide), wP_n]
  · rw [mup_oth _ _ _ _ (Or.inr (by decide)), mup_self]
  · rw [mup_self]
  · rw [mup_oth _ _ _ _ (Or.inr h3), mup_oth _ _ _ _ (Or.inr h2), wP_p _ _ _ _ ⟨h2, h3⟩]
  · rw [mup_ne _ _ _ h2, mup_ne _ _ _ h2, wP_o _ _ _ _ ⟨h2, h3⟩]
theorem wP_N (V : Mm) (a b i : Nat) (N : Nat → Int32) (x : Int32) : mup (wP V a b N) 531 i x = wP V a b (upd N i x) := by
  refine wP_ext ?_ ?_ ?_ (fun i h2 h3 => ?_) (fun k h2 h3 => ?_)
  · rw [mup_same, wP_n]
  · rw [mup_ne _ _ _ (by decide), wP_a]
  · rw [mup_ne _ _ _ (by decide), wP_b]
  · rw [mup_ne _ _ _ (by decide), wP_p _ _ _ _ ⟨h2, h3⟩]
  · rw [mup_ne _ _ _ h3, wP_o _ _ _ _ ⟨h2, h3⟩]
/-! the word ahead, a command's numbers, a command: its word, where the token then stands, the numbers -/
noncomputable def cmF (tx : Tx) (a b : Nat) : Nat → Nat → Nat
  | 0, i => i
  | n + 1, i => cif (isTk tx a b (i + 2)) i (cmF tx a b n (i + 1))
noncomputable def cmI (tx : Tx) (a b : Nat) : Nat := cmF tx a b 7 0
def cmV (G : GT) (i : Nat) : Value := if i < 7 then .ref (xE G i) else .null
def nmN (w : Nat) : Nat := [3, 2, 4, 2, 1, 1, 1].getD w 0
theorem nmN_v {w : Nat} (h : w < 7) : nmV.getD w 0 = nI (nmN w) ∧ nmN w ≤ 4 := (show ∀ w, w < 7 → nmV.getD w 0 = nI (nmN w) ∧ nmN w ≤ 4 by decide) w h
theorem cmF_le (tx : Tx) (a b : Nat) : ∀ n i, i + n = 7 → cmF tx a b n i ≤ 7
  | 0, i, h => by show i ≤ 7; omega
  | n + 1, i, h => by
    by_cases q : isTk tx a b (i + 2)
    · rw [show cmF tx a b (n + 1) i = i from cif_t q]; omega
    · rw [show cmF tx a b (n + 1) i = cmF tx a b n (i + 1) from cif_f q]; exact cmF_le tx a b n (i + 1) (by omega)
theorem cmI_le (tx : Tx) (a b : Nat) : cmI tx a b ≤ 7 := cmF_le tx a b 7 0 rfl
noncomputable def ngP (tx : Tx) (w i a b : Nat) : Prop := nI i = sgV.getD w 0 ∧ isTk tx a b 0
noncomputable def rdN (tx : Tx) (ln w : Nat) : Nat → Nat → Nat → Nat → (Nat → Int32) → Nat × Nat × Nat × (Nat → Int32)
  | 0, _, a, b, N => cif (isTk tx a b 1) (w, sK tx ln b, tE tx ln (sK tx ln b), N) (7, a, b, N)
  | n + 1, i, a, b, N => cif (ngP tx w i a b)
      (cif (numI tx ln (sK tx ln b) (tE tx ln (sK tx ln b)) = -1) (7, sK tx ln b, tE tx ln (sK tx ln b), N) (rdN tx ln w n (i + 1) (sK tx ln (tE tx ln (sK tx ln b))) (tE tx ln (sK tx ln (tE tx ln (sK tx ln b)))) (upd N i (-numI tx ln (sK tx ln b) (tE tx ln (sK tx ln b))))))
      (cif (numI tx ln a b = -1) (7, a, b, N) (rdN tx ln w n (i + 1) (sK tx ln b) (tE tx ln (sK tx ln b)) (upd N i (numI tx ln a b))))
noncomputable def rdC (tx : Tx) (ln a b : Nat) (N : Nat → Int32) : Nat × Nat × Nat × (Nat → Int32) := cif (cmI tx a b < 7) (rdN tx ln (cmI tx a b) (nmN (cmI tx a b)) 0 (sK tx ln b) (tE tx ln (sK tx ln b)) N) (7, a, b, N)
abbrev rdP (G : GT) (V : Mm) (r : Nat × Nat × Nat × (Nat → Int32)) : PT := fun v V9 => v = some (cmV G r.1) ∧ V9 = wP V r.2.1 r.2.2.1 r.2.2.2
set_option maxHeartbeats 4000000 in
set_option maxRecDepth 100000 in
theorem lp_X5_ahead {G : GT} {C : CT} {V : Mm} {tx : Tx} {ln : Nat} (hT : TX V tx ln) {a b : Nat} (ha : a ≤ b) (hb : b ≤ ln) (e2 : V 529 2 = nI a) (e3 : V 529 3 = nI b) {r : Nat} (hx : Cx G mX5_commandAhead 5 C) (hq : Cq G (fun v V9 => v = some (cmV G r) ∧ V9 = V) C) : ∀ (n i : Nat), i + n = 7 → cmF tx a b n i = r → Ew G C (V) 2 [some (adr G 528), some (.int (nI i))] [] := by
  intro n
  induction n with
  | zero =>
    intro i hi hs
    refine Ew.iload_n hx dX5_commandAhead_2 rfl ?_
    refine Ew.xall hx rfl dX5_commandAhead_3 ?_
    refine Ew.xlen hx dX5_commandAhead_6 hx.xt.1.2.1 ?_
    refine Ew.icmp_ge_t hx (tgt := 40) dX5_commandAhead_7 rfl (nI_le (by omega) (by omega)) ?_
    refine Ew.xnull hx dX5_commandAhead_40 ?_
    refine Ew.aret hx hq dX5_commandAhead_41 rfl (Or.inl rfl) ?_
    have hr : r = 7 := by rw [← hs]; show i = 7; omega
    rw [hr]
    exact ⟨rfl, rfl⟩
  | succ n ih =>
    intro i hi hs
    refine Ew.iload_n hx dX5_commandAhead_2 rfl ?_
    refine Ew.xall hx rfl dX5_commandAhead_3 ?_
    refine Ew.xlen hx dX5_commandAhead_6 hx.xt.1.2.1 ?_
    refine Ew.icmp_ge_f hx (tgt := 40) dX5_commandAhead_7 rfl (nI_ge (by omega) (by omega)) ?_
    refine Ew.aload_n hx dX5_commandAhead_10 rfl ?_
    refine Ew.getR (529) hx dX5_commandAhead_11 fg_RX5_12 rfl rfl ?_
    refine Ew.xall hx rfl dX5_commandAhead_14 ?_
    refine Ew.iload_n hx dX5_commandAhead_17 rfl ?_
    refine Ew.xaald hx dX5_commandAhead_18 hx.xt.1.2.1 (i := i) (by omega) (by decide) rfl ?_
    refine Ew.xgetf hx dX5_commandAhead_19 fl_RX5_92 (Cx.enm hx (i := i) (by omega)).2.1 ?_
    refine Ew.callV2 (y' := mX9_isToken) hx dX5_commandAhead_22 ml_RX5_78 cf_X9_isToken cv_X9_isToken (ct_X9_isToken G V hT ha hb (q := i + 2) (by omega) e2 e3) rfl oc_16 rfl (by decide) (by decide) rfl (Nat.le_of_ble_eq_true rfl) ?_
    rintro _ V9 ⟨rfl, h9⟩; subst V9
    refine Ew.ifeq_b hx (tgt := 34) dX5_commandAhead_25 rfl (fun h25 => ?_) (fun h25 => ?_)
    · have hr : cmF tx a b n (i + 1) = r := (cif_f h25).symm.trans hs
      refine Ew.iinc hx dX5_commandAhead_34 rfl (k_iinc_1 _) (by decide) rfl ?_
      refine Ew.goto hx (tgt := 2) dX5_commandAhead_37 rfl ?_
      rw [nI_1]
      exact ih (i + 1) (by omega) hr
    · have hr : r = i := hs.symm.trans (cif_t h25)
      refine Ew.xall hx rfl dX5_commandAhead_28 ?_
      refine Ew.iload_n hx dX5_commandAhead_31 rfl ?_
      refine Ew.xaald hx dX5_commandAhead_32 hx.xt.1.2.1 (i := i) (by omega) (by decide) rfl ?_
      refine Ew.aret hx hq dX5_commandAhead_33 rfl (Or.inr ⟨_, rfl⟩) ?_
      rw [hr]
      unfold cmV
      rw [if_pos (by omega)]
      exact ⟨rfl, rfl⟩
set_option maxHeartbeats 4000000 in
set_option maxRecDepth 100000 in
theorem ct_X5_commandAhead (G : GT) (V : Mm) {tx : Tx} {ln : Nat} (hT : TX V tx ln) {a b : Nat} (ha : a ≤ b) (hb : b ≤ ln) (e2 : V 529 2 = nI a) (e3 : V 529 3 = nI b) : Ct G mX5_commandAhead 5 [adr G 528] (V) (fun v V9 => v = some (cmV G (cmI tx a b)) ∧ V9 = V) := by
  refine Ct.of cf_X5_commandAhead (List.forall_mem_cons.mpr ⟨rfl, fun _ h => absurd h List.not_mem_nil⟩) (Nat.le_of_ble_eq_true rfl) (l0 := [some (adr G 528), none]) rfl (fun C hx hq => ?_)
  refine Ew.iconst hx dX5_commandAhead_0 k_iconst_0 ?_
  refine Ew.istore_n hx dX5_commandAhead_1 (by decide) rfl ?_
  exact lp_X5_ahead hT ha hb e2 e3 hx hq 7 0 rfl rfl
set_option maxHeartbeats 4000000 in
set_option maxRecDepth 100000 in
theorem rd_z {G : GT} {C : CT} {V : Mm} {tx : Tx} {ln : Nat} (hT : TX V tx ln) {w : Nat} (hw : w < 7) {r : Nat × Nat × Nat × (Nat → Int32)} (hx : Cx G mX5_readCommand 6 C) (hq : Cq G (rdP G V r) C) {n i a b : Nat} {N : Nat → Int32} (hi : i < 4) (ha2 : a ≤ b) (hb2 : b ≤ ln) (hs : cif (numI tx ln a b = -1) (7, a, b, N) (rdN tx ln w n (i + 1) (sK tx ln b) (tE tx ln (sK tx ln b)) (upd N i (numI tx ln a b))) = r) (ih : ∀ (a b : Nat) (N : Nat → Int32), a ≤ b → b ≤ ln → rdN tx ln w n (i + 1) a b N = r → Ew G C (wP V a b N) 20 [some (adr G 528), some (.ref (xE G w)), some (.int (nI (i + 1))), none, none] []) : Ew G C (wP V a b N) 57 [some (adr G 528), some (.ref (xE G w)), some (.int (nI i)), none, none] [] := by
  refine Ew.iconst hx dX5_readCommand_57 k_iconst_0 ?_
  refine Ew.istore_n hx dX5_readCommand_58 (by decide) rfl ?_
  refine Ew.iload_n hx dX5_readCommand_59 rfl ?_
  refine Ew.if_eq_t hx (tgt := 70) dX5_readCommand_60 rfl (rfl) ?_
  refine Ew.aload_n hx dX5_readCommand_70 rfl ?_
  refine Ew.getR (529) hx dX5_readCommand_71 fg_RX5_12 rfl rfl ?_
  refine Ew.callV2 (y' := mX9_number) hx dX5_readCommand_74 ml_RX5_82 cf_X9_number cv_X9_number (ct_X9_number G _ (wP_T hT (a) (b) N) ha2 hb2 (wP_a V (a) (b) N) (wP_b V (a) (b) N)) rfl oc_16 rfl (by decide) (by decide) rfl (Nat.le_of_ble_eq_true rfl) ?_
  rintro _ V9 ⟨rfl, h9⟩; subst V9
  refine Ew.istore hx dX5_readCommand_77 (by decide) rfl ?_
  refine Ew.iload hx dX5_readCommand_79 rfl ?_
  refine Ew.iconst hx dX5_readCommand_81 k_iconst_m1 ?_
  refine Ew.icmp_ne hx (tgt := 87) dX5_readCommand_82 rfl (fun h82 => ?_) (fun h82 => ?_)
  · have hr : _ = r := (cif_f h82).symm.trans hs
    refine Ew.aload_n hx dX5_readCommand_87 rfl ?_
    refine Ew.getR (531) hx dX5_readCommand_88 fg_RX5_18 rfl rfl ?_
    refine Ew.iload_n hx dX5_readCommand_91 rfl ?_
    refine Ew.iload_n hx dX5_readCommand_92 rfl ?_
    refine Ew.if_eq_t hx (tgt := 102) dX5_readCommand_93 rfl (rfl) ?_
    refine Ew.iload hx dX5_readCommand_102 rfl ?_
    refine Ew.iast (i := i) hx dX5_readCommand_104 ag_18 rfl (rfl) (by omega) ?_
    rw [wP_N]
    refine Ew.aload_n hx dX5_readCommand_105 rfl ?_
    refine Ew.getR (529) hx dX5_readCommand_106 fg_RX5_12 rfl rfl ?_
    refine Ew.callV2 (y' := mX9_advance) hx dX5_readCommand_109 ml_RX5_66 cf_X9_advance cv_X9_advance (ct_X9_advance G _ (wP_T hT (a) (b) _) (e := b) hb2 (wP_b V (a) (b) _)) rfl oc_16 rfl (by decide) (by decide) rfl (Nat.le_of_ble_eq_true rfl) ?_
    rintro _ V9 ⟨rfl, h9⟩; subst V9
    rw [wP_m]
    refine Ew.iinc hx dX5_readCommand_112 rfl (k_iinc_1 _) (by decide) rfl ?_
    refine Ew.goto hx (tgt := 20) dX5_readCommand_115 rfl ?_
    rw [nI_1]
    exact Ew.drop 3 (Ew.drop 4 (ih _ _ _ (tE_le (sK_le hb2).2).1 (tE_le (sK_le hb2).2).2.1 hr))
  · have hr : _ = r := (cif_t h82).symm.trans hs
    refine Ew.xnull hx dX5_readCommand_85 ?_
    refine Ew.aret hx hq dX5_readCommand_86 rfl (Or.inl rfl) ?_
    rw [← hr]
    exact ⟨rfl, rfl⟩
set_option maxHeartbeats 4000000 in
set_option maxRecDepth 100000 in
theorem rd_n {G : GT} {C : CT} {V : Mm} {tx : Tx} {ln : Nat} (hT : TX V tx ln) {w : Nat} (hw : w < 7) {r : Nat × Nat × Nat × (Nat → Int32)} (hx : Cx G mX5_readCommand 6 C) (hq : Cq G (rdP G V r) C) {n i a b : Nat} {N : Nat → Int32} (hi : i < 4) (ha : a ≤ b) (hb : b ≤ ln) (hs : cif (numI tx ln (sK tx ln b) (tE tx ln (sK tx ln b)) = -1) (7, sK tx ln b, tE tx ln (sK tx ln b), N) (rdN tx ln w n (i + 1) (sK tx ln (tE tx ln (sK tx ln b))) (tE tx ln (sK tx ln (tE tx ln (sK tx ln b)))) (upd N i (-numI tx ln (sK tx ln b) (tE tx ln (sK tx ln b))))) = r) (ih : ∀ (a b : Nat) (N : Nat → Int32), a ≤ b → b ≤ ln → rdN tx ln w n (i + 1) a b N = r → Ew G C (wP V a b N) 20 [some (adr G 528), some (.ref (xE G w)), some (.int (nI (i + 1))), none, none] []) : Ew G C (wP V a b N) 53 [some (adr G 528), some (.ref (xE G w)), some (.int (nI i)), none, none] [] := by
  have ha2 := (tE_le (tx := tx) (sK_le (tx := tx) hb).2).1
  have hb2 := (tE_le (tx := tx) (sK_le (tx := tx) hb).2).2.1
  refine Ew.iconst hx dX5_readCommand_53 k_iconst_1 ?_
  refine Ew.goto hx (tgt := 58) dX5_readCommand_54 rfl ?_
  refine Ew.istore_n hx dX5_readCommand_58 (by decide) rfl ?_
  refine Ew.iload_n hx dX5_readCommand_59 rfl ?_
  refine Ew.if_eq_f hx (tgt := 70) dX5_readCommand_60 rfl (by decide) ?_
  refine Ew.aload_n hx dX5_readCommand_63 rfl ?_
  refine Ew.getR (529) hx dX5_readCommand_64 fg_RX5_12 rfl rfl ?_
  refine Ew.callV2 (y' := mX9_advance) hx dX5_readCommand_67 ml_RX5_66 cf_X9_advance cv_X9_advance (ct_X9_advance G _ (wP_T hT a b N) (e := b) hb (wP_b V a b N)) rfl oc_16 rfl (by decide) (by decide) rfl (Nat.le_of_ble_eq_true rfl) ?_
  rintro _ V9 ⟨rfl, h9⟩; subst V9
  rw [wP_m]
  refine Ew.aload_n hx dX5_readCommand_70 rfl ?_
  refine Ew.getR (529) hx dX5_readCommand_71 fg_RX5_12 rfl rfl ?_
  refine Ew.callV2 (y' := mX9_number) hx dX5_readCommand_74 ml_RX5_82 cf_X9_number cv_X9_number (ct_X9_number G _ (wP_T hT (sK tx ln b) (tE tx ln (sK tx ln b)) N) ha2 hb2 (wP_a V (sK tx ln b) (tE tx ln (sK tx ln b)) N) (wP_b V (sK tx ln b) (tE tx ln (sK tx ln b)) N)) rfl oc_16 rfl (by decide) (by decide) rfl (Nat.le_of_ble_eq_true rfl) ?_
  rintro _ V9 ⟨rfl, h9⟩; subst V9
  refine Ew.istore hx dX5_readCommand_77 (by decide) rfl ?_
  refine Ew.iload hx dX5_readCommand_79 rfl ?_
  refine Ew.iconst hx dX5_readCommand_81 k_iconst_m1 ?_
  refine Ew.icmp_ne hx (tgt := 87) dX5_readCommand_82 rfl (fun h82 => ?_) (fun h82 => ?_)
  · have hr : _ = r := (cif_f h82).symm.trans hs
    refine Ew.aload_n hx dX5_readCommand_87 rfl ?_
    refine Ew.getR (531) hx dX5_readCommand_88 fg_RX5_18 rfl rfl ?_
    refine Ew.iload_n hx dX5_readCommand_91 rfl ?_
    refine Ew.iload_n hx dX5_readCommand_92 rfl ?_
    refine Ew.if_eq_f hx (tgt := 102) dX5_readCommand_93 rfl (by decide) ?_
    refine Ew.iload hx dX5_readCommand_96 rfl ?_
    refine Ew.ineg hx dX5_readCommand_98 ?_
    refine Ew.goto hx (tgt := 104) dX5_readCommand_99 rfl ?_
    refine Ew.iast (i := i) hx dX5_readCommand_104 ag_18 rfl (rfl) (by omega) ?_
    rw [wP_N]
    refine Ew.aload_n hx dX5_readCommand_105 rfl ?_
    refine Ew.getR (529) hx dX5_readCommand_106 fg_RX5_12 rfl rfl ?_
    refine Ew.callV2 (y' := mX9_advance) hx dX5_readCommand_109 ml_RX5_66 cf_X9_advance cv_X9_advance (ct_X9_advance G _ (wP_T hT (sK tx ln b) (tE tx ln (sK tx ln b)) _) (e := tE tx ln (sK tx ln b)) hb2 (wP_b V (sK tx ln b) (tE tx ln (sK tx ln b)) _)) rfl oc_16 rfl (by decide) (by decide) rfl (Nat.le_of_ble_eq_true rfl) ?_
    rintro _ V9 ⟨rfl, h9⟩; subst V9
    rw [wP_m]
    refine Ew.iinc hx dX5_readCommand_112 rfl (k_iinc_1 _) (by decide) rfl ?_
    refine Ew.goto hx (tgt := 20) dX5_readCommand_115 rfl ?_
    rw [nI_1]
    exact Ew.drop 3 (Ew.drop 4 (ih _ _ _ (tE_le (sK_le hb2).2).1 (tE_le (sK_le hb2).2).2.1 hr))
  · have hr : _ = r := (cif_t h82).symm.trans hs
    refine Ew.xnull hx dX5_readCommand_85 ?_
    refine Ew.aret hx hq dX5_readCommand_86 rfl (Or.inl rfl) ?_
    rw [← hr]
    exact ⟨rfl, rfl⟩
set_option maxHeartbeats 4000000 in
set_option maxRecDepth 100000 in
theorem lp_X5_read {G : GT} {C : CT} {V : Mm} {tx : Tx} {ln : Nat} (hT : TX V tx ln) {w : Nat} (hw : w < 7) {r : Nat × Nat × Nat × (Nat → Int32)} (hx : Cx G mX5_readCommand 6 C) (hq : Cq G (rdP G V r) C) : ∀ (n i : Nat), i + n = nmN w → ∀ (a b : Nat) (N : Nat → Int32), a ≤ b → b ≤ ln → rdN tx ln w n i a b N = r → Ew G C (wP V a b N) 20 [some (adr G 528), some (.ref (xE G w)), some (.int (nI i)), none, none] [] := by
  intro n
  induction n with
  | zero =>
    intro i hi a b N ha hb hs
    have hm := nmN_v hw
    refine Ew.iload_n hx dX5_readCommand_20 rfl ?_
    refine Ew.aload_n hx dX5_readCommand_21 rfl ?_
    refine Ew.xgetf hx dX5_readCommand_22 fl_RX5_69 (Cx.enm hx hw).2.2.1 ?_
    rw [hm.1]
    refine Ew.icmp_ge_t hx (tgt := 118) dX5_readCommand_25 rfl (nI_le (by omega) (by omega)) ?_
    refine Ew.aload_n hx dX5_readCommand_118 rfl ?_
    refine Ew.getR (529) hx dX5_readCommand_119 fg_RX5_12 rfl rfl ?_
    refine Ew.xldcS hx dX5_readCommand_122 hx.xt.2.2.2.2 ?_
    refine Ew.callV2 (y' := mX9_isToken) hx dX5_readCommand_124 ml_RX5_78 cf_X9_isToken cv_X9_isToken (ct_X9_isToken G _ (wP_T hT a b N) ha hb (q := 1) (by decide) (wP_a V a b N) (wP_b V a b N)) rfl oc_16 rfl (by decide) (by decide) rfl (Nat.le_of_ble_eq_true rfl) ?_
    rintro _ V9 ⟨rfl, h9⟩; subst V9
    refine Ew.ifne_b hx (tgt := 132) dX5_readCommand_127 rfl (fun h127 => ?_) (fun h127 => ?_)
    · have hr : _ = r := (cif_t h127).symm.trans hs
      refine Ew.aload_n hx dX5_readCommand_132 rfl ?_
      refine Ew.getR (529) hx dX5_readCommand_133 fg_RX5_12 rfl rfl ?_
      refine Ew.callV2 (y' := mX9_advance) hx dX5_readCommand_136 ml_RX5_66 cf_X9_advance cv_X9_advance (ct_X9_advance G _ (wP_T hT a b N) (e := b) hb (wP_b V a b N)) rfl oc_16 rfl (by decide) (by decide) rfl (Nat.le_of_ble_eq_true rfl) ?_
      rintro _ V9 ⟨rfl, h9⟩; subst V9
      rw [wP_m]
      refine Ew.aload_n hx dX5_readCommand_139 rfl ?_
      refine Ew.aret hx hq dX5_readCommand_140 rfl (Or.inr ⟨_, rfl⟩) ?_
      rw [← hr]
      exact ⟨congrArg some (if_pos hw).symm, rfl⟩
    · have hr : _ = r := (cif_f h127).symm.trans hs
      refine Ew.xnull hx dX5_readCommand_130 ?_
      refine Ew.aret hx hq dX5_readCommand_131 rfl (Or.inl rfl) ?_
      rw [← hr]
      exact ⟨rfl, rfl⟩
  | succ n ih =>
    intro i hi a b N ha hb hs
    have hm := nmN_v hw
    refine Ew.iload_n hx dX5_readCommand_20 rfl ?_
    refine Ew.aload_n hx dX5_readCommand_21 rfl ?_
    refine Ew.xgetf hx dX5_readCommand_22 fl_RX5_69 (Cx.enm hx hw).2.2.1 ?_
    rw [hm.1]
    refine Ew.icmp_ge_f hx (tgt := 118) dX5_readCommand_25 rfl (nI_ge (by omega) (by omega)) ?_
    refine Ew.iload_n hx dX5_readCommand_28 rfl ?_
    refine Ew.iconst hx dX5_readCommand_29 k_iconst_4 ?_
    refine Ew.icmp_ge_f hx (tgt := 118) dX5_readCommand_30 rfl (fun q => by rw [ie, tn (by omega), tl_4] at q; omega) ?_
    refine Ew.iload_n hx dX5_readCommand_33 rfl ?_
    refine Ew.aload_n hx dX5_readCommand_34 rfl ?_
    refine Ew.xgetf hx dX5_readCommand_35 fl_RX5_73 (Cx.enm hx hw).2.2.2.1 ?_
    refine Ew.icmp_ne hx (tgt := 57) dX5_readCommand_38 rfl (fun h38 => ?_) (fun h38 => ?_)
    · have hr : _ = r := (cif_f (fun q => h38 q.1)).symm.trans hs
      exact rd_z hT hw hx hq (by omega) ha hb hr (fun a b N ha hb hs => ih (i + 1) (by omega) a b N ha hb hs)
    · refine Ew.aload_n hx dX5_readCommand_41 rfl ?_
      refine Ew.getR (529) hx dX5_readCommand_42 fg_RX5_12 rfl rfl ?_
      refine Ew.xldcS hx dX5_readCommand_45 hx.xt.2.2.2.1 ?_
      refine Ew.callV2 (y' := mX9_isToken) hx dX5_readCommand_47 ml_RX5_78 cf_X9_isToken cv_X9_isToken (ct_X9_isToken G _ (wP_T hT a b N) ha hb (q := 0) (by decide) (wP_a V a b N) (wP_b V a b N)) rfl oc_16 rfl (by decide) (by decide) rfl (Nat.le_of_ble_eq_true rfl) ?_
      rintro _ V9 ⟨rfl, h9⟩; subst V9
      refine Ew.ifeq_b hx (tgt := 57) dX5_readCommand_50 rfl (fun h50 => ?_) (fun h50 => ?_)
      · have hr : _ = r := (cif_f (fun q => h50 q.2)).symm.trans hs
        exact rd_z hT hw hx hq (by omega) ha hb hr (fun a b N ha hb hs => ih (i + 1) (by omega) a b N ha hb hs)
      · have hr : _ = r := (cif_t ⟨h38, h50⟩).symm.trans hs
        exact rd_n hT hw hx hq (by omega) ha hb hr (fun a b N ha hb hs => ih (i + 1) (by omega) a b N ha hb hs)
set_option maxHeartbeats 4000000 in
set_option maxRecDepth 100000 in
theorem ct_X5_readCommand (G : GT) (V : Mm) {tx : Tx} {ln : Nat} (hT : TX V tx ln) {a b : Nat} (ha : a ≤ b) (hb : b ≤ ln) (N : Nat → Int32) : Ct G mX5_readCommand 6 [adr G 528] (wP V a b N) (rdP G V (rdC tx ln a b N)) := by
  refine Ct.of cf_X5_readCommand (List.forall_mem_cons.mpr ⟨rfl, fun _ h => absurd h List.not_mem_nil⟩) (Nat.le_of_ble_eq_true rfl) (l0 := [some (adr G 528), none, none, none, none]) rfl (fun C hx hq => ?_)
  refine Ew.aload_n hx dX5_readCommand_0 rfl ?_
  refine Ew.callV2 (y' := mX5_commandAhead) hx dX5_readCommand_1 ml_RX5_63 cf_X5_commandAhead cv_X5_commandAhead (ct_X5_commandAhead G _ (wP_T hT a b N) ha hb (wP_a V a b N) (wP_b V a b N)) rfl oc_15 rfl (by decide) (by decide) rfl (Nat.le_of_ble_eq_true rfl) ?_
  rintro _ V9 ⟨rfl, h9⟩; subst V9
  rcases Nat.lt_or_ge (cmI tx a b) 7 with hc | hc
  · rw [show cmV G (cmI tx a b) = .ref (xE G (cmI tx a b)) from if_pos hc]
    refine Ew.astore_n hx dX5_readCommand_4 (by decide) rfl ?_
    refine Ew.aload_n hx dX5_readCommand_5 rfl ?_
    refine Ew.xnn hx dX5_readCommand_6 (tgt := 11) rfl ?_
    refine Ew.aload_n hx dX5_readCommand_11 rfl ?_
    refine Ew.getR (529) hx dX5_readCommand_12 fg_RX5_12 rfl rfl ?_
    refine Ew.callV2 (y' := mX9_advance) hx dX5_readCommand_15 ml_RX5_66 cf_X9_advance cv_X9_advance (ct_X9_advance G _ (wP_T hT a b N) (e := b) hb (wP_b V a b N)) rfl oc_16 rfl (by decide) (by decide) rfl (Nat.le_of_ble_eq_true rfl) ?_
    rintro _ V9 ⟨rfl, h9⟩; subst V9
    rw [wP_m]
    refine Ew.iconst hx dX5_readCommand_18 k_iconst_0 ?_
    refine Ew.istore_n hx dX5_readCommand_19 (by decide) rfl ?_
    exact lp_X5_read hT hc hx hq (nmN (cmI tx a b)) 0 (by omega) _ _ N (tE_le (sK_le hb).2).1 (tE_le (sK_le hb).2).2.1 (cif_t hc).symm
  · rw [show cmV G (cmI tx a b) = .null from if_neg (by omega)]
    show Ew G C (wP V a b N) 4 _ [Value.null]
    refine Ew.astore_nN hx dX5_readCommand_4 (by decide) rfl ?_
    refine Ew.aload_nN hx dX5_readCommand_5 rfl ?_
    refine Ew.xnnN hx dX5_readCommand_6 ?_
    refine Ew.xnull hx dX5_readCommand_9 ?_
    refine Ew.aret hx hq dX5_readCommand_10 rfl (Or.inl rfl) ?_
    rw [show rdC tx ln a b N = (7, a, b, N) from cif_f (by omega)]
    exact ⟨rfl, rfl⟩
