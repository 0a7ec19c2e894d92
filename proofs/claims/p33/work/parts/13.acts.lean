def nt (x : Int32) : Nat := x.toInt.toNat
theorem nt_nI {n : Nat} (h : n < 2 ^ 31) : nt (nI n) = n := by
  unfold nt
  rw [tn h]
  omega
def Pst (V : Mm) (code ans : Int32) (s' : Sv) : PT := fun v V' => (code < 0 ∧ v = some (.int code) ∧ V' = V) ∨ (code = 0 ∧ v = some (.int ans) ∧ Rep V' 2 s' ∧ Fr 2 26 V V')
theorem prow_lo (s : Sv) (p m : Nat) (f : Nat → Int32) (h : m < 49) : prow s p f m = s m := by
  unfold prow
  exact if_neg (by omega)
theorem Rep.put {V : Mm} {s : Sv} (h : Rep V 2 s) (m0 : Nat) (x : Int32) (h0 : m0 < 193) (h2 : m0 ≠ 2) (h3 : m0 ≠ 3) {k i : Nat} (hk : clc 2 m0 = k) (hi : csl m0 = i) : Rep (mup V k i x) 2 (upd s m0 x) := by
  have e2 : nrN (upd s m0 x) = nrN s := by unfold nrN; rw [upd_n s x (Ne.symm h2)]
  have e3 : npN (upd s m0 x) = npN s := by unfold npN; rw [upd_n s x (Ne.symm h3)]
  unfold Rep
  rw [e2, e3]
  exact RepN.put h m0 x h0 hk hi
theorem Rep.prow {V : Mm} {s : Sv} (h : Rep V 2 s) {p : Nat} (hp : p < 12) {f g : Nat → Int32} (hfg : ∀ j, j < 12 → f j = g j) : Rep (rs V (14 + p) f) 2 (prow s p g) := by
  have e2 : nrN (_root_.Jvm.Pilot.@@N@@.prow s p g) = nrN s := by unfold nrN; rw [prow_lo _ _ _ _ (by decide)]
  have e3 : npN (_root_.Jvm.Pilot.@@N@@.prow s p g) = npN s := by unfold npN; rw [prow_lo _ _ _ _ (by decide)]
  unfold Rep
  rw [e2, e3]
  exact RepN.prowU h hp hfg
theorem mvF_c {f g : Nat → Int32} {nr nf df : Int32} (h : ∀ j, j < 12 → f j = g j) : ∀ j, j < 12 → mvF f nr nf df j = mvF g nr nf df j := by
  intro j hj
  unfold mvF
  rw [h 5 (by decide), h 7 (by decide)]
  split <;> (simp only [upd]; repeat' split) <;> first | rfl | exact h j hj
theorem cnO_c {f g : Nat → Int32} {a b : Int32} (h : ∀ j, j < 12 → f j = g j) : cnO f a b = cnO g a b := by
  unfold cnO
  rw [h 4 (by decide)]
theorem cnF_c {f g : Nat → Int32} {a b : Int32} (h : ∀ j, j < 12 → f j = g j) : ∀ j, j < 12 → cnF f a b j = cnF g a b j := by
  intro j hj
  unfold cnF
  rw [h 7 (by decide), h 6 (by decide), h 4 (by decide), cnO_c h]
  simp only [upd]
  repeat' split
  all_goals first | rfl | exact h j hj
theorem rfF_c {f g : Nat → Int32} (h : ∀ j, j < 12 → f j = g j) : ∀ j, j < 12 → rfF f j = rfF g j := by
  intro j hj
  unfold rfF
  rw [h 7 (by decide), h 8 (by decide)]
  simp only [upd]
  repeat' split
  all_goals first | rfl | exact h j hj
theorem usF_c {f g : Nat → Int32} (h : ∀ j, j < 12 → f j = g j) : ∀ j, j < 12 → usF f j = usF g j := by
  intro j hj
  unfold usF
  rw [h 9 (by decide), h 6 (by decide), h 4 (by decide)]
  simp only [upd]
  repeat' split
  all_goals first | rfl | exact h j hj
theorem loF_c {f g : Nat → Int32} (h : ∀ j, j < 12 → f j = g j) : ∀ j, j < 12 → loF f j = loF g j := by
  intro j hj
  unfold loF
  rw [h 10 (by decide), h 7 (by decide), h 4 (by decide)]
  simp only [upd]
  repeat' split
  all_goals first | rfl | exact h j hj
theorem bgF_c (f g : Nat → Int32) {nr nf a b dr : Int32} : ∀ j, j < 12 → bgF f nr nf a b dr j = bgF g nr nf a b dr j := by
  intro j hj
  rcases (show j = 0 ∨ j = 1 ∨ j = 2 ∨ j = 3 ∨ j = 4 ∨ j = 5 ∨ j = 6 ∨ j = 7 ∨ j = 8 ∨ j = 9 ∨ j = 10 ∨ j = 11 by omega) with h | h | h | h | h | h | h | h | h | h | h | h <;> subst h <;> rfl
theorem Rep.row {V : Mm} {s : Sv} {B : Int} (hR : Rep V 2 s) (hW : WF s B) {p : Nat} (hp : p < npN s) : ∀ j, j < 12 → V (14 + p) j = prw s p j := fun j hj => hR.pm hp (by have := hW.np.2; omega) hj
theorem cl_rt {w : Nat} (h : w < 26) : clc 2 (11 + w) = 4 ∧ csl (11 + w) = w := by
  unfold clc csl
  rw [if_neg (by omega), if_neg (by omega), if_neg (by omega), if_neg (by omega), if_neg (by omega), if_pos (by omega), if_neg (by omega), if_neg (by omega), if_neg (by omega), if_neg (by omega), if_neg (by omega), if_pos (by omega)]
  omega
theorem cl_am {w : Nat} (h : w < 3) : clc 2 (4 + w) = 6 ∧ csl (4 + w) = w := by
  unfold clc csl
  rw [if_neg (by omega), if_neg (by omega), if_pos (by omega), if_neg (by omega), if_neg (by omega), if_pos (by omega)]
  omega
theorem cl_tm {w : Nat} (h : w < 3) : clc 2 (7 + w) = 7 ∧ csl (7 + w) = w := by
  unfold clc csl
  rw [if_neg (by omega), if_neg (by omega), if_neg (by omega), if_pos (by omega), if_neg (by omega), if_neg (by omega), if_neg (by omega), if_pos (by omega)]
  omega
/-! the codes, answers and numbers behind each command -/
noncomputable def cdLevel (x : Int32) : Int32 := cif (0 ≤ x ∧ x ≤ 5000) 0 (-100001)
noncomputable def cdRate (w r : Int32) : Int32 := cif ((0 ≤ w ∧ w ≤ 25) ∧ (-50 ≤ r ∧ r ≤ 50)) 0 (-100001)
noncomputable def cdRamp (s : Sv) (e b f : Int32) : Int32 := cif ((0 ≤ e ∧ e ≤ 4000) ∧ (1 ≤ b ∧ b ≤ 20) ∧ (1 ≤ f ∧ f ≤ 500)) (cif (s 2 = 4) (-100003) 0) (-100001)
noncomputable def cdFee (s : Sv) (x f : Int32) : Int32 := cif ((0 ≤ x ∧ x < s 2) ∧ (1 ≤ f ∧ f ≤ 500)) 0 (-100001)
noncomputable def cdFine (r a : Int32) : Int32 := cif ((1 ≤ r ∧ r ≤ 3) ∧ (0 ≤ a ∧ a ≤ 500)) 0 (-100001)
noncomputable def cdBuy (s : Sv) (x a b d : Int32) : Int32 := cif ((0 ≤ x ∧ x < s 2) ∧ spanP a b ∧ (0 ≤ d ∧ d ≤ 300)) (cif (s 0 ≤ a ∧ fitP s (nt x) (nt a) (nt b) d) (cif (s 3 = 12) (-100003) 0) (-100002)) (-100001)
def ftc (s : Sv) (p : Nat) : Nat := if fiN s p < tN s then tN s else fiN s p
noncomputable def cdMove (s : Sv) (p x : Int32) : Int32 := cif ((0 ≤ p ∧ p < s 3) ∧ (0 ≤ x ∧ x < s 2)) (cif (¬ dtc s (nt p) = 0 ∧ ¬ pf s (nt p) 0 = x ∧ fitP s (nt x) (ftc s (nt p)) (laN s (nt p)) (pf s (nt p) 3)) 0 (-100002)) (-100001)
noncomputable def cdCancel (s : Sv) (p : Int32) : Int32 := cif (0 ≤ p ∧ p < s 3) (cif (dtc s (nt p) = 0) (-100002) 0) (-100001)
noncomputable def cdRefund (s : Sv) (p : Int32) : Int32 := cif (0 ≤ p ∧ p < s 3) (cif (pf s (nt p) 7 = 0) (-100002) 0) (-100001)
noncomputable def cdPass (s : Sv) (c : Int32) : Int32 := cif (-500 ≤ c ∧ c ≤ 500) (cif (s 0 = 181) (-100002) 0) (-100001)
noncomputable def cdLaunch (s : Sv) (x d p : Int32) : Int32 := cif ((0 ≤ x ∧ x < s 2) ∧ (0 ≤ d ∧ d ≤ 300) ∧ (p = -1 ∨ (0 ≤ p ∧ p < s 3))) 0 (-100001)
def nxRamp (s : Sv) (e b f : Int32) : Sv := upd (upd (upd (upd s (37 + 3 * nrN s + 0) e) (37 + 3 * nrN s + 1) b) (37 + 3 * nrN s + 2) f) 2 (s 2 + 1)
def nxBuy (s : Sv) (x a b d : Int32) : Sv := upd (prow s (npN s) (bgF (prw s (npN s)) x (rf s (nt x) 2) a b d)) 3 (s 3 + 1)
def mvD (s : Sv) (p x : Int32) : Int32 := (rf s (nt x) 2 - pf s (nt p) 4) * dtc s (nt p)
def nxMove (s : Sv) (p x : Int32) : Sv := prow s (nt p) (mvF (prw s (nt p)) x (rf s (nt x) 2) (mvD s p x))
noncomputable def clI (s : Sv) (p : Int32) : Int32 := nI (clN s (nt p) (laN s (nt p) + 1))
noncomputable def anCancel (s : Sv) (p : Int32) : Int32 := cnO (prw s (nt p)) (dtc s (nt p) - clI s p) (clI s p)
noncomputable def nxCancel (s : Sv) (p : Int32) : Sv := prow s (nt p) (cnF (prw s (nt p)) (dtc s (nt p) - clI s p) (clI s p))
def nxRefund (s : Sv) (p : Int32) : Sv := prow s (nt p) (rfF (prw s (nt p)))
noncomputable def psS (s : Sv) : Nat → Sv
  | 0 => s
  | n + 1 => cif (cms s n (tN s)) (prow (psS s n) n (cif (opn s (rrN s n) (pf s n 3) (s 1)) (usF (prw s n)) (loF (prw s n)))) (psS s n)
noncomputable def lsN (s : Sv) (n : Nat) : Nat := cntN (fun p => cms s p (tN s) ∧ ¬ opn s (rrN s p) (pf s p 3) (s 1)) n
noncomputable def nxPass (s : Sv) (c : Int32) : Sv := upd (upd (psS s (npN s)) 1 (bnd (s 1 + c))) 0 (s 0 + 1)
noncomputable def rsn (s : Sv) (r : Nat) (d q : Int32) : Int32 := cif (¬ opn s r d (s 1)) 1 (cif (¬ (0 ≤ q ∧ q < s 3) ∨ ¬ pf s (nt q) 0 = nI r ∨ ¬ cms s (nt q) (tN s)) 2 (cif (pf s (nt q) 3 < d) 3 0))
noncomputable def anLaunch (s : Sv) (x d q : Int32) : Int32 := cif (rsn s (nt x) d q = 0) 0 (s (4 + (nt (rsn s (nt x) d q) - 1)))
noncomputable def nxLaunch (s : Sv) (x d q : Int32) : Sv := cif (rsn s (nt x) d q = 0) s (upd (upd s (7 + (nt (rsn s (nt x) d q) - 1)) (s (7 + (nt (rsn s (nt x) d q) - 1)) + 1)) 10 (s 10 + s (4 + (nt (rsn s (nt x) d q) - 1))))
set_option maxHeartbeats 4000000 in
set_option maxRecDepth 100000 in
theorem ct_X7_changeLevel (G : GT) (V : Mm) {s : Sv} (hR : Rep V 2 s) (x : Int32) : Ct G mX7_changeLevel 1 [adr G 2, .int x] (V) (Pst V (cdLevel x) (s 1) (upd s 1 x)) := by
  refine Ct.of cf_X7_changeLevel (List.forall_mem_cons.mpr ⟨rfl, List.forall_mem_cons.mpr ⟨rfl, fun _ h => absurd h List.not_mem_nil⟩⟩) (Nat.le_of_ble_eq_true rfl) (l0 := [some (adr G 2), some (.int x), none]) rfl (fun C hx hq => ?_)
  refine Ew.iload_n hx dX7_changeLevel_0 rfl ?_
  refine Ew.iconst hx dX7_changeLevel_1 k_iconst_0 ?_
  refine Ew.sipush hx dX7_changeLevel_2 k_sipush_5000 ?_
  refine Ew.callSN (y' := mX11_isWithin) hx dX7_changeLevel_5 (host := RX11) (List.mem_of_getElem? (i := 6) rfl) cf_X11_isWithin cs_X11_isWithin (ct_X11_isWithin G _ _ _ _) rfl (by decide) (by decide) rfl (Nat.le_of_ble_eq_true rfl) ?_
  rintro _ V9 ⟨rfl, h9⟩; subst V9
  refine Ew.ifne_b hx (tgt := 14) dX7_changeLevel_8 rfl (fun h8 => ?_) (fun h8 => ?_)
  · refine Ew.aload_n hx dX7_changeLevel_14 rfl ?_
    refine Ew.getR (3) hx dX7_changeLevel_15 fg_RX7_12 rfl rfl ?_
    refine Ew.getI hx dX7_changeLevel_18 fg_RX7_64 rfl ?_
    refine Ew.istore_n hx dX7_changeLevel_21 (by decide) rfl ?_
    refine Ew.aload_n hx dX7_changeLevel_22 rfl ?_
    refine Ew.getR (3) hx dX7_changeLevel_23 fg_RX7_12 rfl rfl ?_
    refine Ew.iload_n hx dX7_changeLevel_26 rfl ?_
    refine Ew.putI hx dX7_changeLevel_27 pg_RX7_64 rfl ?_
    refine Ew.iload_n hx dX7_changeLevel_30 rfl ?_
    refine Ew.iret hx hq dX7_changeLevel_31 rfl ?_
    exact Or.inr ⟨cif_t h8, by rw [hR.level], hR.put 1 x (by decide) (by decide) (by decide) rfl rfl, Fr.rfl'.mup (by decide)⟩
  · have ec : cdLevel x = -100001 := cif_f h8
    refine Ew.ldc hx dX7_changeLevel_11 kn_RX7_63 ?_
    refine Ew.iret hx hq dX7_changeLevel_13 rfl ?_
    exact Or.inl ⟨by rw [ec]; decide, by rw [ec], rfl⟩
set_option maxHeartbeats 4000000 in
set_option maxRecDepth 100000 in
theorem ct_X7_changeRate (G : GT) (V : Mm) {s : Sv} (hR : Rep V 2 s) (w x : Int32) : Ct G mX7_changeRate 1 [adr G 2, .int w, .int x] (V) (Pst V (cdRate w x) (s (11 + nt w)) (upd s (11 + nt w) x)) := by
  refine Ct.of cf_X7_changeRate (List.forall_mem_cons.mpr ⟨rfl, List.forall_mem_cons.mpr ⟨rfl, List.forall_mem_cons.mpr ⟨rfl, fun _ h => absurd h List.not_mem_nil⟩⟩⟩) (Nat.le_of_ble_eq_true rfl) (l0 := [some (adr G 2), some (.int w), some (.int x), none]) rfl (fun C hx hq => ?_)
  refine Ew.iload_n hx dX7_changeRate_0 rfl ?_
  refine Ew.iconst hx dX7_changeRate_1 k_iconst_0 ?_
  refine Ew.bipush hx dX7_changeRate_2 k_bipush_25 ?_
  refine Ew.callSN (y' := mX11_isWithin) hx dX7_changeRate_4 (host := RX11) (List.mem_of_getElem? (i := 6) rfl) cf_X11_isWithin cs_X11_isWithin (ct_X11_isWithin G _ _ _ _) rfl (by decide) (by decide) rfl (Nat.le_of_ble_eq_true rfl) ?_
  rintro _ V9 ⟨rfl, h9⟩; subst V9
  refine Ew.ifeq_b hx (tgt := 21) dX7_changeRate_7 rfl (fun h7 => ?_) (fun h7 => ?_)
  · have ec : cdRate w x = -100001 := cif_f (fun q => h7 q.1)
    refine Ew.ldc hx dX7_changeRate_21 kn_RX7_63 ?_
    refine Ew.iret hx hq dX7_changeRate_23 rfl ?_
    exact Or.inl ⟨by rw [ec]; decide, by rw [ec], rfl⟩
  · refine Ew.iload_n hx dX7_changeRate_10 rfl ?_
    refine Ew.bipush hx dX7_changeRate_11 k_bipush_m50 ?_
    refine Ew.bipush hx dX7_changeRate_13 k_bipush_50 ?_
    refine Ew.callSN (y' := mX11_isWithin) hx dX7_changeRate_15 (host := RX11) (List.mem_of_getElem? (i := 6) rfl) cf_X11_isWithin cs_X11_isWithin (ct_X11_isWithin G _ _ _ _) rfl (by decide) (by decide) rfl (Nat.le_of_ble_eq_true rfl) ?_
    rintro _ V9 ⟨rfl, h9⟩; subst V9
    refine Ew.ifne_b hx (tgt := 24) dX7_changeRate_18 rfl (fun h18 => ?_) (fun h18 => ?_)
    · have hw2 := h7
      rw [ie, ie, tl_0, tl_25] at hw2
      have hi : nt w < 26 := by unfold nt; omega
      have ew : w = nI (nt w) := ofNI hw2.1
      refine Ew.aload_n hx dX7_changeRate_24 rfl ?_
      refine Ew.getR (3) hx dX7_changeRate_25 fg_RX7_12 rfl rfl ?_
      refine Ew.getR (4) hx dX7_changeRate_28 fg_RX7_67 rfl rfl ?_
      refine Ew.iload_n hx dX7_changeRate_31 rfl ?_
      refine Ew.iald (i := nt w) hx dX7_changeRate_32 ag_4 rfl (ew) (hi) ?_
      refine Ew.istore_n hx dX7_changeRate_33 (by decide) rfl ?_
      refine Ew.aload_n hx dX7_changeRate_34 rfl ?_
      refine Ew.getR (3) hx dX7_changeRate_35 fg_RX7_12 rfl rfl ?_
      refine Ew.getR (4) hx dX7_changeRate_38 fg_RX7_67 rfl rfl ?_
      refine Ew.iload_n hx dX7_changeRate_41 rfl ?_
      refine Ew.iload_n hx dX7_changeRate_42 rfl ?_
      refine Ew.iast (i := nt w) hx dX7_changeRate_43 ag_4 rfl (ew) (hi) ?_
      refine Ew.iload_n hx dX7_changeRate_44 rfl ?_
      refine Ew.iret hx hq dX7_changeRate_45 rfl ?_
      exact Or.inr ⟨cif_t ⟨h7, h18⟩, by rw [hR.rate hi], hR.put (11 + nt w) x (by omega) (by omega) (by omega) (cl_rt hi).1 (cl_rt hi).2, Fr.rfl'.mup (by decide)⟩
    · have ec : cdRate w x = -100001 := cif_f (fun q => h18 q.2)
      refine Ew.ldc hx dX7_changeRate_21 kn_RX7_63 ?_
      refine Ew.iret hx hq dX7_changeRate_23 rfl ?_
      exact Or.inl ⟨by rw [ec]; decide, by rw [ec], rfl⟩
theorem nI4 : (4 : Int32) = nI 4 := rfl
theorem nI12 : (12 : Int32) = nI 12 := rfl
theorem nI181 : (181 : Int32) = nI 181 := rfl
theorem RepN.get {V : Mm} {s : Sv} {nr np : Nat} (h : RepN V 2 s nr np) : RepN V 2 s nr np := h
theorem mup_self (V : Mm) (k i : Nat) (x : Int32) : mup V k i x k i = x := by simp [mup, upd]
theorem mup_oth (V : Mm) (k i : Nat) (x : Int32) {a b : Nat} (h : a ≠ k ∨ b ≠ i) : mup V k i x a b = V a b := by
  rcases h with h | h
  · rw [mup_ne _ _ _ h]
  · by_cases hk : a = k
    · subst hk; rw [mup_same, upd_n _ _ h]
    · rw [mup_ne _ _ _ hk]
theorem rep_ramp {V : Mm} {s : Sv} {B : Int} (hR : Rep V 2 s) (hW : WF s B) (h4 : nrN s < 4) (e b f z : Int32) (hz : z = s 2 + 1) : Rep (mup (mup (mup (mup V (10 + nrN s) 0 e) (10 + nrN s) 1 b) (10 + nrN s) 2 f) 2 4 z) 2 (nxRamp s e b f) := by
  subst hz
  have c0 := cl_rm (S := 2) (r := nrN s) (j := 0) h4 (by decide)
  have c1 := cl_rm (S := 2) (r := nrN s) (j := 1) h4 (by decide)
  have c2 := cl_rm (S := 2) (r := nrN s) (j := 2) h4 (by decide)
  have h := (((RepN.put hR (37 + 3 * nrN s + 0) e (by omega) c0.1 c0.2).put (37 + 3 * nrN s + 1) b (by omega) c1.1 c1.2).put (37 + 3 * nrN s + 2) f (by omega) c2.1 c2.2).put 2 (s 2 + 1) (by decide) (k := 2) (i := 4) rfl rfl
  have h5 := h.moreR h4 (fun j hj => by
    rw [mup_oth _ _ _ _ (Or.inl (by omega)), upd_n _ _ (show 37 + 3 * nrN s + j ≠ 2 by omega)]
    rcases (show j = 0 ∨ j = 1 ∨ j = 2 by omega) with rfl | rfl | rfl
    · rw [mup_oth _ _ _ _ (Or.inr (by decide)), mup_oth _ _ _ _ (Or.inr (by decide)), upd_n _ _ (by omega), upd_n _ _ (by omega), upd_s]
      exact mup_self _ _ _ _
    · rw [mup_oth _ _ _ _ (Or.inr (by decide)), upd_n _ _ (by omega), upd_s]
      exact mup_self _ _ _ _
    · rw [upd_s]
      exact mup_self _ _ _ _)
  have e2 : nrN (nxRamp s e b f) = nrN s + 1 := by
    unfold nrN nxRamp
    rw [upd_s]
    have h6 := hW.2.2.1
    rw [addT (by rw [tl_1]; omega) (by rw [tl_1]; omega), tl_1]
    omega
  have e3 : npN (nxRamp s e b f) = npN s := by
    unfold npN nxRamp
    rw [upd_n _ _ (by decide), upd_n _ _ (by omega), upd_n _ _ (by omega), upd_n _ _ (by omega)]
  unfold Rep
  rw [e2, e3]
  exact h5
theorem rep_buy {V : Mm} {s : Sv} {B : Int} (hR : Rep V 2 s) (hW : WF s B) (h12 : npN s < 12) {f : Nat → Int32} (x fe a b d z : Int32) (hfe : fe = rf s (nt x) 2) (hz : z = s 3 + 1) : Rep (mup (rs V (14 + npN s) (bgF f x fe a b d)) 2 5 z) 2 (nxBuy s x a b d) := by
  subst hz; subst hfe
  have h := (RepN.prowU (p := npN s) hR h12 (bgF_c f (prw s (npN s)) (nr := x) (nf := rf s (nt x) 2) (a := a) (b := b) (dr := d))).put 3 (s 3 + 1) (by decide) (k := 2) (i := 5) rfl rfl
  have h5 := h.moreP h12 (fun j hj => by
    rw [mup_oth _ _ _ _ (Or.inl (by omega)), upd_n _ _ (show 49 + 12 * npN s + j ≠ 3 by omega), rs_same]
    unfold prow
    rw [if_pos (by omega), show 49 + 12 * npN s + j - (49 + 12 * npN s) = j by omega]
    exact bgF_c _ _ j hj)
  have e2 : nrN (nxBuy s x a b d) = nrN s := by
    unfold nrN nxBuy
    rw [upd_n _ _ (by decide), prow_lo _ _ _ _ (by decide)]
  have e3 : npN (nxBuy s x a b d) = npN s + 1 := by
    unfold npN nxBuy
    rw [upd_s]
    have h6 := hW.2.2.2.1
    rw [addT (by rw [tl_1]; omega) (by rw [tl_1]; omega), tl_1]
    omega
  unfold Rep
  rw [e2, e3]
  exact h5
set_option maxHeartbeats 4000000 in
set_option maxRecDepth 100000 in
theorem ct_X7_openRamp (G : GT) (V : Mm) {s : Sv} {B : Int} (hR : Rep V 2 s) (hW : WF s B) (e b f : Int32) : Ct G mX7_openRamp 1 [adr G 2, .int e, .int b, .int f] (V) (Pst V (cdRamp s e b f) (s 2) (nxRamp s e b f)) := by
  refine Ct.of cf_X7_openRamp (List.forall_mem_cons.mpr ⟨rfl, List.forall_mem_cons.mpr ⟨rfl, List.forall_mem_cons.mpr ⟨rfl, List.forall_mem_cons.mpr ⟨rfl, fun _ h => absurd h List.not_mem_nil⟩⟩⟩⟩) (Nat.le_of_ble_eq_true rfl) (l0 := [some (adr G 2), some (.int e), some (.int b), some (.int f), none]) rfl (fun C hx hq => ?_)
  have hnr := hW.nr
  refine Ew.iload_n hx dX7_openRamp_0 rfl ?_
  refine Ew.iconst hx dX7_openRamp_1 k_iconst_0 ?_
  refine Ew.sipush hx dX7_openRamp_2 k_sipush_4000 ?_
  refine Ew.callSN (y' := mX11_isWithin) hx dX7_openRamp_5 (host := RX11) (List.mem_of_getElem? (i := 6) rfl) cf_X11_isWithin cs_X11_isWithin (ct_X11_isWithin G _ _ _ _) rfl (by decide) (by decide) rfl (Nat.le_of_ble_eq_true rfl) ?_
  rintro _ V9 ⟨rfl, h9⟩; subst V9
  refine Ew.ifeq_b hx (tgt := 32) dX7_openRamp_8 rfl (fun h8 => ?_) (fun h8 => ?_)
  · have ec : cdRamp s e b f = -100001 := cif_f (fun q => h8 q.1)
    refine Ew.ldc hx dX7_openRamp_32 kn_RX7_63 ?_
    refine Ew.iret hx hq dX7_openRamp_34 rfl ?_
    exact Or.inl ⟨by rw [ec]; decide, by rw [ec], rfl⟩
  · refine Ew.iload_n hx dX7_openRamp_11 rfl ?_
    refine Ew.iconst hx dX7_openRamp_12 k_iconst_1 ?_
    refine Ew.bipush hx dX7_openRamp_13 k_bipush_20 ?_
    refine Ew.callSN (y' := mX11_isWithin) hx dX7_openRamp_15 (host := RX11) (List.mem_of_getElem? (i := 6) rfl) cf_X11_isWithin cs_X11_isWithin (ct_X11_isWithin G _ _ _ _) rfl (by decide) (by decide) rfl (Nat.le_of_ble_eq_true rfl) ?_
    rintro _ V9 ⟨rfl, h9⟩; subst V9
    refine Ew.ifeq_b hx (tgt := 32) dX7_openRamp_18 rfl (fun h18 => ?_) (fun h18 => ?_)
    · have ec : cdRamp s e b f = -100001 := cif_f (fun q => h18 q.2.1)
      refine Ew.ldc hx dX7_openRamp_32 kn_RX7_63 ?_
      refine Ew.iret hx hq dX7_openRamp_34 rfl ?_
      exact Or.inl ⟨by rw [ec]; decide, by rw [ec], rfl⟩
    · refine Ew.iload_n hx dX7_openRamp_21 rfl ?_
      refine Ew.iconst hx dX7_openRamp_22 k_iconst_1 ?_
      refine Ew.sipush hx dX7_openRamp_23 k_sipush_500 ?_
      refine Ew.callSN (y' := mX11_isWithin) hx dX7_openRamp_26 (host := RX11) (List.mem_of_getElem? (i := 6) rfl) cf_X11_isWithin cs_X11_isWithin (ct_X11_isWithin G _ _ _ _) rfl (by decide) (by decide) rfl (Nat.le_of_ble_eq_true rfl) ?_
      rintro _ V9 ⟨rfl, h9⟩; subst V9
      refine Ew.ifne_b hx (tgt := 35) dX7_openRamp_29 rfl (fun h29 => ?_) (fun h29 => ?_)
      · refine Ew.aload_n hx dX7_openRamp_35 rfl ?_
        refine Ew.getI hx dX7_openRamp_36 fg_RX7_46 rfl ?_
        refine Ew.iconst hx dX7_openRamp_39 k_iconst_4 ?_
        rw [hR.nrs, hnr.1]
        refine Ew.icmp_lt hx (tgt := 46) dX7_openRamp_40 rfl (fun h40 => ?_) (fun h40 => ?_)
        · have h40 : nrN s < 4 := by
            rw [il, tn (by omega), show (4 : Int32).toInt = 4 from rfl] at h40
            omega
          have ec : cdRamp s e b f = 0 := (cif_t ⟨h8, h18, h29⟩).trans (cif_f (fun q => by rw [hnr.1, iq, tn (by omega), show (4 : Int32).toInt = 4 from rfl] at q; omega))
          refine Ew.aload_n hx dX7_openRamp_46 rfl ?_
          refine Ew.getR (8) hx dX7_openRamp_47 fg_RX7_27 rfl rfl ?_
          refine Ew.aload_n hx dX7_openRamp_50 rfl ?_
          refine Ew.getI hx dX7_openRamp_51 fg_RX7_46 rfl ?_
          rw [hR.nrs, hnr.1]
          refine Ew.aldq (10 + nrN s) hx dX7_openRamp_54 rg_7 rfl (rfl) (by omega) (by omega) ?_
          refine Ew.astore hx dX7_openRamp_55 (by decide) rfl ?_
          refine Ew.aload hx dX7_openRamp_57 rfl ?_
          refine Ew.iload_n hx dX7_openRamp_59 rfl ?_
          refine Ew.putI hx dX7_openRamp_60 pg_RX7_72 (kd_rm (by omega)) ?_
          refine Ew.aload hx dX7_openRamp_63 rfl ?_
          refine Ew.iload_n hx dX7_openRamp_65 rfl ?_
          refine Ew.putI hx dX7_openRamp_66 pg_RX7_75 (kd_rm (by omega)) ?_
          refine Ew.aload hx dX7_openRamp_69 rfl ?_
          refine Ew.iload_n hx dX7_openRamp_71 rfl ?_
          refine Ew.putI hx dX7_openRamp_72 pg_RX7_78 (kd_rm (by omega)) ?_
          refine Ew.aload_n hx dX7_openRamp_75 rfl ?_
          refine Ew.dup hx dX7_openRamp_76 rfl ?_
          refine Ew.getI hx dX7_openRamp_77 fg_RX7_46 rfl ?_
          refine Ew.iconst hx dX7_openRamp_80 k_iconst_1 ?_
          refine Ew.iadd hx dX7_openRamp_81 ?_
          refine Ew.putI hx dX7_openRamp_82 pg_RX7_46 rfl ?_
          refine Ew.aload_n hx dX7_openRamp_85 rfl ?_
          refine Ew.getI hx dX7_openRamp_86 fg_RX7_46 rfl ?_
          refine Ew.iconst hx dX7_openRamp_89 k_iconst_1 ?_
          rw [mup_self]
          refine Ew.isub hx dX7_openRamp_90 ?_
          rw [mup_oth _ _ _ _ (Or.inl (by omega)), mup_oth _ _ _ _ (Or.inl (by omega)), mup_oth _ _ _ _ (Or.inl (by omega)), hR.nrs, hnr.1, nI_1, nI_pred]
          refine Ew.iret hx hq dX7_openRamp_91 rfl ?_
          refine Or.inr ⟨ec, by rw [hnr.1], rep_ramp hR hW h40 e b f _ (by rw [hnr.1, nI_1]), ?_⟩
          exact ((((Fr.rfl'.mup (by omega)).mup (by omega)).mup (by omega)).mup (by omega))
        · have h40 : nrN s = 4 := by
            rw [il, tn (by omega), show (4 : Int32).toInt = 4 from rfl] at h40
            omega
          have ec : cdRamp s e b f = -100003 := (cif_t ⟨h8, h18, h29⟩).trans (cif_t (by rw [hnr.1, h40]; rfl))
          refine Ew.ldc hx dX7_openRamp_43 kn_RX7_71 ?_
          refine Ew.iret hx hq dX7_openRamp_45 rfl ?_
          exact Or.inl ⟨by rw [ec]; decide, by rw [ec], rfl⟩
      · have ec : cdRamp s e b f = -100001 := cif_f (fun q => h29 q.2.2)
        refine Ew.ldc hx dX7_openRamp_32 kn_RX7_63 ?_
        refine Ew.iret hx hq dX7_openRamp_34 rfl ?_
        exact Or.inl ⟨by rw [ec]; decide, by rw [ec], rfl⟩
set_option maxHeartbeats 4000000 in
set_option maxRecDepth 100000 in
theorem ct_X7_changeFee (G : GT) (V : Mm) {s : Sv} {B : Int} (hR : Rep V 2 s) (hW : WF s B) (x f : Int32) : Ct G mX7_changeFee 1 [adr G 2, .int x, .int f] (V) (Pst V (cdFee s x f) (rf s (nt x) 2) (upd s (37 + 3 * nt x + 2) f)) := by
  refine Ct.of cf_X7_changeFee (List.forall_mem_cons.mpr ⟨rfl, List.forall_mem_cons.mpr ⟨rfl, List.forall_mem_cons.mpr ⟨rfl, fun _ h => absurd h List.not_mem_nil⟩⟩⟩) (Nat.le_of_ble_eq_true rfl) (l0 := [some (adr G 2), some (.int x), some (.int f), none]) rfl (fun C hx hq => ?_)
  have hnr := hW.nr
  refine Ew.aload_n hx dX7_changeFee_0 rfl ?_
  refine Ew.iload_n hx dX7_changeFee_1 rfl ?_
  refine Ew.callV2 (y' := mX7_hasRamp) hx dX7_changeFee_2 ml_RX7_81 cf_X7_hasRamp cv_X7_hasRamp (ct_X7_hasRamp G V _ hR) rfl oc_2 rfl (by decide) (by decide) rfl (Nat.le_of_ble_eq_true rfl) ?_
  rintro _ V9 ⟨rfl, h9⟩; subst V9
  refine Ew.ifeq_b hx (tgt := 19) dX7_changeFee_5 rfl (fun h5 => ?_) (fun h5 => ?_)
  · have ec : cdFee s x f = -100001 := cif_f (fun q => h5 q.1)
    refine Ew.ldc hx dX7_changeFee_19 kn_RX7_63 ?_
    refine Ew.iret hx hq dX7_changeFee_21 rfl ?_
    exact Or.inl ⟨by rw [ec]; decide, by rw [ec], rfl⟩
  · have h5a := h5
    obtain ⟨r, rfl, hr⟩ := hW.rix h5
    refine Ew.iload_n hx dX7_changeFee_8 rfl ?_
    refine Ew.iconst hx dX7_changeFee_9 k_iconst_1 ?_
    refine Ew.sipush hx dX7_changeFee_10 k_sipush_500 ?_
    refine Ew.callSN (y' := mX11_isWithin) hx dX7_changeFee_13 (host := RX11) (List.mem_of_getElem? (i := 6) rfl) cf_X11_isWithin cs_X11_isWithin (ct_X11_isWithin G _ _ _ _) rfl (by decide) (by decide) rfl (Nat.le_of_ble_eq_true rfl) ?_
    rintro _ V9 ⟨rfl, h9⟩; subst V9
    refine Ew.ifne_b hx (tgt := 22) dX7_changeFee_16 rfl (fun h16 => ?_) (fun h16 => ?_)
    · refine Ew.aload_n hx dX7_changeFee_22 rfl ?_
      refine Ew.getR (8) hx dX7_changeFee_23 fg_RX7_27 rfl rfl ?_
      refine Ew.iload_n hx dX7_changeFee_26 rfl ?_
      refine Ew.aldq (10 + r) hx dX7_changeFee_27 rg_7 rfl (rfl) (by omega) (by omega) ?_
      refine Ew.getI hx dX7_changeFee_28 fg_RX7_78 (kd_rm (by omega)) ?_
      refine Ew.istore_n hx dX7_changeFee_31 (by decide) rfl ?_
      refine Ew.aload_n hx dX7_changeFee_32 rfl ?_
      refine Ew.getR (8) hx dX7_changeFee_33 fg_RX7_27 rfl rfl ?_
      refine Ew.iload_n hx dX7_changeFee_36 rfl ?_
      refine Ew.aldq (10 + r) hx dX7_changeFee_37 rg_7 rfl (rfl) (by omega) (by omega) ?_
      refine Ew.iload_n hx dX7_changeFee_38 rfl ?_
      refine Ew.putI hx dX7_changeFee_39 pg_RX7_78 (kd_rm (by omega)) ?_
      refine Ew.iload_n hx dX7_changeFee_42 rfl ?_
      refine Ew.iret hx hq dX7_changeFee_43 rfl ?_
      have c2 := cl_rm (S := 2) (r := r) (j := 2) (by omega) (by decide)
      rw [nt_nI (show r < 2 ^ 31 by omega), hR.rm hr (by omega) (by decide)]
      exact Or.inr ⟨cif_t ⟨h5a, h16⟩, rfl, hR.put (37 + 3 * r + 2) f (by omega) (by omega) (by omega) c2.1 c2.2, Fr.rfl'.mup (by omega)⟩
    · have ec : cdFee s (nI r) f = -100001 := cif_f (fun q => h16 q.2)
      refine Ew.ldc hx dX7_changeFee_19 kn_RX7_63 ?_
      refine Ew.iret hx hq dX7_changeFee_21 rfl ?_
      exact Or.inl ⟨by rw [ec]; decide, by rw [ec], rfl⟩
