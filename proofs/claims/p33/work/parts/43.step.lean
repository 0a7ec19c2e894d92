theorem tN_le {s s' : Sv} (e : s' 0 = s 0) : tN s' ≤ tN s + 1 := by
  unfold tN
  rw [e]
  omega
theorem nr_le {s s' : Sv} (e : s' 2 = s 2) : nrN s ≤ nrN s' := by
  unfold nrN
  rw [e]
  omega
/-- what an action leaves: the invariant, no fewer ramps, at most a day on, no snapshot touched, an answer that is no error -/
def SOK (s s' : Sv) (M : Int) (a : Int32) : Prop := IV s' M ∧ nrN s ≤ nrN s' ∧ tN s' ≤ tN s + 1 ∧ (∀ m, 193 ≤ m → s' m = s m) ∧ -100000 ≤ a.toInt
section ST
variable {s : Sv} {B M : Int}
theorem so_level (hW : WF s B) (hI : IV s M) {x : Int32} (h : cdLevel x = 0) : SOK s (upd s 1 x) M (s 1) := ⟨iv_put hI (by decide) (by decide) (by decide) (by decide), nr_le (upd_n _ _ (by decide)), tN_le (upd_n _ _ (by decide)), (ok_level hW x).2.2 h, by have := hW.lv; omega⟩
theorem so_rate (hW : WF s B) (hI : IV s M) {w x : Int32} (h : cdRate w x = 0) : SOK s (upd s (11 + nt w) x) M (s (11 + nt w)) := by
  have hi : nt w < 26 := by
    obtain ⟨⟨h1, h2⟩, -⟩ := cd_ok h (by decide)
    rw [ie, ie, tl_0, tl_25] at h1
    unfold nt
    omega
  exact ⟨iv_put hI (by omega) (by omega) (by omega) (by omega), nr_le (upd_n _ _ (by omega)), tN_le (upd_n _ _ (by omega)), (ok_rate hW w x).2.2 h, by have := hW.rate hi; omega⟩
theorem so_fee (hW : WF s B) (hI : IV s M) {x f : Int32} (h : cdFee s x f = 0) : SOK s (upd s (37 + 3 * nt x + 2) f) M (rf s (nt x) 2) := by
  have hnr := hW.nr.2
  have hi : nt x < nrN s := by
    obtain ⟨⟨h1, h2⟩, -⟩ := cd_ok h (by decide)
    obtain ⟨r, hxr, hr⟩ := hW.rix h1
    rw [hxr, nt_nI (by omega)]
    exact hr
  exact ⟨iv_fee hW hI h, nr_le (upd_n _ _ (by omega)), tN_le (upd_n _ _ (by omega)), (ok_fee hW x f).2.2 h, by have := (hW.rm hi).2.2; omega⟩
theorem so_ramp (hW : WF s B) (hI : IV s M) {e b f : Int32} (h : cdRamp s e b f = 0) : SOK s (nxRamp s e b f) M (s 2) := by
  have hnr := hW.nr
  have b3 := hW.2.2.1
  have e1 : (s 2 + 1).toInt = (s 2).toInt + 1 := by rw [addT (by rw [tl_1]; omega) (by rw [tl_1]; omega), tl_1]
  refine ⟨iv_ramp hW hI h, ?_, tN_le ?_, (ok_ramp hW e b f).2.2 h, by omega⟩
  · unfold nrN nxRamp
    rw [upd_s, e1]
    omega
  · unfold nxRamp
    rw [upd_n _ _ (by decide), upd_n _ _ (by omega), upd_n _ _ (by omega), upd_n _ _ (by omega)]
theorem so_fine (hW : WF s B) (hI : IV s M) {x a : Int32} (h : cdFine x a = 0) : SOK s (upd s (4 + (nt x - 1)) a) M (s (4 + (nt x - 1))) := by
  have hi : nt x - 1 < 3 := by
    obtain ⟨⟨h1, h2⟩, -⟩ := cd_ok h (by decide)
    rw [ie, ie, tl_1, tl_3] at h1
    unfold nt
    omega
  exact ⟨iv_put hI (by omega) (by omega) (by omega) (by omega), nr_le (upd_n _ _ (by omega)), tN_le (upd_n _ _ (by omega)), (ok_fine hW x a).2.2 h, by have := hW.fine hi; omega⟩
theorem so_buy (hW : WF s B) (hB0 : 0 ≤ B) (hI : IV s M) (hM0 : 15000 ≤ M) {x a b d : Int32} (h : cdBuy s x a b d = 0) : SOK s (nxBuy s x a b d) M (s 3) := by
  refine ⟨iv_buy hW hI hM0 h, nr_le ?_, tN_le ?_, (ok_buy hB0 hW x a b d).2.2 h, by have := hW.2.2.2.1; omega⟩ <;>
  · unfold nxBuy
    rw [upd_n _ _ (by decide), prow_lo _ _ _ _ (by decide)]
theorem so_move (hW : WF s B) (hB0 : 0 ≤ B) (hB : B + 15000 < 2147483648) (hI : IV s M) (hM : M + 15000 < 2000000000) {x y : Int32} (h : cdMove s x y = 0) : SOK s (nxMove s x y) (M + 15000) (mvD s x y) := by
  have hnp := hW.np.2
  have hnr := hW.nr.2
  have hi : nt x < npN s ∧ nt y < nrN s := by
    obtain ⟨⟨h1, h2⟩, h3⟩ := cd_ok h (by decide)
    obtain ⟨p, hxp, hp⟩ := hW.pix h1
    obtain ⟨r, hyr, hr⟩ := hW.rix h2
    rw [hxp, hyr, nt_nI (by omega), nt_nI (by omega)]
    exact ⟨hp, hr⟩
  exact ⟨iv_move hW hI hM h, nr_le (prow_lo _ _ _ _ (by decide)), tN_le (prow_lo _ _ _ _ (by decide)), (ok_move hB0 hB hW x y).2.2 h, by have := mvD_b hW hi.1 hi.2 rfl rfl; omega⟩
theorem so_cancel (hW : WF s B) (hB : B + 15000 < 2147483648) (hI : IV s M) (hM : M + 15000 < 2000000000) {x : Int32} (h : cdCancel s x = 0) : SOK s (nxCancel s x) M (anCancel s x) := by
  have hnp := hW.np.2
  have hi : nt x < npN s := by
    obtain ⟨h1, -⟩ := cd_ok h (by decide)
    obtain ⟨p, hxp, hp⟩ := hW.pix h1
    rw [hxp, nt_nI (by omega)]
    exact hp
  exact ⟨iv_cancel hW hI (by omega) h, nr_le (prow_lo _ _ _ _ (by decide)), tN_le (prow_lo _ _ _ _ (by decide)), (ok_cancel hB hW x).2.2 h, by have := cnO_b hW hi rfl; omega⟩
theorem so_refund (hW : WF s B) (hB0 : 0 ≤ B) (hI : IV s M) (hM : M + 15000 < 2000000000) {x : Int32} (h : cdRefund s x = 0) : SOK s (nxRefund s x) M (pf s (nt x) 7) := by
  have hnp := hW.np.2
  have hi : nt x < npN s := by
    obtain ⟨h1, -⟩ := cd_ok h (by decide)
    obtain ⟨p, hxp, hp⟩ := hW.pix h1
    rw [hxp, nt_nI (by omega)]
    exact hp
  exact ⟨iv_refund hW hI (by omega) h, nr_le (prow_lo _ _ _ _ (by decide)), tN_le (prow_lo _ _ _ _ (by decide)), (ok_refund hB0 hW x).2.2 h, by have := (hW.pm hi).2.2.2.2.1; omega⟩
theorem so_pass (hW : WF s B) (hB0 : 0 ≤ B) (hB : B + 15000 < 2147483648) (hI : IV s M) (hM : M + 15000 < 2000000000) {c : Int32} (h : cdPass s c = 0) : SOK s (nxPass s c) M (nI (lsN s (npN s))) := by
  obtain ⟨h1, h2, h3⟩ := iv_pass hW hI (by omega) h
  exact ⟨h1, by omega, by omega, (ok_pass hB0 hB hW c).2.2 h, by have := lsN_le hW; rw [tn (by omega)]; omega⟩
theorem so_launch (hW : WF s B) (hI : IV s M) {x d q : Int32} (h : cdLaunch s x d q = 0) : SOK s (nxLaunch s x d q) M (anLaunch s x d q) := by
  have e : ∀ m, m = 0 ∨ m = 2 → nxLaunch s x d q m = s m := fun m hm => by
    unfold nxLaunch
    by_cases h0 : rsn s (nt x) d q = 0
    · rw [cif_t h0]
    · rw [cif_f h0]
      have := rsn_i h0
      rw [upd_n _ _ (by omega), upd_n _ _ (by omega)]
  refine ⟨iv_launch hI x d q, nr_le (e 2 (by omega)), tN_le (e 0 (by omega)), (ok_launch hW x d q).2.2 h, ?_⟩
  unfold anLaunch
  by_cases h0 : rsn s (nt x) d q = 0
  · rw [cif_t h0]; decide
  · rw [cif_f h0]
    have := hW.fine (rsn_i h0)
    omega
end ST
theorem SOK.up {s s' : Sv} {M M' : Int} {a : Int32} (h : SOK s s' M a) (hM : M ≤ M') : SOK s s' M' a := ⟨h.1.mono hM, h.2⟩
theorem ac_0 {v : Int32} (hk : kiN v = 0) (s : Sv) : actA s v = (cdLevel (a0I s v), s 1, upd s 1 (a0I s v)) := by
  unfold actA
  rw [hk]
  try rfl
theorem ac_1 {v : Int32} (hk : kiN v = 1) (s : Sv) : actA s v = (cdRate (a1I v) (a1J v), s (11 + nt (a1I v)), upd s (11 + nt (a1I v)) (a1J v)) := by
  unfold actA
  rw [hk]
  try rfl
theorem ac_2 {v : Int32} (hk : kiN v = 2) (s : Sv) : actA s v = (cdFee s (raI s v) (a2I v), rf s (nt (raI s v)) 2, upd s (37 + 3 * nt (raI s v) + 2) (a2I v)) := by
  unfold actA
  rw [hk]
  try rfl
theorem ac_3 {v : Int32} (hk : kiN v = 3) (s : Sv) : actA s v = (cdRamp s (a3I v) (a3J v) (a3K v), s 2, nxRamp s (a3I v) (a3J v) (a3K v)) := by
  unfold actA
  rw [hk]
  try rfl
theorem ac_4 {v : Int32} (hk : kiN v = 4) (s : Sv) : actA s v = (cdBuy s (raI s v) (fiI s v) (a4J s v) (a4K v), s 3, nxBuy s (raI s v) (fiI s v) (a4J s v) (a4K v)) := by
  unfold actA
  rw [hk]
  try rfl
theorem ac_5 {v : Int32} (hk : kiN v = 5) (s : Sv) : actA s v = (cdBuy s (raI s v) (fiI s v) (a4J s v) (a4K v), s 3, nxBuy s (raI s v) (fiI s v) (a4J s v) (a4K v)) := by
  unfold actA
  rw [hk]
  try rfl
theorem ac_6 {v : Int32} (hk : kiN v = 6) (s : Sv) : actA s v = (cdBuy s (raI s v) (fiI s v) (a4J s v) (a4K v), s 3, nxBuy s (raI s v) (fiI s v) (a4J s v) (a4K v)) := by
  unfold actA
  rw [hk]
  try rfl
theorem ac_7 {v : Int32} (hk : kiN v = 7) (s : Sv) : actA s v = (cdMove s (peI s v) (raI s v), mvD s (peI s v) (raI s v), nxMove s (peI s v) (raI s v)) := by
  unfold actA
  rw [hk]
  try rfl
theorem ac_8 {v : Int32} (hk : kiN v = 8) (s : Sv) : actA s v = (cdMove s (peI s v) (raI s v), mvD s (peI s v) (raI s v), nxMove s (peI s v) (raI s v)) := by
  unfold actA
  rw [hk]
  try rfl
theorem ac_9 {v : Int32} (hk : kiN v = 9) (s : Sv) : actA s v = (cdCancel s (peI s v), anCancel s (peI s v), nxCancel s (peI s v)) := by
  unfold actA
  rw [hk]
  try rfl
theorem ac_10 {v : Int32} (hk : kiN v = 10) (s : Sv) : actA s v = (cdRefund s (peI s v), pf s (nt (peI s v)) 7, nxRefund s (peI s v)) := by
  unfold actA
  rw [hk]
  try rfl
theorem ac_11 {v : Int32} (hk : kiN v = 11) (s : Sv) : actA s v = (cdLaunch s (raI s v) (b1I v) (b1J s v), anLaunch s (raI s v) (b1I v) (b1J s v), nxLaunch s (raI s v) (b1I v) (b1J s v)) := by
  unfold actA
  rw [hk]
  try rfl
theorem ac_12 {v : Int32} (hk : kiN v = 12) (s : Sv) : actA s v = (cdFine (b2I v) (b2J v), s (4 + (nt (b2I v) - 1)), upd s (4 + (nt (b2I v) - 1)) (b2J v)) := by
  unfold actA
  rw [hk]
  try rfl
theorem ac_13 {v : Int32} (hk : kiN v = 13) (s : Sv) : actA s v = (cdPass s (b3I v), nI (lsN s (npN s)), nxPass s (b3I v)) := by
  unfold actA
  rw [hk]
  try rfl
theorem ac_14 {v : Int32} (hk : kiN v = 14) (s : Sv) : actA s v = (cdPass s (b3I v), nI (lsN s (npN s)), nxPass s (b3I v)) := by
  unfold actA
  rw [hk]
  try rfl
theorem ac_15 {v : Int32} (hk : kiN v = 15) (s : Sv) : actA s v = (cdPass s (b3I v), nI (lsN s (npN s)), nxPass s (b3I v)) := by
  unfold actA
  rw [hk]
  try rfl
theorem act_e (s : Sv) (v : Int32) : cdE (actA s v).1 := by
  rcases kiN_16 v with hk | hk | hk | hk | hk | hk | hk | hk | hk | hk | hk | hk | hk | hk | hk | hk
  · rw [ac_0 hk s]; exact cdLevel_e _
  · rw [ac_1 hk s]; exact cdRate_e _ _
  · rw [ac_2 hk s]; exact cdFee_e _ _ _
  · rw [ac_3 hk s]; exact cdRamp_e _ _ _ _
  · rw [ac_4 hk s]; exact cdBuy_e _ _ _ _ _
  · rw [ac_5 hk s]; exact cdBuy_e _ _ _ _ _
  · rw [ac_6 hk s]; exact cdBuy_e _ _ _ _ _
  · rw [ac_7 hk s]; exact cdMove_e _ _ _
  · rw [ac_8 hk s]; exact cdMove_e _ _ _
  · rw [ac_9 hk s]; exact cdCancel_e _ _
  · rw [ac_10 hk s]; exact cdRefund_e _ _
  · rw [ac_11 hk s]; exact cdLaunch_e _ _ _ _
  · rw [ac_12 hk s]; exact cdFine_e _ _
  · rw [ac_13 hk s]; exact cdPass_e _ _
  · rw [ac_14 hk s]; exact cdPass_e _ _
  · rw [ac_15 hk s]; exact cdPass_e _ _
theorem act_ok {s : Sv} {v : Int32} {B M : Int} (hW : WF s B) (hB0 : 0 ≤ B) (hB : B + 15000 < 2147483648) (hI : IV s M) (hM0 : 15000 ≤ M) (hM : M + 15000 < 2000000000) (h : (actA s v).1 = 0) :
    SOK s (actA s v).2.2 (M + 15000) (actA s v).2.1 ∧ (kiN v = 9 → anMoney (actA s v).2.2 2 = anMoney s 2 + (actA s v).2.1) ∧ (kiN v = 10 → anMoney (actA s v).2.2 2 = anMoney s 2 - (actA s v).2.1) ∧ (kiN v = 11 → anMoney (actA s v).2.2 5 = anMoney s 5 + (actA s v).2.1) := by
  rcases kiN_16 v with hk | hk | hk | hk | hk | hk | hk | hk | hk | hk | hk | hk | hk | hk | hk | hk
  · rw [ac_0 hk s] at h ⊢
    exact ⟨(so_level hW hI h).up (by omega), fun q => absurd (hk.symm.trans q) (by decide), fun q => absurd (hk.symm.trans q) (by decide), fun q => absurd (hk.symm.trans q) (by decide)⟩
  · rw [ac_1 hk s] at h ⊢
    exact ⟨(so_rate hW hI h).up (by omega), fun q => absurd (hk.symm.trans q) (by decide), fun q => absurd (hk.symm.trans q) (by decide), fun q => absurd (hk.symm.trans q) (by decide)⟩
  · rw [ac_2 hk s] at h ⊢
    exact ⟨(so_fee hW hI h).up (by omega), fun q => absurd (hk.symm.trans q) (by decide), fun q => absurd (hk.symm.trans q) (by decide), fun q => absurd (hk.symm.trans q) (by decide)⟩
  · rw [ac_3 hk s] at h ⊢
    exact ⟨(so_ramp hW hI h).up (by omega), fun q => absurd (hk.symm.trans q) (by decide), fun q => absurd (hk.symm.trans q) (by decide), fun q => absurd (hk.symm.trans q) (by decide)⟩
  · rw [ac_4 hk s] at h ⊢
    exact ⟨(so_buy hW hB0 hI hM0 h).up (by omega), fun q => absurd (hk.symm.trans q) (by decide), fun q => absurd (hk.symm.trans q) (by decide), fun q => absurd (hk.symm.trans q) (by decide)⟩
  · rw [ac_5 hk s] at h ⊢
    exact ⟨(so_buy hW hB0 hI hM0 h).up (by omega), fun q => absurd (hk.symm.trans q) (by decide), fun q => absurd (hk.symm.trans q) (by decide), fun q => absurd (hk.symm.trans q) (by decide)⟩
  · rw [ac_6 hk s] at h ⊢
    exact ⟨(so_buy hW hB0 hI hM0 h).up (by omega), fun q => absurd (hk.symm.trans q) (by decide), fun q => absurd (hk.symm.trans q) (by decide), fun q => absurd (hk.symm.trans q) (by decide)⟩
  · rw [ac_7 hk s] at h ⊢
    exact ⟨so_move hW hB0 hB hI hM h, fun q => absurd (hk.symm.trans q) (by decide), fun q => absurd (hk.symm.trans q) (by decide), fun q => absurd (hk.symm.trans q) (by decide)⟩
  · rw [ac_8 hk s] at h ⊢
    exact ⟨so_move hW hB0 hB hI hM h, fun q => absurd (hk.symm.trans q) (by decide), fun q => absurd (hk.symm.trans q) (by decide), fun q => absurd (hk.symm.trans q) (by decide)⟩
  · rw [ac_9 hk s] at h ⊢
    exact ⟨(so_cancel hW hB hI hM h).up (by omega), fun _ => mo_cancel hW h, fun q => absurd (hk.symm.trans q) (by decide), fun q => absurd (hk.symm.trans q) (by decide)⟩
  · rw [ac_10 hk s] at h ⊢
    exact ⟨(so_refund hW hB0 hI hM h).up (by omega), fun q => absurd (hk.symm.trans q) (by decide), fun _ => mo_refund hW h, fun q => absurd (hk.symm.trans q) (by decide)⟩
  · rw [ac_11 hk s] at h ⊢
    exact ⟨(so_launch hW hI h).up (by omega), fun q => absurd (hk.symm.trans q) (by decide), fun q => absurd (hk.symm.trans q) (by decide), fun _ => mo_launch _ _ _ _⟩
  · rw [ac_12 hk s] at h ⊢
    exact ⟨(so_fine hW hI h).up (by omega), fun q => absurd (hk.symm.trans q) (by decide), fun q => absurd (hk.symm.trans q) (by decide), fun q => absurd (hk.symm.trans q) (by decide)⟩
  · rw [ac_13 hk s] at h ⊢
    exact ⟨(so_pass hW hB0 hB hI hM h).up (by omega), fun q => absurd (hk.symm.trans q) (by decide), fun q => absurd (hk.symm.trans q) (by decide), fun q => absurd (hk.symm.trans q) (by decide)⟩
  · rw [ac_14 hk s] at h ⊢
    exact ⟨(so_pass hW hB0 hB hI hM h).up (by omega), fun q => absurd (hk.symm.trans q) (by decide), fun q => absurd (hk.symm.trans q) (by decide), fun q => absurd (hk.symm.trans q) (by decide)⟩
  · rw [ac_15 hk s] at h ⊢
    exact ⟨(so_pass hW hB0 hB hI hM h).up (by omega), fun q => absurd (hk.symm.trans q) (by decide), fun q => absurd (hk.symm.trans q) (by decide), fun q => absurd (hk.symm.trans q) (by decide)⟩
