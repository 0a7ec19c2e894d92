def psh (s : Sv) (h : Nat → Sv) : Nat → Sv := fun j => if j = 0 then s else h (j - 1)
/-- the class's part of the world: its state is s, its history the z states h 0 (the latest), h 1 .. -/
def CR (V : Mm) (s : Sv) (n z : Nat) (h : Nat → Sv) (B : Int) : Prop :=
  V 76 1 = nI n ∧ n < 6 ∧ V 76 2 = nI z ∧ z ≤ 5 ∧ StR V 1 s ∧ WS s B ∧ ∀ j, j < z → StR V (78 + 75 * ((n + 5 - j) % 6)) (h j) ∧ WS (h j) B
def Act (V : Mm) (s : Sv) (n z : Nat) (h : Nat → Sv) (B B' : Int) (code ans : Int32) (s' : Sv) : PT := fun v V9 => Fr 1 528 V V9 ∧ ((code < 0 ∧ v = some (.int code) ∧ CR V9 s n z h B) ∨ (code = 0 ∧ v = some (.int ans) ∧ CR V9 s' (nxH n) (szH z) (psh s h) B'))
theorem row_fr {n : Nat} (hn : n < 6) : 78 ≤ 78 + 75 * n ∧ 78 + 75 * n + 75 ≤ 528 := by omega
theorem CR.prep {V V1 : Mm} {s : Sv} {n z : Nat} {h : Nat → Sv} {B : Int} (hC : CR V s n z h B) (hpF : Fr (78 + 75 * n) (78 + 75 * n + 75) V V1) : CR V1 s n z h B := by
  obtain ⟨e1, hn, e2, hz, hR, hW, hH⟩ := hC
  refine ⟨by rw [hpF _ (by omega)]; exact e1, hn, by rw [hpF _ (by omega)]; exact e2, hz, hR.frame (fun k h1 h2 => hpF k (by omega)), hW, fun j hj => ⟨(hH j hj).1.frame (fun k h1 h2 => hpF k ?_), (hH j hj).2⟩⟩
  have q : (n + 5 - j) % 6 ≠ n := by omega
  omega
theorem CR.err {V V2 : Mm} {s : Sv} {n z : Nat} {h : Nat → Sv} {B : Int} (hC : CR V s n z h B) (hF : V2 = V) : CR V2 s n z h B := hF ▸ hC
theorem CR.ok {V V2 : Mm} {s s' : Sv} {n z : Nat} {h : Nat → Sv} {B B' : Int} (hC : CR V s n z h B) (hp : StR V (78 + 75 * n) s) (hR : StR V2 1 s') (hF : Fr 1 76 V V2) (hW : WS s' B') (hB : B ≤ B') : CR (mup (mup V2 76 1 (nI (nxH n))) 76 2 (nI (szH z))) s' (nxH n) (szH z) (psh s h) B' := by
  obtain ⟨e1, hn, e2, hz, hR0, hW0, hH⟩ := hC
  have hs : szH z ≤ 5 ∧ szH z ≤ z + 1 ∧ (z < 5 → szH z = z + 1) := by unfold szH; split <;> omega
  have hx : nxH n < 6 ∧ (nxH n = n + 1 ∨ (nxH n = 0 ∧ n = 5)) := by unfold nxH; split <;> omega
  have fr : ∀ k, (k ≠ 76) → mup (mup V2 76 1 (nI (nxH n))) 76 2 (nI (szH z)) k = V2 k := fun k hk => by rw [mup_ne _ _ _ hk, mup_ne _ _ _ hk]
  refine ⟨by rw [mup_oth _ _ _ _ (Or.inr (by decide)), mup_self], hx.1, mup_self _ _ _ _, hs.1, hR.frame (fun k h1 h2 => fr k (by omega)), hW, fun j hj => ?_⟩
  by_cases h0 : j = 0
  · subst h0
    rw [show psh s h 0 = s from rfl, show (nxH n + 5 - 0) % 6 = n by omega]
    exact ⟨hp.frame (fun k h1 h2 => by rw [fr k (by omega), hF k (by omega)]), hW0.mono hB⟩
  · rw [show psh s h j = h (j - 1) from if_neg h0, show (nxH n + 5 - j) % 6 = (n + 5 - (j - 1)) % 6 by omega]
    have q := hH (j - 1) (by omega)
    exact ⟨q.1.frame (fun k h1 h2 => by rw [fr k (by omega), hF k (by omega)]), q.2.mono hB⟩
theorem st_up {V1 V2 : Mm} {s s' : Sv} (hR : StR V1 1 s) (h2 : Rep V2 2 s') (hF : Fr 2 26 V1 V2) (hi : ∀ m, 193 ≤ m → s' m = s m) : StR V2 1 s' := by
  refine ⟨h2, fun i hi2 => ?_⟩
  rw [hi _ (by omega), hF _ (by omega)]
  refine ⟨(hR.2 i hi2).1, fun q => (((hR.2 i hi2).2 q).congr (fun m hm => hi _ (by omega))).frame (fun k h1 h2 => hF k (by omega))⟩
theorem ws_up {s s' : Sv} {B B' : Int} (hW : WS s B) (hB : B ≤ B') (h : WF s' B') (hi : ∀ m, 193 ≤ m → s' m = s m) : WS s' B' := by
  refine ⟨h, fun i hi2 => ?_⟩
  rw [hi _ (by omega)]
  exact ⟨(hW.2 i hi2).1, fun q => (((hW.2 i hi2).2 q).mono hB).congr (fun m hm => hi _ (by omega))⟩
theorem act_fin {V V1 V2 : Mm} {s s' : Sv} {n z : Nat} {h : Nat → Sv} {B B' : Int} {code ans x : Int32} (hC : CR V s n z h B) (hp : StR V1 (78 + 75 * n) s) (hpF : Fr (78 + 75 * n) (78 + 75 * n + 75) V V1) (hq : PstS V1 code ans s' (some (.int x)) V2)
    (herr : code = 0 ∨ errP code) (hne : code = 0 → ¬ errP ans) (hW : code = 0 → WS s' B') (hB : B ≤ B') : Act V s n z h B B' code ans s' (some (.int x)) (cif (errP x) V2 (mup (mup V2 76 1 (nI (nxH n))) 76 2 (nI (szH z)))) := by
  have hn := hC.2.1
  have hF1 : Fr 1 528 V V1 := fun k hk => hpF k (by omega)
  rcases hq with ⟨h1, h2, h3⟩ | ⟨h1, h2, h3, h4⟩
  · have hx : x = code := by cases h2; rfl
    subst hx
    have he : errP x := herr.resolve_left (fun q => by rw [q] at h1; exact absurd h1 (by decide))
    rw [cif_t he, h3]
    exact ⟨hF1, Or.inl ⟨h1, rfl, hC.prep hpF⟩⟩
  · have hx : x = ans := by cases h2; rfl
    subst hx
    rw [cif_f (hne h1)]
    exact ⟨fun k hk => by rw [mup_ne _ _ _ (by omega), mup_ne _ _ _ (by omega), h4 k (by omega), hF1 k hk], Or.inr ⟨h1, rfl, (hC.prep hpF).ok hp h3 h4 (hW h1) hB⟩⟩
theorem pst_S {V1 V2 : Mm} {s s' : Sv} {code ans : Int32} {v : Option Value} (hR : StR V1 1 s) (hi : code = 0 → ∀ m, 193 ≤ m → s' m = s m) (hq : Pst V1 code ans s' v V2) : PstS V1 code ans s' v V2 := by
  rcases hq with h | ⟨h1, h2, h3, h4⟩
  · exact Or.inl h
  · exact Or.inr ⟨h1, h2, st_up hR h3 h4 (hi h1), fun k hk => h4 k (by omega)⟩
theorem pst_int {V1 V2 : Mm} {s' : Sv} {code ans : Int32} {v : Option Value} (hq : PstS V1 code ans s' v V2) : ∃ x, v = some (.int x) := by
  rcases hq with ⟨-, h, -⟩ | ⟨-, h, -⟩ <;> exact ⟨_, h⟩
theorem pst_fr {V1 V2 : Mm} {s' : Sv} {code ans : Int32} {v : Option Value} (hq : PstS V1 code ans s' v V2) : Fr 1 76 V1 V2 := by
  rcases hq with ⟨-, -, h⟩ | ⟨-, -, -, h⟩
  · rw [h]; exact Fr.rfl'
  · exact h
def cdE (x : Int32) : Prop := x = 0 ∨ errP x
theorem cdE_cif {P : Prop} {x y : Int32} (hx : cdE x) (hy : cdE y) : cdE (cif P x y) := by
  by_cases h : P
  · rw [cif_t h]; exact hx
  · rw [cif_f h]; exact hy
theorem cdE_0 : cdE 0 := Or.inl rfl
theorem cdE_1 : cdE (-100001) := Or.inr (Or.inl rfl)
theorem cdE_2 : cdE (-100002) := Or.inr (Or.inr (Or.inl rfl))
theorem cdE_3 : cdE (-100003) := Or.inr (Or.inr (Or.inr rfl))
theorem hi_upd {s s' : Sv} {m : Nat} {x : Int32} (hm : m < 193) (h : ∀ k, 193 ≤ k → s' k = s k) : ∀ k, 193 ≤ k → upd s' m x k = s k := fun k hk => by rw [upd_n _ _ (by omega)]; exact h k hk
theorem hi_prow {s s' : Sv} {p : Nat} {f : Nat → Int32} (hp : p < 12) (h : ∀ k, 193 ≤ k → s' k = s k) : ∀ k, 193 ≤ k → prow s' p f k = s k := fun k hk => by
  unfold prow
  rw [if_neg (by omega)]
  exact h k hk
theorem hi_psS {s : Sv} : ∀ n, n ≤ 12 → ∀ k, 193 ≤ k → psS s n k = s k
  | 0, _ => fun _ _ => rfl
  | n + 1, hn => fun k hk => by
    have ih := hi_psS (s := s) n (by omega) k hk
    by_cases hc : cms s n (tN s)
    · rw [show psS s (n + 1) = _ from cif_t hc]
      unfold prow
      rw [if_neg (by omega)]
      exact ih
    · rw [show psS s (n + 1) = _ from cif_f hc]
      exact ih
theorem lsN_le {s : Sv} {B : Int} (hW : WF s B) : lsN s (npN s) ≤ 12 := Nat.le_trans (cntN_le _ _) hW.np.2
theorem cdLevel_e (x : Int32) : cdE (cdLevel x) := by
  unfold cdLevel
  repeat (first | exact cdE_0 | exact cdE_1 | exact cdE_2 | exact cdE_3 | apply cdE_cif)
theorem cdRate_e (w x : Int32) : cdE (cdRate w x) := by
  unfold cdRate
  repeat (first | exact cdE_0 | exact cdE_1 | exact cdE_2 | exact cdE_3 | apply cdE_cif)
theorem cdRamp_e (s : Sv) (e b f : Int32) : cdE (cdRamp s e b f) := by
  unfold cdRamp
  repeat (first | exact cdE_0 | exact cdE_1 | exact cdE_2 | exact cdE_3 | apply cdE_cif)
theorem cdFee_e (s : Sv) (x f : Int32) : cdE (cdFee s x f) := by
  unfold cdFee
  repeat (first | exact cdE_0 | exact cdE_1 | exact cdE_2 | exact cdE_3 | apply cdE_cif)
theorem cdFine_e (x a : Int32) : cdE (cdFine x a) := by
  unfold cdFine
  repeat (first | exact cdE_0 | exact cdE_1 | exact cdE_2 | exact cdE_3 | apply cdE_cif)
theorem cdBuy_e (s : Sv) (x a b d : Int32) : cdE (cdBuy s x a b d) := by
  unfold cdBuy
  repeat (first | exact cdE_0 | exact cdE_1 | exact cdE_2 | exact cdE_3 | apply cdE_cif)
theorem cdMove_e (s : Sv) (x y : Int32) : cdE (cdMove s x y) := by
  unfold cdMove
  repeat (first | exact cdE_0 | exact cdE_1 | exact cdE_2 | exact cdE_3 | apply cdE_cif)
theorem cdCancel_e (s : Sv) (x : Int32) : cdE (cdCancel s x) := by
  unfold cdCancel
  repeat (first | exact cdE_0 | exact cdE_1 | exact cdE_2 | exact cdE_3 | apply cdE_cif)
theorem cdRefund_e (s : Sv) (x : Int32) : cdE (cdRefund s x) := by
  unfold cdRefund
  repeat (first | exact cdE_0 | exact cdE_1 | exact cdE_2 | exact cdE_3 | apply cdE_cif)
theorem cdPass_e (s : Sv) (x : Int32) : cdE (cdPass s x) := by
  unfold cdPass
  repeat (first | exact cdE_0 | exact cdE_1 | exact cdE_2 | exact cdE_3 | apply cdE_cif)
theorem cdLaunch_e (s : Sv) (x d q : Int32) : cdE (cdLaunch s x d q) := by
  unfold cdLaunch
  repeat (first | exact cdE_0 | exact cdE_1 | exact cdE_2 | exact cdE_3 | apply cdE_cif)
theorem cdTake_e (x : Int32) : cdE (cdTake x) := by
  unfold cdTake
  repeat (first | exact cdE_0 | exact cdE_1 | exact cdE_2 | exact cdE_3 | apply cdE_cif)
theorem cdRestore_e (s : Sv) (x : Int32) : cdE (cdRestore s x) := by
  unfold cdRestore
  repeat (first | exact cdE_0 | exact cdE_1 | exact cdE_2 | exact cdE_3 | apply cdE_cif)
section OKS
variable {s : Sv} {B : Int}
theorem ok_level (hW : WF s B) (x : Int32) : (cdLevel x = 0 → ¬ errP (s 1)) ∧ (cdLevel x = 0 → WF (upd s 1 x) B) ∧ (cdLevel x = 0 → ∀ m, 193 ≤ m → upd s 1 x m = s m) := ⟨fun _ => noerr (by have := hW.lv; omega), fun h => wf_level hW h, fun _ => hi_upd (by decide) (fun _ _ => rfl)⟩
theorem ok_rate (hW : WF s B) (w x : Int32) : (cdRate w x = 0 → ¬ errP (s (11 + nt w))) ∧ (cdRate w x = 0 → WF (upd s (11 + nt w) x) B) ∧ (cdRate w x = 0 → ∀ m, 193 ≤ m → upd s (11 + nt w) x m = s m) := by
  have hi : cdRate w x = 0 → nt w < 26 := fun h => by
    obtain ⟨⟨h1, h2⟩, -⟩ := cd_ok h (by decide)
    rw [ie, ie, tl_0, tl_25] at h1
    unfold nt
    omega
  exact ⟨fun h => noerr (by have := hW.rate (hi h); omega), fun h => wf_rate hW h, fun h => hi_upd (by have := hi h; omega) (fun _ _ => rfl)⟩
theorem ok_ramp (hW : WF s B) (e b f : Int32) : (cdRamp s e b f = 0 → ¬ errP (s 2)) ∧ (cdRamp s e b f = 0 → WF (nxRamp s e b f) B) ∧ (cdRamp s e b f = 0 → ∀ m, 193 ≤ m → nxRamp s e b f m = s m) := by
  have hnr := hW.nr.2
  exact ⟨fun _ => noerr (by have := hW.2.2.1; omega), fun h => wf_ramp hW h, fun _ => hi_upd (by decide) (hi_upd (by omega) (hi_upd (by omega) (hi_upd (by omega) (fun _ _ => rfl))))⟩
theorem ok_fee (hW : WF s B) (x f : Int32) : (cdFee s x f = 0 → ¬ errP (rf s (nt x) 2)) ∧ (cdFee s x f = 0 → WF (upd s (37 + 3 * nt x + 2) f) B) ∧ (cdFee s x f = 0 → ∀ m, 193 ≤ m → upd s (37 + 3 * nt x + 2) f m = s m) := by
  have hnr := hW.nr.2
  have hi : cdFee s x f = 0 → nt x < nrN s := fun h => by
    obtain ⟨⟨h1, h2⟩, -⟩ := cd_ok h (by decide)
    obtain ⟨r, hxr, hr⟩ := hW.rix h1
    rw [hxr, nt_nI (by omega)]
    exact hr
  exact ⟨fun h => noerr (by have := (hW.rm (hi h)).2.2; omega), fun h => wf_fee hW h, fun h => hi_upd (by have := hi h; omega) (fun _ _ => rfl)⟩
theorem ok_fine (hW : WF s B) (x a : Int32) : (cdFine x a = 0 → ¬ errP (s (4 + (nt x - 1)))) ∧ (cdFine x a = 0 → WF (upd s (4 + (nt x - 1)) a) B) ∧ (cdFine x a = 0 → ∀ m, 193 ≤ m → upd s (4 + (nt x - 1)) a m = s m) := by
  have hi : cdFine x a = 0 → nt x - 1 < 3 := fun h => by
    obtain ⟨⟨h1, h2⟩, -⟩ := cd_ok h (by decide)
    rw [ie, ie, tl_1, tl_3] at h1
    unfold nt
    omega
  exact ⟨fun h => noerr (by have := hW.fine (hi h); omega), fun h => wf_fine hW h, fun h => hi_upd (by have := hi h; omega) (fun _ _ => rfl)⟩
theorem ok_buy (hB : 0 ≤ B) (hW : WF s B) (x a b d : Int32) : (cdBuy s x a b d = 0 → ¬ errP (s 3)) ∧ (cdBuy s x a b d = 0 → WF (nxBuy s x a b d) B) ∧ (cdBuy s x a b d = 0 → ∀ m, 193 ≤ m → nxBuy s x a b d m = s m) := by
  have hnp := hW.np
  have hi : cdBuy s x a b d = 0 → npN s < 12 := fun h => by
    obtain ⟨-, h4⟩ := cd_ok h (by decide)
    obtain ⟨-, h4⟩ := cd_ok h4 (by decide)
    obtain ⟨h4, -⟩ := cd_ok' h4 (by decide)
    rw [iq, show (12 : Int32).toInt = 12 from rfl, hnp.1, tn (by omega)] at h4
    omega
  exact ⟨fun _ => noerr (by have := hW.2.2.2.1; omega), fun h => wf_buy hB hW h, fun h => hi_upd (by decide) (hi_prow (hi h) (fun _ _ => rfl))⟩
theorem ok_move (hB0 : 0 ≤ B) (hB : B + 15000 < 2147483648) (hW : WF s B) (x y : Int32) : (cdMove s x y = 0 → ¬ errP (mvD s x y)) ∧ (cdMove s x y = 0 → WF (nxMove s x y) (B + 15000)) ∧ (cdMove s x y = 0 → ∀ m, 193 ≤ m → nxMove s x y m = s m) := by
  have hnp := hW.np.2
  have hnr := hW.nr.2
  have hi : cdMove s x y = 0 → nt x < npN s ∧ nt y < nrN s := fun h => by
    obtain ⟨⟨h1, h2⟩, h3⟩ := cd_ok h (by decide)
    obtain ⟨p, hxp, hp⟩ := hW.pix h1
    obtain ⟨r, hyr, hr⟩ := hW.rix h2
    rw [hxp, hyr, nt_nI (by omega), nt_nI (by omega)]
    exact ⟨hp, hr⟩
  exact ⟨fun h => noerr (by have := mvD_b hW (hi h).1 (hi h).2 rfl rfl; omega), fun h => wf_move hB hB0 hW h, fun h => hi_prow (by have := (hi h).1; omega) (fun _ _ => rfl)⟩
theorem ok_cancel (hB : B + 15000 < 2147483648) (hW : WF s B) (x : Int32) : (cdCancel s x = 0 → ¬ errP (anCancel s x)) ∧ (cdCancel s x = 0 → WF (nxCancel s x) (B + 15000)) ∧ (cdCancel s x = 0 → ∀ m, 193 ≤ m → nxCancel s x m = s m) := by
  have hnp := hW.np.2
  have hi : cdCancel s x = 0 → nt x < npN s := fun h => by
    obtain ⟨h1, -⟩ := cd_ok h (by decide)
    obtain ⟨p, hxp, hp⟩ := hW.pix h1
    rw [hxp, nt_nI (by omega)]
    exact hp
  exact ⟨fun h => noerr (by have := cnO_b hW (hi h) rfl; omega), fun h => wf_cancel hB hW h, fun h => hi_prow (by have := hi h; omega) (fun _ _ => rfl)⟩
theorem ok_refund (hB : 0 ≤ B) (hW : WF s B) (x : Int32) : (cdRefund s x = 0 → ¬ errP (pf s (nt x) 7)) ∧ (cdRefund s x = 0 → WF (nxRefund s x) B) ∧ (cdRefund s x = 0 → ∀ m, 193 ≤ m → nxRefund s x m = s m) := by
  have hnp := hW.np.2
  have hi : cdRefund s x = 0 → nt x < npN s := fun h => by
    obtain ⟨h1, -⟩ := cd_ok h (by decide)
    obtain ⟨p, hxp, hp⟩ := hW.pix h1
    rw [hxp, nt_nI (by omega)]
    exact hp
  exact ⟨fun h => noerr (by have := (hW.pm (hi h)).2.2.2.2.1; omega), fun h => wf_refund hB hW h, fun h => hi_prow (by have := hi h; omega) (fun _ _ => rfl)⟩
theorem ok_pass (hB0 : 0 ≤ B) (hB : B + 15000 < 2147483648) (hW : WF s B) (c : Int32) : (cdPass s c = 0 → ¬ errP (nI (lsN s (npN s)))) ∧ (cdPass s c = 0 → WF (nxPass s c) (B + 15000)) ∧ (cdPass s c = 0 → ∀ m, 193 ≤ m → nxPass s c m = s m) :=
  ⟨fun _ => noerr (by have := lsN_le hW; rw [tn (by omega)]; omega), fun h => wf_pass hB hB0 hW h, fun _ => hi_upd (by decide) (hi_upd (by decide) (hi_psS _ hW.np.2))⟩
theorem ok_launch (hW : WF s B) (x d q : Int32) : (cdLaunch s x d q = 0 → ¬ errP (anLaunch s x d q)) ∧ (cdLaunch s x d q = 0 → WF (nxLaunch s x d q) B) ∧ (cdLaunch s x d q = 0 → ∀ m, 193 ≤ m → nxLaunch s x d q m = s m) := by
  refine ⟨fun _ => noerr ?_, fun _ => wf_launch hW x d q, fun _ => ?_⟩
  · unfold anLaunch
    by_cases h0 : rsn s (nt x) d q = 0
    · rw [cif_t h0]; decide
    · rw [cif_f h0]
      have := hW.fine (rsn_i h0)
      omega
  · unfold nxLaunch
    by_cases h0 : rsn s (nt x) d q = 0
    · rw [cif_t h0]; exact fun _ _ => rfl
    · rw [cif_f h0]
      have := rsn_i h0
      exact hi_upd (by decide) (hi_upd (by omega) (fun _ _ => rfl))
theorem ok_take (hW : WS s B) (x : Int32) : (cdTake x = 0 → ¬ errP (s 0)) ∧ (cdTake x = 0 → WS (nxTake s (nt x)) B) := by
  refine ⟨fun _ => noerr (by have := hW.1.1; omega), fun h => ?_⟩
  obtain ⟨h1, -⟩ := cd_ok h (by decide)
  rw [ie, ie, tl_0, tl_1] at h1
  have hi : nt x < 2 := by unfold nt; omega
  refine ⟨hW.1.congr (fun m hm => nxTake_lo s hm), fun j hj => ?_⟩
  by_cases hji : j = nt x
  · rw [hji, nxTake_at]
    exact ⟨Or.inr rfl, fun _ => hW.1.congr (fun m hm => nxTake_sb s hm)⟩
  · rw [nxTake_ot s hji hj hi]
    exact ⟨(hW.2 j hj).1, fun q => ((hW.2 j hj).2 q).congr (fun m hm => nxTake_so s hji hj hi hm)⟩
theorem ok_restore (hW : WS s B) (x : Int32) : (cdRestore s x = 0 → ¬ errP (nxRestore s (nt x) 0)) ∧ (cdRestore s x = 0 → WS (nxRestore s (nt x)) B) := by
  have hh : cdRestore s x = 0 → nt x < 2 ∧ WF (sbS s (nt x)) B := fun h => by
    obtain ⟨h1, h2⟩ := cd_ok h (by decide)
    obtain ⟨h2, -⟩ := cd_ok' h2 (by decide)
    rw [ie, ie, tl_0, tl_1] at h1
    have hi : nt x < 2 := by unfold nt; omega
    exact ⟨hi, (hW.2 _ hi).2 ((hW.2 _ hi).1.resolve_left h2)⟩
  refine ⟨fun h => noerr (by have := (hh h).2.1; show -100000 ≤ (sbS s (nt x) 0).toInt; omega), fun h => ?_⟩
  refine ⟨(hh h).2.congr (fun m hm => if_pos hm), fun j hj => ?_⟩
  have e : nxRestore s (nt x) (193 + 194 * j) = s (193 + 194 * j) := if_neg (by omega)
  rw [e]
  refine ⟨(hW.2 j hj).1, fun q => ((hW.2 j hj).2 q).congr (fun m hm => ?_)⟩
  unfold sbS nxRestore
  rw [if_neg (by omega)]
end OKS
set_option maxHeartbeats 4000000 in
set_option maxRecDepth 100000 in
theorem ct_X11_finishAction (G : GT) (V : Mm) {n z : Nat} (e1 : V 76 1 = nI n) (hn : n < 6) (e2 : V 76 2 = nI z) (hz : z ≤ 5) (x : Int32) : Ct G mX11_finishAction 1 [adr G 0, .int x] (V) (fun v V9 => v = some (.int x) ∧ V9 = cif (errP x) V (mup (mup V 76 1 (nI (nxH n))) 76 2 (nI (szH z)))) := by
  refine Ct.of cf_X11_finishAction (List.forall_mem_cons.mpr ⟨rfl, List.forall_mem_cons.mpr ⟨rfl, fun _ h => absurd h List.not_mem_nil⟩⟩) (Nat.le_of_ble_eq_true rfl) (l0 := [some (adr G 0), some (.int x)]) rfl (fun C hx hq => ?_)
  refine Ew.iload_n hx dX11_finishAction_0 rfl ?_
  refine Ew.callS (y' := mX11_isError) hx dX11_finishAction_1 ml_RX11_250 cf_X11_isError cs_X11_isError (ct_X11_isError G _ _) rfl (by decide) (by decide) rfl (Nat.le_of_ble_eq_true rfl) ?_
  rintro _ V9 ⟨rfl, h9⟩; subst V9
  refine Ew.ifne_b hx (tgt := 14) dX11_finishAction_4 rfl (fun h4 => ?_) (fun h4 => ?_)
  · refine Ew.iload_n hx dX11_finishAction_14 rfl ?_
    refine Ew.iret hx hq dX11_finishAction_15 rfl ?_
    first
      | (rw [cif_t (by assumption)]; exact ⟨rfl, rfl⟩)
      | (rw [cif_f (by assumption)]; exact ⟨rfl, rfl⟩)
  · refine Ew.aload_n hx dX11_finishAction_7 rfl ?_
    refine Ew.getR (76) hx dX11_finishAction_8 fg_RX11_19 rfl rfl ?_
    refine Ew.callV2 (y' := mX3_keep) hx dX11_finishAction_11 ml_RX11_130 cf_X3_keep cv_X3_keep (ct_X3_keep G V e1 hn e2 hz) rfl oc_13 rfl (by decide) (by decide) rfl (Nat.le_of_ble_eq_true rfl) ?_
    rintro _ V9 ⟨rfl, h9⟩; subst V9
    refine Ew.iload_n hx dX11_finishAction_14 rfl ?_
    refine Ew.iret hx hq dX11_finishAction_15 rfl ?_
    first
      | (rw [cif_t (by assumption)]; exact ⟨rfl, rfl⟩)
      | (rw [cif_f (by assumption)]; exact ⟨rfl, rfl⟩)
set_option maxHeartbeats 4000000 in
set_option maxRecDepth 100000 in
theorem ct_X11_setLevel (G : GT) (V : Mm) {s : Sv} {n z : Nat} {h : Nat → Sv} {B : Int} (hC : CR V s n z h B) (hB0 : 0 ≤ B) (hB : B + 15000 < 2147483648) (x : Int32) : Ct G mX11_setLevel 5 [adr G 0, .int x] (V) (Act V s n z h B (B) (cdLevel x) (s 1) (upd s 1 x)) := by
  refine Ct.of cf_X11_setLevel (List.forall_mem_cons.mpr ⟨rfl, List.forall_mem_cons.mpr ⟨rfl, fun _ h => absurd h List.not_mem_nil⟩⟩) (Nat.le_of_ble_eq_true rfl) (l0 := [some (adr G 0), some (.int x)]) rfl (fun C hx hq => ?_)
  refine Ew.aload_n hx dX11_setLevel_0 rfl ?_
  refine Ew.getR (76) hx dX11_setLevel_1 fg_RX11_19 rfl rfl ?_
  refine Ew.aload_n hx dX11_setLevel_4 rfl ?_
  refine Ew.getR (1) hx dX11_setLevel_5 fg_RX11_10 rfl rfl ?_
  refine Ew.callV2 (y' := mX3_prepare) hx dX11_setLevel_8 ml_RX11_30 cf_X3_prepare cv_X3_prepare (ct_X3_prepare G V hC.1 hC.2.1 hC.2.2.2.2.1 hC.2.2.2.2.2.1) rfl oc_13 rfl (by decide) (by decide) rfl (Nat.le_of_ble_eq_true rfl) ?_
  rintro _ V1 ⟨rfl, hp, hpF⟩
  have hC1 := hC.prep hpF
  have hS1 := hC1.2.2.2.2.1
  have hR1 : Rep V1 2 s := hS1.1
  have hW1 := hC.2.2.2.2.2.1.1
  refine Ew.aload_n hx dX11_setLevel_11 rfl ?_
  refine Ew.aload_n hx dX11_setLevel_12 rfl ?_
  refine Ew.getR (1) hx dX11_setLevel_13 fg_RX11_10 rfl rfl ?_
  refine Ew.getR (2) hx dX11_setLevel_16 fg_RX11_34 rfl rfl ?_
  refine Ew.iload_n hx dX11_setLevel_19 rfl ?_
  refine Ew.callV2 (y' := mX7_changeLevel) hx dX11_setLevel_20 ml_RX11_38 cf_X7_changeLevel cv_X7_changeLevel (ct_X7_changeLevel G V1 hR1 x) rfl oc_2 rfl (by decide) (by decide) rfl (Nat.le_of_ble_eq_true rfl) ?_
  rintro v2 V2 hq2
  have hq2 := hq2
  have hq2 := pst_S hS1 (ok_level hW1 x).2.2 hq2
  obtain ⟨r2, rfl⟩ := pst_int hq2
  have hF2 := pst_fr hq2
  refine Ew.callV2 (y' := mX11_finishAction) hx dX11_setLevel_23 ml_RX11_44 cf_X11_finishAction cv_X11_finishAction (ct_X11_finishAction G V2 (n := n) (z := z) (by rw [hF2 _ (by omega)]; exact hC1.1) hC1.2.1 (by rw [hF2 _ (by omega)]; exact hC1.2.2.1) hC1.2.2.2.1 r2) rfl oc_0 rfl (by decide) (by decide) rfl (Nat.le_of_ble_eq_true rfl) ?_
  rintro _ V9 ⟨rfl, h9⟩; subst V9
  refine Ew.iret hx hq dX11_setLevel_26 rfl ?_
  exact act_fin hC hp hpF hq2 (cdLevel_e x) (ok_level hW1 x).1 (fun z9 => ws_up hC.2.2.2.2.2.1 (Int.le_refl B) ((ok_level hW1 x).2.1 z9) ((ok_level hW1 x).2.2 z9)) (Int.le_refl B)
set_option maxHeartbeats 4000000 in
set_option maxRecDepth 100000 in
theorem ct_X11_setRate (G : GT) (V : Mm) {s : Sv} {n z : Nat} {h : Nat → Sv} {B : Int} (hC : CR V s n z h B) (hB0 : 0 ≤ B) (hB : B + 15000 < 2147483648) (w x : Int32) : Ct G mX11_setRate 5 [adr G 0, .int w, .int x] (V) (Act V s n z h B (B) (cdRate w x) (s (11 + nt w)) (upd s (11 + nt w) x)) := by
  refine Ct.of cf_X11_setRate (List.forall_mem_cons.mpr ⟨rfl, List.forall_mem_cons.mpr ⟨rfl, List.forall_mem_cons.mpr ⟨rfl, fun _ h => absurd h List.not_mem_nil⟩⟩⟩) (Nat.le_of_ble_eq_true rfl) (l0 := [some (adr G 0), some (.int w), some (.int x)]) rfl (fun C hx hq => ?_)
  refine Ew.aload_n hx dX11_setRate_0 rfl ?_
  refine Ew.getR (76) hx dX11_setRate_1 fg_RX11_19 rfl rfl ?_
  refine Ew.aload_n hx dX11_setRate_4 rfl ?_
  refine Ew.getR (1) hx dX11_setRate_5 fg_RX11_10 rfl rfl ?_
  refine Ew.callV2 (y' := mX3_prepare) hx dX11_setRate_8 ml_RX11_30 cf_X3_prepare cv_X3_prepare (ct_X3_prepare G V hC.1 hC.2.1 hC.2.2.2.2.1 hC.2.2.2.2.2.1) rfl oc_13 rfl (by decide) (by decide) rfl (Nat.le_of_ble_eq_true rfl) ?_
  rintro _ V1 ⟨rfl, hp, hpF⟩
  have hC1 := hC.prep hpF
  have hS1 := hC1.2.2.2.2.1
  have hR1 : Rep V1 2 s := hS1.1
  have hW1 := hC.2.2.2.2.2.1.1
  refine Ew.aload_n hx dX11_setRate_11 rfl ?_
  refine Ew.aload_n hx dX11_setRate_12 rfl ?_
  refine Ew.getR (1) hx dX11_setRate_13 fg_RX11_10 rfl rfl ?_
  refine Ew.getR (2) hx dX11_setRate_16 fg_RX11_34 rfl rfl ?_
  refine Ew.iload_n hx dX11_setRate_19 rfl ?_
  refine Ew.iload_n hx dX11_setRate_20 rfl ?_
  refine Ew.callV2 (y' := mX7_changeRate) hx dX11_setRate_21 ml_RX11_47 cf_X7_changeRate cv_X7_changeRate (ct_X7_changeRate G V1 hR1 w x) rfl oc_2 rfl (by decide) (by decide) rfl (Nat.le_of_ble_eq_true rfl) ?_
  rintro v2 V2 hq2
  have hq2 := hq2
  have hq2 := pst_S hS1 (ok_rate hW1 w x).2.2 hq2
  obtain ⟨r2, rfl⟩ := pst_int hq2
  have hF2 := pst_fr hq2
  refine Ew.callV2 (y' := mX11_finishAction) hx dX11_setRate_24 ml_RX11_44 cf_X11_finishAction cv_X11_finishAction (ct_X11_finishAction G V2 (n := n) (z := z) (by rw [hF2 _ (by omega)]; exact hC1.1) hC1.2.1 (by rw [hF2 _ (by omega)]; exact hC1.2.2.1) hC1.2.2.2.1 r2) rfl oc_0 rfl (by decide) (by decide) rfl (Nat.le_of_ble_eq_true rfl) ?_
  rintro _ V9 ⟨rfl, h9⟩; subst V9
  refine Ew.iret hx hq dX11_setRate_27 rfl ?_
  exact act_fin hC hp hpF hq2 (cdRate_e w x) (ok_rate hW1 w x).1 (fun z9 => ws_up hC.2.2.2.2.2.1 (Int.le_refl B) ((ok_rate hW1 w x).2.1 z9) ((ok_rate hW1 w x).2.2 z9)) (Int.le_refl B)
set_option maxHeartbeats 4000000 in
set_option maxRecDepth 100000 in
theorem ct_X11_addRamp (G : GT) (V : Mm) {s : Sv} {n z : Nat} {h : Nat → Sv} {B : Int} (hC : CR V s n z h B) (hB0 : 0 ≤ B) (hB : B + 15000 < 2147483648) (e b f : Int32) : Ct G mX11_addRamp 5 [adr G 0, .int e, .int b, .int f] (V) (Act V s n z h B (B) (cdRamp s e b f) (s 2) (nxRamp s e b f)) := by
  refine Ct.of cf_X11_addRamp (List.forall_mem_cons.mpr ⟨rfl, List.forall_mem_cons.mpr ⟨rfl, List.forall_mem_cons.mpr ⟨rfl, List.forall_mem_cons.mpr ⟨rfl, fun _ h => absurd h List.not_mem_nil⟩⟩⟩⟩) (Nat.le_of_ble_eq_true rfl) (l0 := [some (adr G 0), some (.int e), some (.int b), some (.int f)]) rfl (fun C hx hq => ?_)
  refine Ew.aload_n hx dX11_addRamp_0 rfl ?_
  refine Ew.getR (76) hx dX11_addRamp_1 fg_RX11_19 rfl rfl ?_
  refine Ew.aload_n hx dX11_addRamp_4 rfl ?_
  refine Ew.getR (1) hx dX11_addRamp_5 fg_RX11_10 rfl rfl ?_
  refine Ew.callV2 (y' := mX3_prepare) hx dX11_addRamp_8 ml_RX11_30 cf_X3_prepare cv_X3_prepare (ct_X3_prepare G V hC.1 hC.2.1 hC.2.2.2.2.1 hC.2.2.2.2.2.1) rfl oc_13 rfl (by decide) (by decide) rfl (Nat.le_of_ble_eq_true rfl) ?_
  rintro _ V1 ⟨rfl, hp, hpF⟩
  have hC1 := hC.prep hpF
  have hS1 := hC1.2.2.2.2.1
  have hR1 : Rep V1 2 s := hS1.1
  have hW1 := hC.2.2.2.2.2.1.1
  refine Ew.aload_n hx dX11_addRamp_11 rfl ?_
  refine Ew.aload_n hx dX11_addRamp_12 rfl ?_
  refine Ew.getR (1) hx dX11_addRamp_13 fg_RX11_10 rfl rfl ?_
  refine Ew.getR (2) hx dX11_addRamp_16 fg_RX11_34 rfl rfl ?_
  refine Ew.iload_n hx dX11_addRamp_19 rfl ?_
  refine Ew.iload_n hx dX11_addRamp_20 rfl ?_
  refine Ew.iload_n hx dX11_addRamp_21 rfl ?_
  refine Ew.callV2 (y' := mX7_openRamp) hx dX11_addRamp_22 ml_RX11_51 cf_X7_openRamp cv_X7_openRamp (ct_X7_openRamp G V1 hR1 hW1 e b f) rfl oc_2 rfl (by decide) (by decide) rfl (Nat.le_of_ble_eq_true rfl) ?_
  rintro v2 V2 hq2
  have hq2 := hq2
  have hq2 := pst_S hS1 (ok_ramp hW1 e b f).2.2 hq2
  obtain ⟨r2, rfl⟩ := pst_int hq2
  have hF2 := pst_fr hq2
  refine Ew.callV2 (y' := mX11_finishAction) hx dX11_addRamp_25 ml_RX11_44 cf_X11_finishAction cv_X11_finishAction (ct_X11_finishAction G V2 (n := n) (z := z) (by rw [hF2 _ (by omega)]; exact hC1.1) hC1.2.1 (by rw [hF2 _ (by omega)]; exact hC1.2.2.1) hC1.2.2.2.1 r2) rfl oc_0 rfl (by decide) (by decide) rfl (Nat.le_of_ble_eq_true rfl) ?_
  rintro _ V9 ⟨rfl, h9⟩; subst V9
  refine Ew.iret hx hq dX11_addRamp_28 rfl ?_
  exact act_fin hC hp hpF hq2 (cdRamp_e s e b f) (ok_ramp hW1 e b f).1 (fun z9 => ws_up hC.2.2.2.2.2.1 (Int.le_refl B) ((ok_ramp hW1 e b f).2.1 z9) ((ok_ramp hW1 e b f).2.2 z9)) (Int.le_refl B)
set_option maxHeartbeats 4000000 in
set_option maxRecDepth 100000 in
theorem ct_X11_setFee (G : GT) (V : Mm) {s : Sv} {n z : Nat} {h : Nat → Sv} {B : Int} (hC : CR V s n z h B) (hB0 : 0 ≤ B) (hB : B + 15000 < 2147483648) (x f : Int32) : Ct G mX11_setFee 5 [adr G 0, .int x, .int f] (V) (Act V s n z h B (B) (cdFee s x f) (rf s (nt x) 2) (upd s (37 + 3 * nt x + 2) f)) := by
  refine Ct.of cf_X11_setFee (List.forall_mem_cons.mpr ⟨rfl, List.forall_mem_cons.mpr ⟨rfl, List.forall_mem_cons.mpr ⟨rfl, fun _ h => absurd h List.not_mem_nil⟩⟩⟩) (Nat.le_of_ble_eq_true rfl) (l0 := [some (adr G 0), some (.int x), some (.int f)]) rfl (fun C hx hq => ?_)
  refine Ew.aload_n hx dX11_setFee_0 rfl ?_
  refine Ew.getR (76) hx dX11_setFee_1 fg_RX11_19 rfl rfl ?_
  refine Ew.aload_n hx dX11_setFee_4 rfl ?_
  refine Ew.getR (1) hx dX11_setFee_5 fg_RX11_10 rfl rfl ?_
  refine Ew.callV2 (y' := mX3_prepare) hx dX11_setFee_8 ml_RX11_30 cf_X3_prepare cv_X3_prepare (ct_X3_prepare G V hC.1 hC.2.1 hC.2.2.2.2.1 hC.2.2.2.2.2.1) rfl oc_13 rfl (by decide) (by decide) rfl (Nat.le_of_ble_eq_true rfl) ?_
  rintro _ V1 ⟨rfl, hp, hpF⟩
  have hC1 := hC.prep hpF
  have hS1 := hC1.2.2.2.2.1
  have hR1 : Rep V1 2 s := hS1.1
  have hW1 := hC.2.2.2.2.2.1.1
  refine Ew.aload_n hx dX11_setFee_11 rfl ?_
  refine Ew.aload_n hx dX11_setFee_12 rfl ?_
  refine Ew.getR (1) hx dX11_setFee_13 fg_RX11_10 rfl rfl ?_
  refine Ew.getR (2) hx dX11_setFee_16 fg_RX11_34 rfl rfl ?_
  refine Ew.iload_n hx dX11_setFee_19 rfl ?_
  refine Ew.iload_n hx dX11_setFee_20 rfl ?_
  refine Ew.callV2 (y' := mX7_changeFee) hx dX11_setFee_21 ml_RX11_55 cf_X7_changeFee cv_X7_changeFee (ct_X7_changeFee G V1 hR1 hW1 x f) rfl oc_2 rfl (by decide) (by decide) rfl (Nat.le_of_ble_eq_true rfl) ?_
  rintro v2 V2 hq2
  have hq2 := hq2
  have hq2 := pst_S hS1 (ok_fee hW1 x f).2.2 hq2
  obtain ⟨r2, rfl⟩ := pst_int hq2
  have hF2 := pst_fr hq2
  refine Ew.callV2 (y' := mX11_finishAction) hx dX11_setFee_24 ml_RX11_44 cf_X11_finishAction cv_X11_finishAction (ct_X11_finishAction G V2 (n := n) (z := z) (by rw [hF2 _ (by omega)]; exact hC1.1) hC1.2.1 (by rw [hF2 _ (by omega)]; exact hC1.2.2.1) hC1.2.2.2.1 r2) rfl oc_0 rfl (by decide) (by decide) rfl (Nat.le_of_ble_eq_true rfl) ?_
  rintro _ V9 ⟨rfl, h9⟩; subst V9
  refine Ew.iret hx hq dX11_setFee_27 rfl ?_
  exact act_fin hC hp hpF hq2 (cdFee_e s x f) (ok_fee hW1 x f).1 (fun z9 => ws_up hC.2.2.2.2.2.1 (Int.le_refl B) ((ok_fee hW1 x f).2.1 z9) ((ok_fee hW1 x f).2.2 z9)) (Int.le_refl B)
set_option maxHeartbeats 4000000 in
set_option maxRecDepth 100000 in
theorem ct_X11_setFine (G : GT) (V : Mm) {s : Sv} {n z : Nat} {h : Nat → Sv} {B : Int} (hC : CR V s n z h B) (hB0 : 0 ≤ B) (hB : B + 15000 < 2147483648) (x a : Int32) : Ct G mX11_setFine 5 [adr G 0, .int x, .int a] (V) (Act V s n z h B (B) (cdFine x a) (s (4 + (nt x - 1))) (upd s (4 + (nt x - 1)) a)) := by
  refine Ct.of cf_X11_setFine (List.forall_mem_cons.mpr ⟨rfl, List.forall_mem_cons.mpr ⟨rfl, List.forall_mem_cons.mpr ⟨rfl, fun _ h => absurd h List.not_mem_nil⟩⟩⟩) (Nat.le_of_ble_eq_true rfl) (l0 := [some (adr G 0), some (.int x), some (.int a)]) rfl (fun C hx hq => ?_)
  refine Ew.aload_n hx dX11_setFine_0 rfl ?_
  refine Ew.getR (76) hx dX11_setFine_1 fg_RX11_19 rfl rfl ?_
  refine Ew.aload_n hx dX11_setFine_4 rfl ?_
  refine Ew.getR (1) hx dX11_setFine_5 fg_RX11_10 rfl rfl ?_
  refine Ew.callV2 (y' := mX3_prepare) hx dX11_setFine_8 ml_RX11_30 cf_X3_prepare cv_X3_prepare (ct_X3_prepare G V hC.1 hC.2.1 hC.2.2.2.2.1 hC.2.2.2.2.2.1) rfl oc_13 rfl (by decide) (by decide) rfl (Nat.le_of_ble_eq_true rfl) ?_
  rintro _ V1 ⟨rfl, hp, hpF⟩
  have hC1 := hC.prep hpF
  have hS1 := hC1.2.2.2.2.1
  have hR1 : Rep V1 2 s := hS1.1
  have hW1 := hC.2.2.2.2.2.1.1
  refine Ew.aload_n hx dX11_setFine_11 rfl ?_
  refine Ew.aload_n hx dX11_setFine_12 rfl ?_
  refine Ew.getR (1) hx dX11_setFine_13 fg_RX11_10 rfl rfl ?_
  refine Ew.getR (2) hx dX11_setFine_16 fg_RX11_34 rfl rfl ?_
  refine Ew.getR (5) hx dX11_setFine_19 fg_RX11_58 rfl rfl ?_
  refine Ew.iload_n hx dX11_setFine_22 rfl ?_
  refine Ew.iload_n hx dX11_setFine_23 rfl ?_
  refine Ew.callV2 (y' := mX2_changeAmount) hx dX11_setFine_24 ml_RX11_62 cf_X2_changeAmount cv_X2_changeAmount (ct_X2_changeAmount G V1 hR1 x a) rfl oc_5 rfl (by decide) (by decide) rfl (Nat.le_of_ble_eq_true rfl) ?_
  rintro v2 V2 hq2
  have hq2 := hq2
  have hq2 := pst_S hS1 (ok_fine hW1 x a).2.2 hq2
  obtain ⟨r2, rfl⟩ := pst_int hq2
  have hF2 := pst_fr hq2
  refine Ew.callV2 (y' := mX11_finishAction) hx dX11_setFine_27 ml_RX11_44 cf_X11_finishAction cv_X11_finishAction (ct_X11_finishAction G V2 (n := n) (z := z) (by rw [hF2 _ (by omega)]; exact hC1.1) hC1.2.1 (by rw [hF2 _ (by omega)]; exact hC1.2.2.1) hC1.2.2.2.1 r2) rfl oc_0 rfl (by decide) (by decide) rfl (Nat.le_of_ble_eq_true rfl) ?_
  rintro _ V9 ⟨rfl, h9⟩; subst V9
  refine Ew.iret hx hq dX11_setFine_30 rfl ?_
  exact act_fin hC hp hpF hq2 (cdFine_e x a) (ok_fine hW1 x a).1 (fun z9 => ws_up hC.2.2.2.2.2.1 (Int.le_refl B) ((ok_fine hW1 x a).2.1 z9) ((ok_fine hW1 x a).2.2 z9)) (Int.le_refl B)
set_option maxHeartbeats 4000000 in
set_option maxRecDepth 100000 in
theorem ct_X11_buy (G : GT) (V : Mm) {s : Sv} {n z : Nat} {h : Nat → Sv} {B : Int} (hC : CR V s n z h B) (hB0 : 0 ≤ B) (hB : B + 15000 < 2147483648) (x a b d : Int32) : Ct G mX11_buy 5 [adr G 0, .int x, .int a, .int b, .int d] (V) (Act V s n z h B (B) (cdBuy s x a b d) (s 3) (nxBuy s x a b d)) := by
  refine Ct.of cf_X11_buy (List.forall_mem_cons.mpr ⟨rfl, List.forall_mem_cons.mpr ⟨rfl, List.forall_mem_cons.mpr ⟨rfl, List.forall_mem_cons.mpr ⟨rfl, List.forall_mem_cons.mpr ⟨rfl, fun _ h => absurd h List.not_mem_nil⟩⟩⟩⟩⟩) (Nat.le_of_ble_eq_true rfl) (l0 := [some (adr G 0), some (.int x), some (.int a), some (.int b), some (.int d)]) rfl (fun C hx hq => ?_)
  refine Ew.aload_n hx dX11_buy_0 rfl ?_
  refine Ew.getR (76) hx dX11_buy_1 fg_RX11_19 rfl rfl ?_
  refine Ew.aload_n hx dX11_buy_4 rfl ?_
  refine Ew.getR (1) hx dX11_buy_5 fg_RX11_10 rfl rfl ?_
  refine Ew.callV2 (y' := mX3_prepare) hx dX11_buy_8 ml_RX11_30 cf_X3_prepare cv_X3_prepare (ct_X3_prepare G V hC.1 hC.2.1 hC.2.2.2.2.1 hC.2.2.2.2.2.1) rfl oc_13 rfl (by decide) (by decide) rfl (Nat.le_of_ble_eq_true rfl) ?_
  rintro _ V1 ⟨rfl, hp, hpF⟩
  have hC1 := hC.prep hpF
  have hS1 := hC1.2.2.2.2.1
  have hR1 : Rep V1 2 s := hS1.1
  have hW1 := hC.2.2.2.2.2.1.1
  refine Ew.aload_n hx dX11_buy_11 rfl ?_
  refine Ew.aload_n hx dX11_buy_12 rfl ?_
  refine Ew.getR (1) hx dX11_buy_13 fg_RX11_10 rfl rfl ?_
  refine Ew.getR (2) hx dX11_buy_16 fg_RX11_34 rfl rfl ?_
  refine Ew.iload_n hx dX11_buy_19 rfl ?_
  refine Ew.iload_n hx dX11_buy_20 rfl ?_
  refine Ew.iload_n hx dX11_buy_21 rfl ?_
  refine Ew.iload hx dX11_buy_22 rfl ?_
  refine Ew.callV2 (y' := mX7_sellPermit) hx dX11_buy_24 ml_RX11_67 cf_X7_sellPermit cv_X7_sellPermit (ct_X7_sellPermit G V1 hR1 hW1 x a b d) rfl oc_2 rfl (by decide) (by decide) rfl (Nat.le_of_ble_eq_true rfl) ?_
  rintro v2 V2 hq2
  have hq2 := hq2
  have hq2 := pst_S hS1 (ok_buy hB0 hW1 x a b d).2.2 hq2
  obtain ⟨r2, rfl⟩ := pst_int hq2
  have hF2 := pst_fr hq2
  refine Ew.callV2 (y' := mX11_finishAction) hx dX11_buy_27 ml_RX11_44 cf_X11_finishAction cv_X11_finishAction (ct_X11_finishAction G V2 (n := n) (z := z) (by rw [hF2 _ (by omega)]; exact hC1.1) hC1.2.1 (by rw [hF2 _ (by omega)]; exact hC1.2.2.1) hC1.2.2.2.1 r2) rfl oc_0 rfl (by decide) (by decide) rfl (Nat.le_of_ble_eq_true rfl) ?_
  rintro _ V9 ⟨rfl, h9⟩; subst V9
  refine Ew.iret hx hq dX11_buy_30 rfl ?_
  exact act_fin hC hp hpF hq2 (cdBuy_e s x a b d) (ok_buy hB0 hW1 x a b d).1 (fun z9 => ws_up hC.2.2.2.2.2.1 (Int.le_refl B) ((ok_buy hB0 hW1 x a b d).2.1 z9) ((ok_buy hB0 hW1 x a b d).2.2 z9)) (Int.le_refl B)
set_option maxHeartbeats 4000000 in
set_option maxRecDepth 100000 in
theorem ct_X11_move (G : GT) (V : Mm) {s : Sv} {n z : Nat} {h : Nat → Sv} {B : Int} (hC : CR V s n z h B) (hB0 : 0 ≤ B) (hB : B + 15000 < 2147483648) (x y : Int32) : Ct G mX11_move 5 [adr G 0, .int x, .int y] (V) (Act V s n z h B (B + 15000) (cdMove s x y) (mvD s x y) (nxMove s x y)) := by
  refine Ct.of cf_X11_move (List.forall_mem_cons.mpr ⟨rfl, List.forall_mem_cons.mpr ⟨rfl, List.forall_mem_cons.mpr ⟨rfl, fun _ h => absurd h List.not_mem_nil⟩⟩⟩) (Nat.le_of_ble_eq_true rfl) (l0 := [some (adr G 0), some (.int x), some (.int y)]) rfl (fun C hx hq => ?_)
  refine Ew.aload_n hx dX11_move_0 rfl ?_
  refine Ew.getR (76) hx dX11_move_1 fg_RX11_19 rfl rfl ?_
  refine Ew.aload_n hx dX11_move_4 rfl ?_
  refine Ew.getR (1) hx dX11_move_5 fg_RX11_10 rfl rfl ?_
  refine Ew.callV2 (y' := mX3_prepare) hx dX11_move_8 ml_RX11_30 cf_X3_prepare cv_X3_prepare (ct_X3_prepare G V hC.1 hC.2.1 hC.2.2.2.2.1 hC.2.2.2.2.2.1) rfl oc_13 rfl (by decide) (by decide) rfl (Nat.le_of_ble_eq_true rfl) ?_
  rintro _ V1 ⟨rfl, hp, hpF⟩
  have hC1 := hC.prep hpF
  have hS1 := hC1.2.2.2.2.1
  have hR1 : Rep V1 2 s := hS1.1
  have hW1 := hC.2.2.2.2.2.1.1
  refine Ew.aload_n hx dX11_move_11 rfl ?_
  refine Ew.aload_n hx dX11_move_12 rfl ?_
  refine Ew.getR (1) hx dX11_move_13 fg_RX11_10 rfl rfl ?_
  refine Ew.getR (2) hx dX11_move_16 fg_RX11_34 rfl rfl ?_
  refine Ew.iload_n hx dX11_move_19 rfl ?_
  refine Ew.iload_n hx dX11_move_20 rfl ?_
  refine Ew.callV2 (y' := mX7_movePermit) hx dX11_move_21 ml_RX11_71 cf_X7_movePermit cv_X7_movePermit (ct_X7_movePermit G V1 hR1 hW1 x y) rfl oc_2 rfl (by decide) (by decide) rfl (Nat.le_of_ble_eq_true rfl) ?_
  rintro v2 V2 hq2
  have hq2 := hq2
  have hq2 := pst_S hS1 (ok_move hB0 hB hW1 x y).2.2 hq2
  obtain ⟨r2, rfl⟩ := pst_int hq2
  have hF2 := pst_fr hq2
  refine Ew.callV2 (y' := mX11_finishAction) hx dX11_move_24 ml_RX11_44 cf_X11_finishAction cv_X11_finishAction (ct_X11_finishAction G V2 (n := n) (z := z) (by rw [hF2 _ (by omega)]; exact hC1.1) hC1.2.1 (by rw [hF2 _ (by omega)]; exact hC1.2.2.1) hC1.2.2.2.1 r2) rfl oc_0 rfl (by decide) (by decide) rfl (Nat.le_of_ble_eq_true rfl) ?_
  rintro _ V9 ⟨rfl, h9⟩; subst V9
  refine Ew.iret hx hq dX11_move_27 rfl ?_
  exact act_fin hC hp hpF hq2 (cdMove_e s x y) (ok_move hB0 hB hW1 x y).1 (fun z9 => ws_up hC.2.2.2.2.2.1 (by omega) ((ok_move hB0 hB hW1 x y).2.1 z9) ((ok_move hB0 hB hW1 x y).2.2 z9)) (by omega)
set_option maxHeartbeats 4000000 in
set_option maxRecDepth 100000 in
theorem ct_X11_cancel (G : GT) (V : Mm) {s : Sv} {n z : Nat} {h : Nat → Sv} {B : Int} (hC : CR V s n z h B) (hB0 : 0 ≤ B) (hB : B + 15000 < 2147483648) (x : Int32) : Ct G mX11_cancel 5 [adr G 0, .int x] (V) (Act V s n z h B (B + 15000) (cdCancel s x) (anCancel s x) (nxCancel s x)) := by
  refine Ct.of cf_X11_cancel (List.forall_mem_cons.mpr ⟨rfl, List.forall_mem_cons.mpr ⟨rfl, fun _ h => absurd h List.not_mem_nil⟩⟩) (Nat.le_of_ble_eq_true rfl) (l0 := [some (adr G 0), some (.int x)]) rfl (fun C hx hq => ?_)
  refine Ew.aload_n hx dX11_cancel_0 rfl ?_
  refine Ew.getR (76) hx dX11_cancel_1 fg_RX11_19 rfl rfl ?_
  refine Ew.aload_n hx dX11_cancel_4 rfl ?_
  refine Ew.getR (1) hx dX11_cancel_5 fg_RX11_10 rfl rfl ?_
  refine Ew.callV2 (y' := mX3_prepare) hx dX11_cancel_8 ml_RX11_30 cf_X3_prepare cv_X3_prepare (ct_X3_prepare G V hC.1 hC.2.1 hC.2.2.2.2.1 hC.2.2.2.2.2.1) rfl oc_13 rfl (by decide) (by decide) rfl (Nat.le_of_ble_eq_true rfl) ?_
  rintro _ V1 ⟨rfl, hp, hpF⟩
  have hC1 := hC.prep hpF
  have hS1 := hC1.2.2.2.2.1
  have hR1 : Rep V1 2 s := hS1.1
  have hW1 := hC.2.2.2.2.2.1.1
  refine Ew.aload_n hx dX11_cancel_11 rfl ?_
  refine Ew.aload_n hx dX11_cancel_12 rfl ?_
  refine Ew.getR (1) hx dX11_cancel_13 fg_RX11_10 rfl rfl ?_
  refine Ew.getR (2) hx dX11_cancel_16 fg_RX11_34 rfl rfl ?_
  refine Ew.iload_n hx dX11_cancel_19 rfl ?_
  refine Ew.callV2 (y' := mX7_cancelPermit) hx dX11_cancel_20 ml_RX11_74 cf_X7_cancelPermit cv_X7_cancelPermit (ct_X7_cancelPermit G V1 hR1 hW1 x) rfl oc_2 rfl (by decide) (by decide) rfl (Nat.le_of_ble_eq_true rfl) ?_
  rintro v2 V2 hq2
  have hq2 := hq2
  have hq2 := pst_S hS1 (ok_cancel hB hW1 x).2.2 hq2
  obtain ⟨r2, rfl⟩ := pst_int hq2
  have hF2 := pst_fr hq2
  refine Ew.callV2 (y' := mX11_finishAction) hx dX11_cancel_23 ml_RX11_44 cf_X11_finishAction cv_X11_finishAction (ct_X11_finishAction G V2 (n := n) (z := z) (by rw [hF2 _ (by omega)]; exact hC1.1) hC1.2.1 (by rw [hF2 _ (by omega)]; exact hC1.2.2.1) hC1.2.2.2.1 r2) rfl oc_0 rfl (by decide) (by decide) rfl (Nat.le_of_ble_eq_true rfl) ?_
  rintro _ V9 ⟨rfl, h9⟩; subst V9
  refine Ew.iret hx hq dX11_cancel_26 rfl ?_
  exact act_fin hC hp hpF hq2 (cdCancel_e s x) (ok_cancel hB hW1 x).1 (fun z9 => ws_up hC.2.2.2.2.2.1 (by omega) ((ok_cancel hB hW1 x).2.1 z9) ((ok_cancel hB hW1 x).2.2 z9)) (by omega)
set_option maxHeartbeats 4000000 in
set_option maxRecDepth 100000 in
theorem ct_X11_refund (G : GT) (V : Mm) {s : Sv} {n z : Nat} {h : Nat → Sv} {B : Int} (hC : CR V s n z h B) (hB0 : 0 ≤ B) (hB : B + 15000 < 2147483648) (x : Int32) : Ct G mX11_refund 5 [adr G 0, .int x] (V) (Act V s n z h B (B) (cdRefund s x) (pf s (nt x) 7) (nxRefund s x)) := by
  refine Ct.of cf_X11_refund (List.forall_mem_cons.mpr ⟨rfl, List.forall_mem_cons.mpr ⟨rfl, fun _ h => absurd h List.not_mem_nil⟩⟩) (Nat.le_of_ble_eq_true rfl) (l0 := [some (adr G 0), some (.int x)]) rfl (fun C hx hq => ?_)
  refine Ew.aload_n hx dX11_refund_0 rfl ?_
  refine Ew.getR (76) hx dX11_refund_1 fg_RX11_19 rfl rfl ?_
  refine Ew.aload_n hx dX11_refund_4 rfl ?_
  refine Ew.getR (1) hx dX11_refund_5 fg_RX11_10 rfl rfl ?_
  refine Ew.callV2 (y' := mX3_prepare) hx dX11_refund_8 ml_RX11_30 cf_X3_prepare cv_X3_prepare (ct_X3_prepare G V hC.1 hC.2.1 hC.2.2.2.2.1 hC.2.2.2.2.2.1) rfl oc_13 rfl (by decide) (by decide) rfl (Nat.le_of_ble_eq_true rfl) ?_
  rintro _ V1 ⟨rfl, hp, hpF⟩
  have hC1 := hC.prep hpF
  have hS1 := hC1.2.2.2.2.1
  have hR1 : Rep V1 2 s := hS1.1
  have hW1 := hC.2.2.2.2.2.1.1
  refine Ew.aload_n hx dX11_refund_11 rfl ?_
  refine Ew.aload_n hx dX11_refund_12 rfl ?_
  refine Ew.getR (1) hx dX11_refund_13 fg_RX11_10 rfl rfl ?_
  refine Ew.getR (2) hx dX11_refund_16 fg_RX11_34 rfl rfl ?_
  refine Ew.iload_n hx dX11_refund_19 rfl ?_
  refine Ew.callV2 (y' := mX7_refundPermit) hx dX11_refund_20 ml_RX11_77 cf_X7_refundPermit cv_X7_refundPermit (ct_X7_refundPermit G V1 hR1 hW1 x) rfl oc_2 rfl (by decide) (by decide) rfl (Nat.le_of_ble_eq_true rfl) ?_
  rintro v2 V2 hq2
  have hq2 := hq2
  have hq2 := pst_S hS1 (ok_refund hB0 hW1 x).2.2 hq2
  obtain ⟨r2, rfl⟩ := pst_int hq2
  have hF2 := pst_fr hq2
  refine Ew.callV2 (y' := mX11_finishAction) hx dX11_refund_23 ml_RX11_44 cf_X11_finishAction cv_X11_finishAction (ct_X11_finishAction G V2 (n := n) (z := z) (by rw [hF2 _ (by omega)]; exact hC1.1) hC1.2.1 (by rw [hF2 _ (by omega)]; exact hC1.2.2.1) hC1.2.2.2.1 r2) rfl oc_0 rfl (by decide) (by decide) rfl (Nat.le_of_ble_eq_true rfl) ?_
  rintro _ V9 ⟨rfl, h9⟩; subst V9
  refine Ew.iret hx hq dX11_refund_26 rfl ?_
  exact act_fin hC hp hpF hq2 (cdRefund_e s x) (ok_refund hB0 hW1 x).1 (fun z9 => ws_up hC.2.2.2.2.2.1 (Int.le_refl B) ((ok_refund hB0 hW1 x).2.1 z9) ((ok_refund hB0 hW1 x).2.2 z9)) (Int.le_refl B)
set_option maxHeartbeats 4000000 in
set_option maxRecDepth 100000 in
theorem ct_X11_pass (G : GT) (V : Mm) {s : Sv} {n z : Nat} {h : Nat → Sv} {B : Int} (hC : CR V s n z h B) (hB0 : 0 ≤ B) (hB : B + 15000 < 2147483648) (x : Int32) : Ct G mX11_pass 5 [adr G 0, .int x] (V) (Act V s n z h B (B + 15000) (cdPass s x) (nI (lsN s (npN s))) (nxPass s x)) := by
  refine Ct.of cf_X11_pass (List.forall_mem_cons.mpr ⟨rfl, List.forall_mem_cons.mpr ⟨rfl, fun _ h => absurd h List.not_mem_nil⟩⟩) (Nat.le_of_ble_eq_true rfl) (l0 := [some (adr G 0), some (.int x)]) rfl (fun C hx hq => ?_)
  refine Ew.aload_n hx dX11_pass_0 rfl ?_
  refine Ew.getR (76) hx dX11_pass_1 fg_RX11_19 rfl rfl ?_
  refine Ew.aload_n hx dX11_pass_4 rfl ?_
  refine Ew.getR (1) hx dX11_pass_5 fg_RX11_10 rfl rfl ?_
  refine Ew.callV2 (y' := mX3_prepare) hx dX11_pass_8 ml_RX11_30 cf_X3_prepare cv_X3_prepare (ct_X3_prepare G V hC.1 hC.2.1 hC.2.2.2.2.1 hC.2.2.2.2.2.1) rfl oc_13 rfl (by decide) (by decide) rfl (Nat.le_of_ble_eq_true rfl) ?_
  rintro _ V1 ⟨rfl, hp, hpF⟩
  have hC1 := hC.prep hpF
  have hS1 := hC1.2.2.2.2.1
  have hR1 : Rep V1 2 s := hS1.1
  have hW1 := hC.2.2.2.2.2.1.1
  refine Ew.aload_n hx dX11_pass_11 rfl ?_
  refine Ew.aload_n hx dX11_pass_12 rfl ?_
  refine Ew.getR (1) hx dX11_pass_13 fg_RX11_10 rfl rfl ?_
  refine Ew.getR (2) hx dX11_pass_16 fg_RX11_34 rfl rfl ?_
  refine Ew.iload_n hx dX11_pass_19 rfl ?_
  refine Ew.callV2 (y' := mX7_passDay) hx dX11_pass_20 ml_RX11_80 cf_X7_passDay cv_X7_passDay (ct_X7_passDay G V1 hR1 hW1 x) rfl oc_2 rfl (by decide) (by decide) rfl (Nat.le_of_ble_eq_true rfl) ?_
  rintro v2 V2 hq2
  have hq2 := hq2
  have hq2 := pst_S hS1 (ok_pass hB0 hB hW1 x).2.2 hq2
  obtain ⟨r2, rfl⟩ := pst_int hq2
  have hF2 := pst_fr hq2
  refine Ew.callV2 (y' := mX11_finishAction) hx dX11_pass_23 ml_RX11_44 cf_X11_finishAction cv_X11_finishAction (ct_X11_finishAction G V2 (n := n) (z := z) (by rw [hF2 _ (by omega)]; exact hC1.1) hC1.2.1 (by rw [hF2 _ (by omega)]; exact hC1.2.2.1) hC1.2.2.2.1 r2) rfl oc_0 rfl (by decide) (by decide) rfl (Nat.le_of_ble_eq_true rfl) ?_
  rintro _ V9 ⟨rfl, h9⟩; subst V9
  refine Ew.iret hx hq dX11_pass_26 rfl ?_
  exact act_fin hC hp hpF hq2 (cdPass_e s x) (ok_pass hB0 hB hW1 x).1 (fun z9 => ws_up hC.2.2.2.2.2.1 (by omega) ((ok_pass hB0 hB hW1 x).2.1 z9) ((ok_pass hB0 hB hW1 x).2.2 z9)) (by omega)
set_option maxHeartbeats 4000000 in
set_option maxRecDepth 100000 in
theorem ct_X11_launch (G : GT) (V : Mm) {s : Sv} {n z : Nat} {h : Nat → Sv} {B : Int} (hC : CR V s n z h B) (hB0 : 0 ≤ B) (hB : B + 15000 < 2147483648) (x d q : Int32) : Ct G mX11_launch 5 [adr G 0, .int x, .int d, .int q] (V) (Act V s n z h B (B) (cdLaunch s x d q) (anLaunch s x d q) (nxLaunch s x d q)) := by
  refine Ct.of cf_X11_launch (List.forall_mem_cons.mpr ⟨rfl, List.forall_mem_cons.mpr ⟨rfl, List.forall_mem_cons.mpr ⟨rfl, List.forall_mem_cons.mpr ⟨rfl, fun _ h => absurd h List.not_mem_nil⟩⟩⟩⟩) (Nat.le_of_ble_eq_true rfl) (l0 := [some (adr G 0), some (.int x), some (.int d), some (.int q)]) rfl (fun C hx hq => ?_)
  refine Ew.aload_n hx dX11_launch_0 rfl ?_
  refine Ew.getR (76) hx dX11_launch_1 fg_RX11_19 rfl rfl ?_
  refine Ew.aload_n hx dX11_launch_4 rfl ?_
  refine Ew.getR (1) hx dX11_launch_5 fg_RX11_10 rfl rfl ?_
  refine Ew.callV2 (y' := mX3_prepare) hx dX11_launch_8 ml_RX11_30 cf_X3_prepare cv_X3_prepare (ct_X3_prepare G V hC.1 hC.2.1 hC.2.2.2.2.1 hC.2.2.2.2.2.1) rfl oc_13 rfl (by decide) (by decide) rfl (Nat.le_of_ble_eq_true rfl) ?_
  rintro _ V1 ⟨rfl, hp, hpF⟩
  have hC1 := hC.prep hpF
  have hS1 := hC1.2.2.2.2.1
  have hR1 : Rep V1 2 s := hS1.1
  have hW1 := hC.2.2.2.2.2.1.1
  refine Ew.aload_n hx dX11_launch_11 rfl ?_
  refine Ew.aload_n hx dX11_launch_12 rfl ?_
  refine Ew.getR (1) hx dX11_launch_13 fg_RX11_10 rfl rfl ?_
  refine Ew.getR (2) hx dX11_launch_16 fg_RX11_34 rfl rfl ?_
  refine Ew.iload_n hx dX11_launch_19 rfl ?_
  refine Ew.iload_n hx dX11_launch_20 rfl ?_
  refine Ew.iload_n hx dX11_launch_21 rfl ?_
  refine Ew.callV2 (y' := mX7_launchBoat) hx dX11_launch_22 ml_RX11_83 cf_X7_launchBoat cv_X7_launchBoat (ct_X7_launchBoat G V1 hR1 hW1 x d q) rfl oc_2 rfl (by decide) (by decide) rfl (Nat.le_of_ble_eq_true rfl) ?_
  rintro v2 V2 hq2
  have hq2 := hq2
  have hq2 := pst_S hS1 (ok_launch hW1 x d q).2.2 hq2
  obtain ⟨r2, rfl⟩ := pst_int hq2
  have hF2 := pst_fr hq2
  refine Ew.callV2 (y' := mX11_finishAction) hx dX11_launch_25 ml_RX11_44 cf_X11_finishAction cv_X11_finishAction (ct_X11_finishAction G V2 (n := n) (z := z) (by rw [hF2 _ (by omega)]; exact hC1.1) hC1.2.1 (by rw [hF2 _ (by omega)]; exact hC1.2.2.1) hC1.2.2.2.1 r2) rfl oc_0 rfl (by decide) (by decide) rfl (Nat.le_of_ble_eq_true rfl) ?_
  rintro _ V9 ⟨rfl, h9⟩; subst V9
  refine Ew.iret hx hq dX11_launch_28 rfl ?_
  exact act_fin hC hp hpF hq2 (cdLaunch_e s x d q) (ok_launch hW1 x d q).1 (fun z9 => ws_up hC.2.2.2.2.2.1 (Int.le_refl B) ((ok_launch hW1 x d q).2.1 z9) ((ok_launch hW1 x d q).2.2 z9)) (Int.le_refl B)
set_option maxHeartbeats 4000000 in
set_option maxRecDepth 100000 in
theorem ct_X11_take (G : GT) (V : Mm) {s : Sv} {n z : Nat} {h : Nat → Sv} {B : Int} (hC : CR V s n z h B) (hB0 : 0 ≤ B) (hB : B + 15000 < 2147483648) (x : Int32) : Ct G mX11_take 5 [adr G 0, .int x] (V) (Act V s n z h B (B) (cdTake x) (s 0) (nxTake s (nt x))) := by
  refine Ct.of cf_X11_take (List.forall_mem_cons.mpr ⟨rfl, List.forall_mem_cons.mpr ⟨rfl, fun _ h => absurd h List.not_mem_nil⟩⟩) (Nat.le_of_ble_eq_true rfl) (l0 := [some (adr G 0), some (.int x)]) rfl (fun C hx hq => ?_)
  refine Ew.aload_n hx dX11_take_0 rfl ?_
  refine Ew.getR (76) hx dX11_take_1 fg_RX11_19 rfl rfl ?_
  refine Ew.aload_n hx dX11_take_4 rfl ?_
  refine Ew.getR (1) hx dX11_take_5 fg_RX11_10 rfl rfl ?_
  refine Ew.callV2 (y' := mX3_prepare) hx dX11_take_8 ml_RX11_30 cf_X3_prepare cv_X3_prepare (ct_X3_prepare G V hC.1 hC.2.1 hC.2.2.2.2.1 hC.2.2.2.2.2.1) rfl oc_13 rfl (by decide) (by decide) rfl (Nat.le_of_ble_eq_true rfl) ?_
  rintro _ V1 ⟨rfl, hp, hpF⟩
  have hC1 := hC.prep hpF
  have hS1 := hC1.2.2.2.2.1
  have hR1 : Rep V1 2 s := hS1.1
  have hW1 := hC.2.2.2.2.2.1.1
  refine Ew.aload_n hx dX11_take_11 rfl ?_
  refine Ew.aload_n hx dX11_take_12 rfl ?_
  refine Ew.getR (1) hx dX11_take_13 fg_RX11_10 rfl rfl ?_
  refine Ew.iload_n hx dX11_take_16 rfl ?_
  refine Ew.callV2 (y' := mX8_takeSnapshot) hx dX11_take_17 ml_RX11_86 cf_X8_takeSnapshot cv_X8_takeSnapshot (ct_X8_takeSnapshot G V1 hS1 hC.2.2.2.2.2.1 x) rfl oc_1 rfl (by decide) (by decide) rfl (Nat.le_of_ble_eq_true rfl) ?_
  rintro v2 V2 hq2
  have hq2 := hq2
  obtain ⟨r2, rfl⟩ := pst_int hq2
  have hF2 := pst_fr hq2
  refine Ew.callV2 (y' := mX11_finishAction) hx dX11_take_20 ml_RX11_44 cf_X11_finishAction cv_X11_finishAction (ct_X11_finishAction G V2 (n := n) (z := z) (by rw [hF2 _ (by omega)]; exact hC1.1) hC1.2.1 (by rw [hF2 _ (by omega)]; exact hC1.2.2.1) hC1.2.2.2.1 r2) rfl oc_0 rfl (by decide) (by decide) rfl (Nat.le_of_ble_eq_true rfl) ?_
  rintro _ V9 ⟨rfl, h9⟩; subst V9
  refine Ew.iret hx hq dX11_take_23 rfl ?_
  exact act_fin hC hp hpF hq2 (cdTake_e x) (ok_take hC.2.2.2.2.2.1 x).1 (fun z9 => (ok_take hC.2.2.2.2.2.1 x).2 z9) (Int.le_refl B)
set_option maxHeartbeats 4000000 in
set_option maxRecDepth 100000 in
theorem ct_X11_restore (G : GT) (V : Mm) {s : Sv} {n z : Nat} {h : Nat → Sv} {B : Int} (hC : CR V s n z h B) (hB0 : 0 ≤ B) (hB : B + 15000 < 2147483648) (x : Int32) : Ct G mX11_restore 5 [adr G 0, .int x] (V) (Act V s n z h B (B) (cdRestore s x) (nxRestore s (nt x) 0) (nxRestore s (nt x))) := by
  refine Ct.of cf_X11_restore (List.forall_mem_cons.mpr ⟨rfl, List.forall_mem_cons.mpr ⟨rfl, fun _ h => absurd h List.not_mem_nil⟩⟩) (Nat.le_of_ble_eq_true rfl) (l0 := [some (adr G 0), some (.int x)]) rfl (fun C hx hq => ?_)
  refine Ew.aload_n hx dX11_restore_0 rfl ?_
  refine Ew.getR (76) hx dX11_restore_1 fg_RX11_19 rfl rfl ?_
  refine Ew.aload_n hx dX11_restore_4 rfl ?_
  refine Ew.getR (1) hx dX11_restore_5 fg_RX11_10 rfl rfl ?_
  refine Ew.callV2 (y' := mX3_prepare) hx dX11_restore_8 ml_RX11_30 cf_X3_prepare cv_X3_prepare (ct_X3_prepare G V hC.1 hC.2.1 hC.2.2.2.2.1 hC.2.2.2.2.2.1) rfl oc_13 rfl (by decide) (by decide) rfl (Nat.le_of_ble_eq_true rfl) ?_
  rintro _ V1 ⟨rfl, hp, hpF⟩
  have hC1 := hC.prep hpF
  have hS1 := hC1.2.2.2.2.1
  have hR1 : Rep V1 2 s := hS1.1
  have hW1 := hC.2.2.2.2.2.1.1
  refine Ew.aload_n hx dX11_restore_11 rfl ?_
  refine Ew.aload_n hx dX11_restore_12 rfl ?_
  refine Ew.getR (1) hx dX11_restore_13 fg_RX11_10 rfl rfl ?_
  refine Ew.iload_n hx dX11_restore_16 rfl ?_
  refine Ew.callV2 (y' := mX8_restoreSnapshot) hx dX11_restore_17 ml_RX11_89 cf_X8_restoreSnapshot cv_X8_restoreSnapshot (ct_X8_restoreSnapshot G V1 hS1 hC.2.2.2.2.2.1 x) rfl oc_1 rfl (by decide) (by decide) rfl (Nat.le_of_ble_eq_true rfl) ?_
  rintro v2 V2 hq2
  have hq2 := hq2
  obtain ⟨r2, rfl⟩ := pst_int hq2
  have hF2 := pst_fr hq2
  refine Ew.callV2 (y' := mX11_finishAction) hx dX11_restore_20 ml_RX11_44 cf_X11_finishAction cv_X11_finishAction (ct_X11_finishAction G V2 (n := n) (z := z) (by rw [hF2 _ (by omega)]; exact hC1.1) hC1.2.1 (by rw [hF2 _ (by omega)]; exact hC1.2.2.1) hC1.2.2.2.1 r2) rfl oc_0 rfl (by decide) (by decide) rfl (Nat.le_of_ble_eq_true rfl) ?_
  rintro _ V9 ⟨rfl, h9⟩; subst V9
  refine Ew.iret hx hq dX11_restore_23 rfl ?_
  exact act_fin hC hp hpF hq2 (cdRestore_e s x) (ok_restore hC.2.2.2.2.2.1 x).1 (fun z9 => (ok_restore hC.2.2.2.2.2.1 x).2 z9) (Int.le_refl B)
