def SX (G : GT) (C : CT) (b L : Nat) (xs : Nat → Int32) : Prop := va_X b L xs (cS C) (cS C).heap ∧ b < (cS C).heap.size ∧ ¬ Ar G b ∧ L ≤ 2560
section SR
variable {G : GT} {C : CT} {V : Mm} {y : MT} {d pc npc b L : Nat} {xs : Nat → Int32} {l : List (Option Value)} {st : List Value}
theorem Ew.sld {i : Nat} {x : Int32} (hx : Cx G y d C) (hd : Dc y.2.1 pc (.iaload) 1 npc) (hX : SX G C b L xs) (hxi : x = nI i) (hi : i < L) (kk : Ew G C V npc l (.int (xs i) :: st)) : Ew G C V pc l (.int x :: .ref b :: st) := by
  obtain ⟨he, hb, -⟩ := hx; obtain ⟨hd, rfl⟩ := hd
  obtain ⟨h1, h2, h3, h4⟩ := hX
  subst hxi
  intro H locs ls hP hS hL
  refine va_sld he hb h1 h2 h3 hS (vp_in_nI hi (by omega)) hd ?_
  rw [nI_clamp (by omega)]
  exact kk H locs ls hP hS hL
theorem Ew.slen (hx : Cx G y d C) (hd : Dc y.2.1 pc (.arraylength) 1 npc) (hX : SX G C b L xs) (kk : Ew G C V npc l (.int (nI L) :: st)) : Ew G C V pc l (.ref b :: st) := by
  obtain ⟨he, hb, -⟩ := hx; obtain ⟨hd, rfl⟩ := hd
  obtain ⟨h1, h2, h3, h4⟩ := hX
  intro H locs ls hP hS hL
  exact va_slen he hb h1 h2 h3 hS hd (kk H locs ls hP hS hL)
end SR
/-- both sides stand at the same state, text and failure -/
def LI (V : Mm) (s : Sv) (n z : Nat) (h : Nat → Sv) (B : Int) (tx : Tx) (ln : Nat) : Prop := CR V s n z h B ∧ MR V s ∧ MS V z h ∧ TX V tx ln ∧ MT2 V tx ln ∧ FLR V
theorem CR.mono {V : Mm} {s : Sv} {n z : Nat} {h : Nat → Sv} {B B' : Int} (hC : CR V s n z h B) (hB : B ≤ B') : CR V s n z h B' := by
  obtain ⟨e1, hn, e2, hz, hR, hW, hH⟩ := hC
  exact ⟨e1, hn, e2, hz, hR, hW.mono hB, fun j hj => ⟨(hH j hj).1, (hH j hj).2.mono hB⟩⟩
theorem TX.fr {V V1 : Mm} {tx : Tx} {ln : Nat} (h : TX V tx ln) (e : V1 529 1 = V 529 1) (e2 : V1 530 = V 530) : TX V1 tx ln := ⟨by rw [e]; exact h.1, h.2.1, fun i hi => by rw [e2]; exact h.2.2 i hi⟩
theorem MT2.fr {V V1 : Mm} {tx : Tx} {ln : Nat} (h : MT2 V tx ln) (e : V1 532 7 = V 532 7) (e2 : V1 537 = V 537) : MT2 V1 tx ln := ⟨by rw [e]; exact h.1, h.2.1, fun i hi => by rw [e2]; exact h.2.2 i hi⟩
theorem FLR.fr {V V1 : Mm} (h : FLR V) (e : V1 528 = V 528) (e2 : V1 532 10 = V 532 10) (e3 : V1 539 = V 539) : FLR V1 := by
  unfold FLR
  rw [e, e2, e3]
  exact h
noncomputable def rsA (code ans : Int32) : Int32 := cif (code < 0) code ans
theorem act_v {V V9 : Mm} {s s' : Sv} {n z : Nat} {h : Nat → Sv} {B B' : Int} {code ans : Int32} {v : Option Value} (hA : Act V s n z h B B' code ans s' v V9) : v = some (.int (rsA code ans)) := by
  rcases hA.2 with ⟨h1, h2, -⟩ | ⟨h1, h2, -⟩
  · rw [h2, show rsA code ans = code from cif_t h1]
  · rw [h2, show rsA code ans = ans from cif_f (by rw [h1]; decide)]
theorem mact_v {V V9 : Mm} {s s' : Sv} {z : Nat} {h : Nat → Sv} {code ans : Int32} {v : Option Value} (hA : MAct V s z h code ans s' v V9) : v = some (.int (rsA code ans)) := by
  rcases hA.2.2 with ⟨h1, h2, -⟩ | ⟨h1, h2, -⟩
  · rw [h2, show rsA code ans = code from cif_t h1]
  · rw [h2, show rsA code ans = ans from cif_f (by rw [h1]; decide)]
theorem li_1 {V V1 : Mm} {s : Sv} {n z : Nat} {h : Nat → Sv} {B : Int} {tx : Tx} {ln : Nat} (hL : LI V s n z h B tx ln) (hF : Fr 1 528 V V1) : MR V1 s ∧ MS V1 z h ∧ TX V1 tx ln ∧ MT2 V1 tx ln ∧ FLR V1 := by
  obtain ⟨-, hM, hS, hT, hT2, hf⟩ := hL
  exact ⟨hM.fr (hF 533 (by decide)), hS.fr (by rw [hF 532 (by decide)]) (hF 535 (by decide)), hT.fr (by rw [hF 529 (by decide)]) (hF 530 (by decide)), hT2.fr (by rw [hF 532 (by decide)]) (hF 537 (by decide)), hf.fr (hF 528 (by decide)) (by rw [hF 532 (by decide)]) (hF 539 (by decide))⟩
theorem li_act {V V1 V2 : Mm} {s s' : Sv} {n z : Nat} {h : Nat → Sv} {B B1 : Int} {tx : Tx} {ln : Nat} {code ans : Int32} {v v2 : Option Value} (hL : LI V s n z h B tx ln) (hA : Act V s n z h B B1 code ans s' v V1) (hM : MAct V1 s z h code ans s' v2 V2) (hB1 : B1 ≤ B + 2100000) : ∃ s2 n2 z2 h2, LI V2 s2 n2 z2 h2 (B + 2100000) tx ln := by
  obtain ⟨hM1, hS1, hT1, hT21, hf1⟩ := li_1 hL hA.1
  obtain ⟨hF2, hi2, h2⟩ := hM
  have t1 : TX V2 tx ln := hT1.fr (by rw [hF2 529 (by decide)]) (hF2 530 (by decide))
  have t2 : MT2 V2 tx ln := hT21.fr (hi2 7 (by decide)) (hF2 537 (by decide))
  have t3 : FLR V2 := hf1.fr (hF2 528 (by decide)) (hi2 10 (by decide)) (hF2 539 (by decide))
  rcases hA.2 with ⟨k1, -, hC⟩ | ⟨k1, -, hC⟩
  · rcases h2 with ⟨-, -, hM2, hS2⟩ | ⟨k2, -, -, -⟩
    · exact ⟨s, n, z, h, (hC.fr (fun k _ q => hF2 k (by omega))).mono (by omega), hM2, hS2, t1, t2, t3⟩
    · rw [k2] at k1; exact absurd k1 (by decide)
  · rcases h2 with ⟨k2, -, -, -⟩ | ⟨-, -, hM2, hS2⟩
    · rw [k1] at k2; exact absurd k2 (by decide)
    · exact ⟨s', nxH n, szH z, psh s h, (hC.fr (fun k _ q => hF2 k (by omega))).mono hB1, hM2, hS2, t1, t2, t3⟩
theorem li_q {V V2 : Mm} {s : Sv} {n z : Nat} {h : Nat → Sv} {B : Int} {tx : Tx} {ln : Nat} {a : Int32} {v : Option Value} (hL : LI V s n z h B tx ln) (hQ : QR V a v V2) : LI V2 s n z h (B + 2100000) tx ln := by
  obtain ⟨hC, hM, hS, hT, hT2, hf⟩ := hL
  obtain ⟨-, hF, hi⟩ := hQ
  exact ⟨(hC.fr (fun k _ q => hF k (by omega) (by omega))).mono (by omega), hM.fr (hF 533 (by decide) (by decide)), hS.fr (hi 4 (by decide)) (hF 535 (by decide) (by decide)), hT.fr (by rw [hF 529 (by decide) (by decide)]) (hF 530 (by decide) (by decide)), hT2.fr (hi 7 (by decide)) (hF 537 (by decide) (by decide)), hf.fr (hF 528 (by decide) (by decide)) (hi 10 (by decide)) (hF 539 (by decide) (by decide))⟩
noncomputable def unA (z : Nat) : Int32 := cif (z = 0) (-100002) (nI (z - 1))
theorem li_undo {V V1 V2 : Mm} {s : Sv} {n z : Nat} {h : Nat → Sv} {B : Int} {tx : Tx} {ln : Nat} {v v2 : Option Value} (hL : LI V s n z h B tx ln) (hA : Fr 1 528 V V1 ∧ ((z = 0 ∧ v = some (.int (-100002)) ∧ V1 = V) ∨ (0 < z ∧ v = some (.int (nI (z - 1))) ∧ CR V1 (h 0) (pvH n) (z - 1) (fun j => h (j + 1)) B))) (hM : UndM V1 s z h v2 V2) : ∃ s2 n2 z2 h2, LI V2 s2 n2 z2 h2 (B + 2100000) tx ln := by
  obtain ⟨hM1, hS1, hT1, hT21, hf1⟩ := li_1 hL hA.1
  obtain ⟨hF2, hi2, h2⟩ := hM
  have t1 : TX V2 tx ln := hT1.fr (by rw [hF2 529 (by decide)]) (hF2 530 (by decide))
  have t2 : MT2 V2 tx ln := hT21.fr (hi2 7 (by decide)) (hF2 537 (by decide))
  have t3 : FLR V2 := hf1.fr (hF2 528 (by decide)) (hi2 10 (by decide)) (hF2 539 (by decide))
  rcases hA.2 with ⟨k1, -, hC⟩ | ⟨k1, -, hC⟩
  · rcases h2 with ⟨-, -, hM2, hS2⟩ | ⟨k2, -, -, -⟩
    · rw [hC] at hF2
      exact ⟨s, n, z, h, (hL.1.fr (fun k _ q => hF2 k (by omega))).mono (by omega), hM2, hS2, t1, t2, t3⟩
    · omega
  · rcases h2 with ⟨k2, -, -, -⟩ | ⟨-, -, hM2, hS2⟩
    · omega
    · exact ⟨_, _, _, _, (hC.fr (fun k _ q => hF2 k (by omega))).mono (by omega), hM2, hS2, t1, t2, t3⟩
theorem un_v {V V1 : Mm} {n z : Nat} {h : Nat → Sv} {B : Int} {v : Option Value} (hA : Fr 1 528 V V1 ∧ ((z = 0 ∧ v = some (.int (-100002)) ∧ V1 = V) ∨ (0 < z ∧ v = some (.int (nI (z - 1))) ∧ CR V1 (h 0) (pvH n) (z - 1) (fun j => h (j + 1)) B))) : v = some (.int (unA z)) := by
  rcases hA.2 with ⟨k1, h2, -⟩ | ⟨k1, h2, -⟩
  · rw [h2, show unA z = -100002 from cif_t k1]
  · rw [h2, show unA z = nI (z - 1) from cif_f (by omega)]
theorem unm_v {V V1 : Mm} {s : Sv} {z : Nat} {h : Nat → Sv} {v : Option Value} (hA : UndM V s z h v V1) : v = some (.int (unA z)) := by
  rcases hA.2.2 with ⟨k1, h2, -⟩ | ⟨k1, h2, -⟩
  · rw [h2, show unA z = -100002 from cif_t k1]
  · rw [h2, show unA z = nI (z - 1) from cif_f (by omega)]
noncomputable def apA (ln : Nat) (c : Int32) : Int32 := cif (1 ≤ c ∧ c ≤ 255) (anAdd ln) (-100001)
def ApQ (V : Mm) (tx : Tx) (ln : Nat) (c : Int32) : PT := fun v V9 => ((1 ≤ c ∧ c ≤ 255) ∧ v = some (.int (anAdd ln)) ∧ Fr 529 531 V V9 ∧ TX V9 (txA tx ln c) (lnA ln) ∧ ∀ i, i ≠ 1 → V9 529 i = V 529 i) ∨ (¬ (1 ≤ c ∧ c ≤ 255) ∧ v = some (.int (-100001)) ∧ V9 = V)
def ApM (V : Mm) (tx : Tx) (ln : Nat) (c : Int32) : PT := fun v V9 => ((1 ≤ c ∧ c ≤ 255) ∧ v = some (.int (anAdd ln)) ∧ (∀ k, k ≠ 532 → k ≠ 537 → V9 k = V k) ∧ MT2 V9 (txA tx ln c) (lnA ln) ∧ ∀ i, i ≠ 0 → i ≠ 7 → V9 532 i = V 532 i) ∨ (¬ (1 ≤ c ∧ c ≤ 255) ∧ v = some (.int (-100001)) ∧ V9 = mup V 532 0 0)
theorem ap_v {V V1 : Mm} {tx : Tx} {ln : Nat} {c : Int32} {v : Option Value} (hA : ApQ V tx ln c v V1) : v = some (.int (apA ln c)) := by
  rcases hA with ⟨k1, h2, -⟩ | ⟨k1, h2, -⟩
  · rw [h2, show apA ln c = anAdd ln from cif_t k1]
  · rw [h2, show apA ln c = -100001 from cif_f k1]
theorem apm_v {V V1 : Mm} {tx : Tx} {ln : Nat} {c : Int32} {v : Option Value} (hA : ApM V tx ln c v V1) : v = some (.int (apA ln c)) := by
  rcases hA with ⟨k1, h2, -⟩ | ⟨k1, h2, -⟩
  · rw [h2, show apA ln c = anAdd ln from cif_t k1]
  · rw [h2, show apA ln c = -100001 from cif_f k1]
theorem ap_m {V V1 : Mm} {tx : Tx} {ln : Nat} {c : Int32} {v : Option Value} (hT2 : MT2 V tx ln) (hA : ApQ V tx ln c v V1) : MT2 V1 tx ln := by
  rcases hA with ⟨-, -, hF, -⟩ | ⟨-, -, e⟩
  · exact hT2.fr (by rw [hF 532 (by decide)]) (hF 537 (by decide))
  · rw [e]; exact hT2
theorem li_app {V V1 V2 : Mm} {s : Sv} {n z : Nat} {h : Nat → Sv} {B : Int} {tx : Tx} {ln : Nat} {c : Int32} {v v2 : Option Value} (hL : LI V s n z h B tx ln) (hA : ApQ V tx ln c v V1) (hM : ApM V1 tx ln c v2 V2) : ∃ tx2 ln2, LI V2 s n z h (B + 2100000) tx2 ln2 := by
  obtain ⟨hC, hMr, hS, hT, hT2, hf⟩ := hL
  rcases hA with ⟨k1, -, hF, hT1, hi1⟩ | ⟨k1, -, e⟩
  · rcases hM with ⟨-, -, hF2, hT22, hi2⟩ | ⟨k2, -⟩
    · have fr : ∀ k, k ≠ 529 → k ≠ 530 → k ≠ 532 → k ≠ 537 → V2 k = V k := fun k a1 a2 a3 a4 => (hF2 k a3 a4).trans (hF k (by omega))
      have f5 : ∀ i, i ≠ 0 → i ≠ 7 → V2 532 i = V 532 i := fun i a1 a2 => (hi2 i a1 a2).trans (by rw [hF 532 (by decide)])
      exact ⟨_, _, (hC.fr (fun k _ q => fr k (by omega) (by omega) (by omega) (by omega))).mono (by omega), hMr.fr (fr 533 (by decide) (by decide) (by decide) (by decide)), hS.fr (f5 4 (by decide) (by decide)) (fr 535 (by decide) (by decide) (by decide) (by decide)), hT1.fr (by rw [hF2 529 (by decide) (by decide)]) (hF2 530 (by decide) (by decide)), hT22, hf.fr (fr 528 (by decide) (by decide) (by decide) (by decide)) (f5 10 (by decide) (by decide)) (fr 539 (by decide) (by decide) (by decide) (by decide))⟩
    · exact absurd k1 k2
  · rcases hM with ⟨k2, -⟩ | ⟨-, -, e2⟩
    · exact absurd k2 k1
    · rw [e2, e]
      exact ⟨tx, ln, li_q (a := 0) ⟨hC, hMr, hS, hT, hT2, hf⟩ (QR.ri ⟨rfl, rfl⟩)⟩
theorem li_clr {V : Mm} {s : Sv} {n z : Nat} {h : Nat → Sv} {B : Int} {tx : Tx} {ln : Nat} (hL : LI V s n z h B tx ln) : LI (mup (mup (mup V 529 1 0) 532 0 0) 532 7 0) s n z h (B + 2100000) tx 0 := by
  obtain ⟨hC, hMr, hS, hT, hT2, hf⟩ := hL
  have fr : ∀ k, k ≠ 529 → k ≠ 532 → mup (mup (mup V 529 1 0) 532 0 0) 532 7 0 k = V k := fun k a1 a2 => by rw [mup_ne _ _ _ a2, mup_ne _ _ _ a2, mup_ne _ _ _ a1]
  have f5 : ∀ i, i ≠ 0 → i ≠ 7 → mup (mup (mup V 529 1 0) 532 0 0) 532 7 0 532 i = V 532 i := fun i a1 a2 => by rw [mup_oth _ _ _ _ (Or.inr a2), mup_oth _ _ _ _ (Or.inr a1), mup_ne _ _ _ (by decide)]
  exact ⟨(hC.fr (fun k _ q => fr k (by omega) (by omega))).mono (by omega), hMr.fr (fr 533 (by decide) (by decide)), hS.fr (f5 4 (by decide) (by decide)) (fr 535 (by decide) (by decide)), ⟨by rw [mup_ne _ _ _ (by decide), mup_ne _ _ _ (by decide), mup_self]; rfl, by decide, fun i hi => absurd hi (Nat.not_lt_zero i)⟩, ⟨by rw [mup_self]; rfl, by decide, fun i hi => absurd hi (Nat.not_lt_zero i)⟩, hf.fr (fr 528 (by decide) (by decide)) (f5 10 (by decide) (by decide)) (fr 539 (by decide) (by decide))⟩
theorem rq_v {V V1 : Mm} {s : Sv} {n z : Nat} {h : Nat → Sv} {B : Int} {r : RR} {v : Option Value} (hA : RunQ V s n z h B r v V1) : v = some (.int (rnA r)) := hA.1
theorem li_run1 {V V1 : Mm} {s : Sv} {n z : Nat} {h : Nat → Sv} {B : Int} {tx : Tx} {ln : Nat} {r : RR} {v : Option Value} (hL : LI V s n z h B tx ln) (hA : RunQ V s n z h B r v V1) : MR V1 s ∧ MS V1 z h ∧ MT2 V1 tx ln := by
  obtain ⟨hC, hMr, hS, hT, hT2, hf⟩ := hL
  have fr : ∀ k, 532 ≤ k → V1 k = V k := fun k q => hA.2.1 k (Or.inr (by omega)) (by omega) (by omega) (by omega)
  exact ⟨hMr.fr (fr 533 (by decide)), hS.fr (by rw [fr 532 (by decide)]) (fr 535 (by decide)), hT2.fr (by rw [fr 532 (by decide)]) (fr 537 (by decide))⟩
theorem li_run {V V1 V2 : Mm} {s : Sv} {n z : Nat} {h : Nat → Sv} {B : Int} {tx : Tx} {ln : Nat} {r : RR} {v v2 : Option Value} (hL : LI V s n z h B tx ln) (hA : RunQ V s n z h B r v V1) (hM : RunM V1 s z h r v2 V2) : ∃ s2 n2 z2 h2 ln2, LI V2 s2 n2 z2 h2 (B + 2100000) tx ln2 := by
  obtain ⟨hC, hMr, hS, hT, hT2, hf⟩ := hL
  obtain ⟨-, hF1, h1⟩ := hA
  obtain ⟨-, hF2, h2⟩ := hM
  have fr : ∀ k, 532 ≤ k → V1 k = V k := fun k q => hF1 k (Or.inr (by omega)) (by omega) (by omega) (by omega)
  have g30 : V2 530 = V 530 := (hF2 530 (by decide)).trans (hF1 530 (by decide) (by decide) (by decide) (by decide))
  rcases h1 with ⟨k1, hC1, e28, e29⟩ | ⟨k1, hC1, e28, e29⟩
  · rcases h2 with ⟨-, hM2, hS2, e7, e10, e39⟩ | ⟨k2, -⟩
    · refine ⟨_, _, _, _, 0, hC1.fr (fun k _ q => hF2 k (by omega)), hM2, hS2, ⟨by rw [hF2 529 (by decide), e29]; rfl, by decide, fun i hi => absurd hi (Nat.not_lt_zero i)⟩, ⟨by rw [e7]; rfl, by decide, fun i hi => absurd hi (Nat.not_lt_zero i)⟩, hf.fr ((hF2 528 (by decide)).trans e28) (e10.trans (by rw [fr 532 (by decide)])) (e39.trans (fr 539 (by decide)))⟩
    · exact absurd k1 k2
  · rcases h2 with ⟨k2, -⟩ | ⟨-, hM2, hS2, e7, e10, f0, f1, f2, f3, f4⟩
    · exact absurd k2 k1
    · refine ⟨_, _, _, _, ln, (hC1.fr (fun k _ q => hF2 k (by omega))).mono (by omega), hM2, hS2, hT.fr (by rw [hF2 529 (by decide), e29]) g30, hT2.fr (e7.trans (by rw [fr 532 (by decide)])) ((hF2 537 (by decide)).trans (fr 537 (by decide))), ?_⟩
      have g : V2 528 = upd (upd (upd (upd (V 528) 2 r.1) 3 r.2.1) 4 r.2.2.1) 5 (nI r.2.2.2.1) := (hF2 528 (by decide)).trans e28
      have g2 : V2 528 2 = r.1 := by rw [g, upd_n _ _ (by decide), upd_n _ _ (by decide), upd_n _ _ (by decide), upd_s]
      have g3 : V2 528 3 = r.2.1 := by rw [g, upd_n _ _ (by decide), upd_n _ _ (by decide), upd_s]
      have g4 : V2 528 4 = r.2.2.1 := by rw [g, upd_n _ _ (by decide), upd_s]
      have g5 : V2 528 5 = nI r.2.2.2.1 := by rw [g, upd_s]
      refine Or.inr ⟨by rw [g2]; exact k1, e10, by rw [g2]; exact f0, by rw [g3]; exact f1, by rw [g2]; exact f2, by rw [g4]; exact f3, by rw [g5]; exact f4⟩
