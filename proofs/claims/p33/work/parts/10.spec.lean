/-! The season as 193 numbers, in the order in which they are told: 0 today, 1 level, 2 ramps, 3 permits, 4-6 amounts, 7-9 how often, 10 all fines, 11-36 rates, 37-48 ramps of 3, 49-192 permits of 12. -/
abbrev Sv : Type := Nat → Int32
def pf (s : Sv) (p j : Nat) : Int32 := s (49 + 12 * p + j)
def rf (s : Sv) (r j : Nat) : Int32 := s (37 + 3 * r + j)
def prw (s : Sv) (p : Nat) : Nat → Int32 := fun j => s (49 + 12 * p + j)
def tN (s : Sv) : Nat := (s 0).toInt.toNat
def nrN (s : Sv) : Nat := (s 2).toInt.toNat
def npN (s : Sv) : Nat := (s 3).toInt.toNat
def WP (s : Sv) (B : Int) (p : Nat) : Prop :=
  (0 ≤ (pf s p 0).toInt ∧ (pf s p 0).toInt < (s 2).toInt) ∧ (0 ≤ (pf s p 1).toInt ∧ (pf s p 1).toInt ≤ (pf s p 2).toInt ∧ (pf s p 2).toInt ≤ 181 ∧ (pf s p 2).toInt ≤ (pf s p 1).toInt + 29) ∧
  (0 ≤ (pf s p 3).toInt ∧ (pf s p 3).toInt ≤ 300) ∧ (1 ≤ (pf s p 4).toInt ∧ (pf s p 4).toInt ≤ 500) ∧ (0 ≤ (pf s p 7).toInt ∧ (pf s p 7).toInt ≤ B) ∧
  (0 ≤ (pf s p 9).toInt ∧ 0 ≤ (pf s p 10).toInt ∧ (pf s p 9).toInt + (pf s p 10).toInt ≤ (s 0).toInt) ∧ (pf s p 11 = 0 ∨ pf s p 11 = 1)
def WF (s : Sv) (B : Int) : Prop :=
  (0 ≤ (s 0).toInt ∧ (s 0).toInt ≤ 181) ∧ (0 ≤ (s 1).toInt ∧ (s 1).toInt ≤ 5000) ∧ (0 ≤ (s 2).toInt ∧ (s 2).toInt ≤ 4) ∧ (0 ≤ (s 3).toInt ∧ (s 3).toInt ≤ 12) ∧
  (∀ i, i < 3 → 0 ≤ (s (4 + i)).toInt ∧ (s (4 + i)).toInt ≤ 500) ∧ (∀ w, w < 26 → -50 ≤ (s (11 + w)).toInt ∧ (s (11 + w)).toInt ≤ 50) ∧
  (∀ r, r < nrN s → (0 ≤ (rf s r 0).toInt ∧ (rf s r 0).toInt ≤ 4000) ∧ (1 ≤ (rf s r 1).toInt ∧ (rf s r 1).toInt ≤ 20) ∧ (1 ≤ (rf s r 2).toInt ∧ (rf s r 2).toInt ≤ 500)) ∧
  (∀ p, p < npN s → WP s B p)
theorem WF.t {s : Sv} {B : Int} (h : WF s B) : s 0 = nI (tN s) ∧ tN s ≤ 181 := ⟨ofNI h.1.1, by have := h.1; unfold tN; omega⟩
theorem WF.nr {s : Sv} {B : Int} (h : WF s B) : s 2 = nI (nrN s) ∧ nrN s ≤ 4 := ⟨ofNI h.2.2.1.1, by have := h.2.2.1; unfold nrN; omega⟩
theorem WF.np {s : Sv} {B : Int} (h : WF s B) : s 3 = nI (npN s) ∧ npN s ≤ 12 := ⟨ofNI h.2.2.2.1.1, by have := h.2.2.2.1; unfold npN; omega⟩
theorem WF.lv {s : Sv} {B : Int} (h : WF s B) : 0 ≤ (s 1).toInt ∧ (s 1).toInt ≤ 5000 := h.2.1
theorem WF.fine {s : Sv} {B : Int} (h : WF s B) {i : Nat} (hi : i < 3) : 0 ≤ (s (4 + i)).toInt ∧ (s (4 + i)).toInt ≤ 500 := h.2.2.2.2.1 i hi
theorem WF.rate {s : Sv} {B : Int} (h : WF s B) {w : Nat} (hw : w < 26) : -50 ≤ (s (11 + w)).toInt ∧ (s (11 + w)).toInt ≤ 50 := h.2.2.2.2.2.1 w hw
theorem WF.rm {s : Sv} {B : Int} (h : WF s B) {r : Nat} (hr : r < nrN s) : (0 ≤ (rf s r 0).toInt ∧ (rf s r 0).toInt ≤ 4000) ∧ (1 ≤ (rf s r 1).toInt ∧ (rf s r 1).toInt ≤ 20) ∧ (1 ≤ (rf s r 2).toInt ∧ (rf s r 2).toInt ≤ 500) := h.2.2.2.2.2.2.1 r hr
theorem WF.pm {s : Sv} {B : Int} (h : WF s B) {p : Nat} (hp : p < npN s) : WP s B p := h.2.2.2.2.2.2.2 p hp
/-- a permit's numbers as natural ones: its ramp, its first and last day -/
theorem WF.pn {s : Sv} {B : Int} (h : WF s B) {p : Nat} (hp : p < npN s) : ∃ r a b : Nat, pf s p 0 = nI r ∧ r < nrN s ∧ pf s p 1 = nI a ∧ pf s p 2 = nI b ∧ a ≤ b ∧ b ≤ 181 ∧ b ≤ a + 29 := by
  obtain ⟨h1, h2, -⟩ := h.pm hp
  have h3 := h.2.2.1
  refine ⟨(pf s p 0).toInt.toNat, (pf s p 1).toInt.toNat, (pf s p 2).toInt.toNat, ofNI h1.1, ?_, ofNI h2.1, ofNI (by omega), by omega, by omega, by omega⟩
  unfold nrN
  omega
theorem WF.c01 {s : Sv} {B : Int} (h : WF s B) {p : Nat} (hp : p < npN s) : pf s p 11 = 0 ∨ pf s p 11 = 1 := (h.pm hp).2.2.2.2.2.2
theorem ixOf {x c : Int32} {n : Nat} (hc : c = nI n) (hn : n < 2 ^ 31) (h : 0 ≤ x ∧ x < c) : ∃ r : Nat, x = nI r ∧ r < n := by
  rw [ie, il, hc, tn hn, tl_0] at h
  exact ⟨x.toInt.toNat, ofNI h.1, by omega⟩
theorem WF.rix {s : Sv} {B : Int} (h : WF s B) {x : Int32} (hx : 0 ≤ x ∧ x < s 2) : ∃ r : Nat, x = nI r ∧ r < nrN s := ixOf h.nr.1 (by have := h.nr.2; omega) hx
theorem WF.pix {s : Sv} {B : Int} (h : WF s B) {x : Int32} (hx : 0 ≤ x ∧ x < s 3) : ∃ r : Nat, x = nI r ∧ r < npN s := ixOf h.np.1 (by have := h.np.2; omega) hx
/-! where each number lies in the world -/
def clc (S m : Nat) : Nat := if m < 2 then S + 1 else if m < 4 then S else if m < 7 then S + 4 else if m < 10 then S + 5 else if m = 10 then S + 3 else if m < 37 then S + 2 else if m < 49 then S + 8 + (m - 37) / 3 else S + 12 + (m - 49) / 12
def csl (m : Nat) : Nat := if m < 2 then m else if m < 4 then m + 2 else if m < 7 then m - 4 else if m < 10 then m - 7 else if m = 10 then 2 else if m < 37 then m - 11 else if m < 49 then (m - 37) % 3 else (m - 49) % 12
def rel (nr np m : Nat) : Prop := m < 37 ∨ (37 ≤ m ∧ m < 37 + 3 * nr ∧ m < 49) ∨ (49 ≤ m ∧ m < 49 + 12 * np ∧ m < 193)
def RepN (V : Mm) (S : Nat) (s : Sv) (nr np : Nat) : Prop := ∀ m, rel nr np m → V (clc S m) (csl m) = s m
def Rep (V : Mm) (S : Nat) (s : Sv) : Prop := RepN V S s (nrN s) (npN s)
theorem cl_inj {S m n : Nat} (hm : m < 193) (hn : n < 193) (h1 : clc S m = clc S n) (h2 : csl m = csl n) : m = n := by
  unfold clc at h1
  unfold csl at h2
  repeat' split at h1
  all_goals (repeat' split at h2)
  all_goals omega
theorem rel_lt {nr np m : Nat} (h : rel nr np m) : m < 193 := by
  unfold rel at h
  omega
theorem RepN.put {V : Mm} {S : Nat} {s : Sv} {nr np : Nat} (h : RepN V S s nr np) (m0 : Nat) (x : Int32) (h0 : m0 < 193) {k i : Nat} (hk : clc S m0 = k) (hi : csl m0 = i) : RepN (mup V k i x) S (upd s m0 x) nr np := by
  subst hk; subst hi
  intro m hm
  by_cases hmm : m = m0
  · subst hmm
    simp [mup, upd]
  · have hl := rel_lt hm
    rw [upd_n s x hmm]
    by_cases hc : clc S m = clc S m0
    · rw [hc, mup_same, upd_n]
      · rw [← hc]; exact h m hm
      · intro q
        exact hmm (cl_inj hl h0 hc q)
    · rw [mup_ne _ _ _ hc]
      exact h m hm
/-- a whole row of a permit -/
def prow (s : Sv) (p : Nat) (f : Nat → Int32) : Sv := fun m => if 49 + 12 * p ≤ m ∧ m < 49 + 12 * p + 12 then f (m - (49 + 12 * p)) else s m
def rrow (s : Sv) (r : Nat) (f : Nat → Int32) : Sv := fun m => if 37 + 3 * r ≤ m ∧ m < 37 + 3 * r + 3 then f (m - (37 + 3 * r)) else s m
theorem cl_pm {S p j : Nat} (hj : j < 12) : clc S (49 + 12 * p + j) = S + 12 + p ∧ csl (49 + 12 * p + j) = j := by
  unfold clc csl
  repeat (first | rw [if_neg (by omega)])
  omega
theorem cl_rm {S r j : Nat} (hr : r < 4) (hj : j < 3) : clc S (37 + 3 * r + j) = S + 8 + r ∧ csl (37 + 3 * r + j) = j := by
  unfold clc csl
  rw [if_neg (by omega), if_neg (by omega), if_neg (by omega), if_neg (by omega), if_neg (by omega), if_neg (by omega), if_pos (by omega), if_neg (by omega), if_neg (by omega), if_neg (by omega), if_neg (by omega), if_neg (by omega), if_neg (by omega), if_pos (by omega)]
  omega
theorem RepN.prowU {V : Mm} {S : Nat} {s : Sv} {nr np p : Nat} (h : RepN V S s nr np) (hp : p < 12) {f g : Nat → Int32} (hfg : ∀ j, j < 12 → f j = g j) : RepN (rs V (S + 12 + p) f) S (prow s p g) nr np := by
  intro m hm
  have hl := rel_lt hm
  unfold prow
  by_cases hc : 49 + 12 * p ≤ m ∧ m < 49 + 12 * p + 12
  · rw [if_pos hc]
    have e := cl_pm (S := S) (p := p) (j := m - (49 + 12 * p)) (by omega)
    rw [show 49 + 12 * p + (m - (49 + 12 * p)) = m by omega] at e
    rw [e.1, e.2, rs_same]
    exact hfg _ (by omega)
  · rw [if_neg hc, rs_ne]
    · exact h m hm
    · intro q
      apply hc
      unfold clc at q
      repeat' split at q
      all_goals omega
theorem RepN.rrowU {V : Mm} {S : Nat} {s : Sv} {nr np r : Nat} (h : RepN V S s nr np) (hr : r < 4) {f g : Nat → Int32} (hfg : ∀ j, j < 3 → f j = g j) : RepN (rs V (S + 8 + r) f) S (rrow s r g) nr np := by
  intro m hm
  have hl := rel_lt hm
  unfold rrow
  by_cases hc : 37 + 3 * r ≤ m ∧ m < 37 + 3 * r + 3
  · rw [if_pos hc]
    have e := cl_rm (S := S) (r := r) (j := m - (37 + 3 * r)) hr (by omega)
    rw [show 37 + 3 * r + (m - (37 + 3 * r)) = m by omega] at e
    rw [e.1, e.2, rs_same]
    exact hfg _ (by omega)
  · rw [if_neg hc, rs_ne]
    · exact h m hm
    · intro q
      apply hc
      unfold clc at q
      repeat' split at q
      all_goals omega
theorem RepN.moreP {V : Mm} {S : Nat} {s : Sv} {nr np : Nat} (h : RepN V S s nr np) (hp : np < 12) (hr : ∀ j, j < 12 → V (S + 12 + np) j = s (49 + 12 * np + j)) : RepN V S s nr (np + 1) := by
  intro m hm
  by_cases hc : 49 + 12 * np ≤ m
  · have hl : m < 49 + 12 * np + 12 := by unfold rel at hm; omega
    have e := cl_pm (S := S) (p := np) (j := m - (49 + 12 * np)) (by omega)
    rw [show 49 + 12 * np + (m - (49 + 12 * np)) = m by omega] at e
    rw [e.1, e.2, hr _ (by omega)]
    congr 1
    omega
  · refine h m ?_
    unfold rel at hm ⊢
    omega
theorem RepN.moreR {V : Mm} {S : Nat} {s : Sv} {nr np : Nat} (h : RepN V S s nr np) (hp : nr < 4) (hr : ∀ j, j < 3 → V (S + 8 + nr) j = s (37 + 3 * nr + j)) : RepN V S s (nr + 1) np := by
  intro m hm
  by_cases hc : 37 + 3 * nr ≤ m ∧ m < 49
  · have hl : m < 37 + 3 * nr + 3 := by unfold rel at hm; omega
    have e := cl_rm (S := S) (r := nr) (j := m - (37 + 3 * nr)) hp (by omega)
    rw [show 37 + 3 * nr + (m - (37 + 3 * nr)) = m by omega] at e
    rw [e.1, e.2, hr _ (by omega)]
    congr 1
    omega
  · refine h m ?_
    unfold rel at hm ⊢
    omega
/-- nothing else changes -/
def Fr (lo hi : Nat) (V V' : Mm) : Prop := ∀ k, (k < lo ∨ hi ≤ k) → V' k = V k
theorem Fr.rfl' {lo hi : Nat} {V : Mm} : Fr lo hi V V := fun _ _ => rfl
theorem Fr.trans {lo hi : Nat} {V V1 V2 : Mm} (h1 : Fr lo hi V V1) (h2 : Fr lo hi V1 V2) : Fr lo hi V V2 := fun k hk => (h2 k hk).trans (h1 k hk)
theorem Fr.mup {lo hi k i : Nat} {x : Int32} {V V1 : Mm} (h : Fr lo hi V V1) (hk : lo ≤ k ∧ k < hi) : Fr lo hi V (mup V1 k i x) := fun j hj => by
  rw [mup_ne _ _ _ (by omega)]
  exact h j hj
theorem Fr.rs {lo hi k : Nat} {f : Nat → Int32} {V V1 : Mm} (h : Fr lo hi V V1) (hk : lo ≤ k ∧ k < hi) : Fr lo hi V (rs V1 k f) := fun j hj => by
  rw [rs_ne _ _ (by omega)]
  exact h j hj
theorem RepN.frame {V V' : Mm} {S : Nat} {s : Sv} {nr np : Nat} (h : RepN V S s nr np) (hF : ∀ k, S ≤ k → k < S + 24 → V' k = V k) : RepN V' S s nr np := by
  intro m hm
  have hl := rel_lt hm
  rw [hF _ (by unfold clc; repeat' split
               all_goals omega) (by unfold clc; repeat' split
                                    all_goals omega)]
  exact h m hm
/-! reading the live season (its cells begin at 2) -/
section READ
variable {V : Mm} {s : Sv} {B : Int}
theorem Rep.at (h : Rep V 2 s) (m k i : Nat) (hm : m < 37) (hk : clc 2 m = k) (hi : csl m = i) : V k i = s m := by
  subst hk; subst hi
  exact h m (Or.inl hm)
theorem Rep.today (h : Rep V 2 s) : V 3 0 = s 0 := h.at 0 3 0 (by decide) rfl rfl
theorem Rep.level (h : Rep V 2 s) : V 3 1 = s 1 := h.at 1 3 1 (by decide) rfl rfl
theorem Rep.nrs (h : Rep V 2 s) : V 2 4 = s 2 := h.at 2 2 4 (by decide) rfl rfl
theorem Rep.nps (h : Rep V 2 s) : V 2 5 = s 3 := h.at 3 2 5 (by decide) rfl rfl
theorem Rep.amt (h : Rep V 2 s) {i : Nat} (hi : i < 3) : V 6 i = s (4 + i) := h.at (4 + i) 6 i (by omega) (by unfold clc; repeat' split
                                                                                                              all_goals omega) (by unfold csl; repeat' split
                                                                                                                                   all_goals omega)
theorem Rep.tms (h : Rep V 2 s) {i : Nat} (hi : i < 3) : V 7 i = s (7 + i) := h.at (7 + i) 7 i (by omega) (by unfold clc; repeat' split
                                                                                                              all_goals omega) (by unfold csl; repeat' split
                                                                                                                                   all_goals omega)
theorem Rep.tot (h : Rep V 2 s) : V 5 2 = s 10 := h.at 10 5 2 (by decide) rfl rfl
theorem Rep.rate (h : Rep V 2 s) {w : Nat} (hw : w < 26) : V 4 w = s (11 + w) := h.at (11 + w) 4 w (by omega) (by unfold clc; repeat' split
                                                                                                                  all_goals omega) (by unfold csl; repeat' split
                                                                                                                                       all_goals omega)
theorem Rep.rm (h : Rep V 2 s) {r j : Nat} (hr : r < nrN s) (h4 : r < 4) (hj : j < 3) : V (10 + r) j = rf s r j := by
  have e := cl_rm (S := 2) (r := r) (j := j) h4 hj
  have h1 := h (37 + 3 * r + j) (Or.inr (Or.inl ⟨by omega, by omega, by omega⟩))
  rw [e.1, e.2] at h1
  exact h1
theorem Rep.pm (h : Rep V 2 s) {p j : Nat} (hp : p < npN s) (h12 : p < 12) (hj : j < 12) : V (14 + p) j = pf s p j := by
  have e := cl_pm (S := 2) (p := p) (j := j) hj
  have h1 := h (49 + 12 * p + j) (Or.inr (Or.inr ⟨by omega, by omega, by omega⟩))
  rw [e.1, e.2] at h1
  exact h1
end READ
/-! counting -/
noncomputable def cntN (P : Nat → Prop) : Nat → Nat
  | 0 => 0
  | n + 1 => cntN P n + @ite _ (P n) (Classical.propDecidable _) 1 0
theorem cntN_t {P : Nat → Prop} {n : Nat} (h : P n) : cntN P (n + 1) = cntN P n + 1 := by
  show cntN P n + @ite _ (P n) (Classical.propDecidable _) 1 0 = _
  rw [if_pos h]
theorem cntN_f {P : Nat → Prop} {n : Nat} (h : ¬ P n) : cntN P (n + 1) = cntN P n := by
  show cntN P n + @ite _ (P n) (Classical.propDecidable _) 1 0 = _
  rw [if_neg h]
  rfl
theorem cntN_le (P : Nat → Prop) : ∀ n, cntN P n ≤ n
  | 0 => Nat.le_refl 0
  | n + 1 => by
    have := cntN_le P n
    by_cases h : P n
    · rw [cntN_t h]; omega
    · rw [cntN_f h]; omega
theorem cntN_0 {P : Nat → Prop} : ∀ n, (∀ i, i < n → ¬ P i) → cntN P n = 0
  | 0, _ => rfl
  | n + 1, h => by rw [cntN_f (h n (Nat.lt_succ_self n)), cntN_0 n (fun i hi => h i (by omega))]
theorem cntN_c {P Q : Nat → Prop} : ∀ n, (∀ i, i < n → (P i ↔ Q i)) → cntN P n = cntN Q n
  | 0, _ => rfl
  | n + 1, h => by
    have e := cntN_c n (fun i hi => h i (by omega))
    by_cases hp : P n
    · rw [cntN_t hp, cntN_t ((h n (Nat.lt_succ_self n)).mp hp), e]
    · rw [cntN_f hp, cntN_f (fun q => hp ((h n (Nat.lt_succ_self n)).mpr q)), e]
def sumN (f : Nat → Int32) : Nat → Int32
  | 0 => 0
  | n + 1 => sumN f n + f n
theorem sumN_c {f g : Nat → Int32} : ∀ n, (∀ i, i < n → f i = g i) → sumN f n = sumN g n
  | 0, _ => rfl
  | n + 1, h => by
    show sumN f n + f n = sumN g n + g n
    rw [sumN_c n (fun i hi => h i (by omega)), h n (Nat.lt_succ_self n)]
/-! what the document says, over the numbers -/
def FC (s : Sv) (n : Nat) : Int32 := fct (s 1) (fun w => s (11 + w)) (tN s) n
def opn (s : Sv) (r : Nat) (dr lv : Int32) : Prop := dr ≤ lv - rf s r 0
def cms (s : Sv) (p D : Nat) : Prop := cmsP (pf s p 1) (pf s p 2) (pf s p 11) (nI D) (s 0)
def dtc (s : Sv) (p : Nat) : Int32 := dtcI (pf s p 1) (pf s p 2) (pf s p 11) (s 0)
noncomputable def cOn (s : Sv) (x : Int32) (D n : Nat) : Nat := cntN (fun p => pf s p 0 = x ∧ cms s p D) n
def fitP (s : Sv) (r a b : Nat) (dr : Int32) : Prop := ∀ D, a ≤ D → D ≤ b → opn s r dr (FC s (D - tN s)) ∧ nI (cOn s (nI r) D (npN s)) < rf s r 1
def rrN (s : Sv) (p : Nat) : Nat := (pf s p 0).toInt.toNat
noncomputable def clN (s : Sv) (p n : Nat) : Nat := cntN (fun D => cms s p D ∧ ¬ opn s (rrN s p) (pf s p 3) (FC s (D - tN s))) n
def laN (s : Sv) (p : Nat) : Nat := (pf s p 2).toInt.toNat
def fiN (s : Sv) (p : Nat) : Nat := (pf s p 1).toInt.toNat
theorem hld_b (v : Int32) : 0 ≤ (bnd v).toInt ∧ (bnd v).toInt ≤ 5000 := by
  unfold bnd hld
  simp only [il, tl_0, tl_5000]
  split
  · rw [tl_0]; omega
  · split
    · rw [tl_5000]; omega
    · omega
theorem FC_b {s : Sv} {B : Int} (h : WF s B) : ∀ n, 0 ≤ (FC s n).toInt ∧ (FC s n).toInt ≤ 5000
  | 0 => h.lv
  | n + 1 => hld_b _
theorem FC_s (s : Sv) (n : Nat) : FC s (n + 1) = bnd (FC s n + rtd (fun w => s (11 + w)) (tN s + n)) := rfl
theorem rtd_c {f g : Nat → Int32} (h : ∀ w, w < 26 → f w = g w) (D : Nat) : rtd f D = rtd g D := by
  unfold rtd
  split
  · exact h _ (by assumption)
  · rfl
