def OC (c : Nat) (K : String) : Prop := ∃ (ci : Nat) (fs : List (Option Nat)) (T : u_T) (N : Nat), okind c = some (ci, fs) ∧ vwCl[ci]? = some (K, T, N) ∧ c ≠ 99
theorem oc_0 : OC 0 RX11 := ⟨9, _, TX11, 3, rfl, rfl, by decide⟩
theorem oc_1 : OC 1 RX8 := ⟨6, _, TX8, 3, rfl, rfl, by decide⟩
theorem oc_2 : OC 2 RX7 := ⟨5, _, TX7, 6, rfl, rfl, by decide⟩
theorem oc_3 : OC 3 RX10 := ⟨8, _, TX10, 3, rfl, rfl, by decide⟩
theorem oc_5 : OC 5 RX2 := ⟨0, _, TX2, 3, rfl, rfl, by decide⟩
theorem oc_9 : OC 9 RX6 := ⟨4, _, TX6, 3, rfl, rfl, by decide⟩
theorem oc_10 : OC 10 RX4 := ⟨2, _, TX4, 12, rfl, rfl, by decide⟩
theorem oc_13 : OC 13 RX3 := ⟨1, _, TX3, 3, rfl, rfl, by decide⟩
theorem oc_15 : OC 15 RX5 := ⟨3, _, TX5, 6, rfl, rfl, by decide⟩
theorem oc_16 : OC 16 RX9 := ⟨7, _, TX9, 4, rfl, rfl, by decide⟩
section MORE
variable {G : GT} {C : CT} {V : Mm} {y : MT} {d pc npc : Nat} {l : List (Option Value)} {st : List Value}
theorem Ew.callV2 {y' : MT} {d' n k c ix : Nat} {as' rest : List Value} {Post' : PT} (hx : Cx G y d C) (hd : Dc y.2.1 pc (.invokevirtual ix) 3 npc) (hm : Cond.methodLink y.1.cls ix y'.1 ∈ Big) (cf : CFm y' n) (cv : CFv y') (hc : Ct G y' d' (adr G k :: as') V Post') (hk : kd k = c) (hO : OC c y'.1.cls) (hn : as'.length = n) (hd' : d' + 1 ≤ d) (hml : y'.2.2.1 ≤ 17) (hst : st = as'.reverse ++ adr G k :: rest) (hw : (rest.map fun v => v.category).sum ≤ 8)
    (kk : ∀ v V', Post' v V' → Ew G C V' npc l (v.toList ++ rest)) : Ew G C V pc l st := by
  obtain ⟨ci, fs, T, N, h1, h2, h3⟩ := hO
  exact Ew.callV hx hd hm cf cv hc (by rw [hk]; exact ⟨h1, h3⟩) h2 hn hd' hml hst hw kk
theorem Ew.tswIn {dflt lo hi off : Int} {offs : Array Int} {len i tgt : Nat} {x : Int32} (hx : Cx G y d C) (hd : Dc y.2.1 pc (.tableswitch dflt lo hi offs) len npc) (h : ¬ x.toInt < lo ∧ ¬ hi < x.toInt ∧ (x.toInt - lo).toNat = i) (ho : offs[i]? = some off) (ht : (pc : Int) + off = (tgt : Int)) (kk : Ew G C V tgt l st) : Ew G C V pc l (.int x :: st) := by
  obtain ⟨he, hb, -⟩ := hx; obtain ⟨hd, rfl⟩ := hd
  intro H locs ls hP hS hL
  exact lv_tableIn he hb hd h.1 h.2.1 (by rw [h.2.2]; exact ho) ht (kk H locs ls hP hS hL)
theorem Ew.tswOut {dflt lo hi : Int} {offs : Array Int} {len tgt : Nat} {x : Int32} (hx : Cx G y d C) (hd : Dc y.2.1 pc (.tableswitch dflt lo hi offs) len npc) (h : x.toInt < lo ∨ hi < x.toInt) (ht : (pc : Int) + dflt = (tgt : Int)) (kk : Ew G C V tgt l st) : Ew G C V pc l (.int x :: st) := by
  obtain ⟨he, hb, -⟩ := hx; obtain ⟨hd, rfl⟩ := hd
  intro H locs ls hP hS hL
  exact lv_tableOut he hb hd h ht (kk H locs ls hP hS hL)
end MORE
abbrev Ri (r : Int32) (V : Mm) : PT := fun v V' => v = some (.int r) ∧ V' = V
abbrev Rv (V : Mm) : PT := fun v V' => v = none ∧ V' = V
theorem il (a b : Int32) : a < b ↔ a.toInt < b.toInt := Int32.lt_iff_toInt_lt
theorem ie (a b : Int32) : a ≤ b ↔ a.toInt ≤ b.toInt := Int32.le_iff_toInt_le
theorem iq (a b : Int32) : a = b ↔ a.toInt = b.toInt := Int32.toInt_inj.symm
theorem tl_0 : (0 : Int32).toInt = 0 := by decide
theorem tl_1 : (1 : Int32).toInt = 1 := by decide
theorem tl_2 : (2 : Int32).toInt = 2 := by decide
theorem tl_3 : (3 : Int32).toInt = 3 := by decide
theorem tl_4 : (4 : Int32).toInt = 4 := by decide
theorem tl_5 : (5 : Int32).toInt = 5 := by decide
theorem tl_6 : (6 : Int32).toInt = 6 := by decide
theorem tl_7 : (7 : Int32).toInt = 7 := by decide
theorem tl_8 : (8 : Int32).toInt = 8 := by decide
theorem tl_9 : (9 : Int32).toInt = 9 := by decide
theorem tl_10 : (10 : Int32).toInt = 10 := by decide
theorem tl_11 : (11 : Int32).toInt = 11 := by decide
theorem tl_12 : (12 : Int32).toInt = 12 := by decide
theorem tl_13 : (13 : Int32).toInt = 13 := by decide
theorem tl_20 : (20 : Int32).toInt = 20 := by decide
theorem tl_25 : (25 : Int32).toInt = 25 := by decide
theorem tl_26 : (26 : Int32).toInt = 26 := by decide
theorem tl_29 : (29 : Int32).toInt = 29 := by decide
theorem tl_30 : (30 : Int32).toInt = 30 := by decide
theorem tl_31 : (31 : Int32).toInt = 31 := by decide
theorem tl_32 : (32 : Int32).toInt = 32 := by decide
theorem tl_45 : (45 : Int32).toInt = 45 := by decide
theorem tl_48 : (48 : Int32).toInt = 48 := by decide
theorem tl_50 : (50 : Int32).toInt = 50 := by decide
theorem tl_57 : (57 : Int32).toInt = 57 := by decide
theorem tl_59 : (59 : Int32).toInt = 59 := by decide
theorem tl_97 : (97 : Int32).toInt = 97 := by decide
theorem tl_122 : (122 : Int32).toInt = 122 := by decide
theorem tl_140 : (140 : Int32).toInt = 140 := by decide
theorem tl_181 : (181 : Int32).toInt = 181 := by decide
theorem tl_255 : (255 : Int32).toInt = 255 := by decide
theorem tl_300 : (300 : Int32).toInt = 300 := by decide
theorem tl_500 : (500 : Int32).toInt = 500 := by decide
theorem tl_4000 : (4000 : Int32).toInt = 4000 := by decide
theorem tl_5000 : (5000 : Int32).toInt = 5000 := by decide
theorem tl_m1 : (-1 : Int32).toInt = -1 := by decide
theorem tl_m50 : (-50 : Int32).toInt = -50 := by decide
theorem tl_m500 : (-500 : Int32).toInt = -500 := by decide
theorem tl_m1000 : (-1000 : Int32).toInt = -1000 := by decide
theorem tl_m100001 : (-100001 : Int32).toInt = -100001 := by decide
theorem tl_m100002 : (-100002 : Int32).toInt = -100002 := by decide
theorem tl_m100003 : (-100003 : Int32).toInt = -100003 := by decide
theorem tl_m100009 : (-100009 : Int32).toInt = -100009 := by decide
theorem tn {n : Nat} (h : n < 2 ^ 31) : (nI n).toInt = (n : Int) := nI_toInt h
theorem ofNI {x : Int32} (h : 0 ≤ x.toInt) : x = nI x.toInt.toNat := Int32.toInt_inj.mp (by
  have h2 := Int32.toInt_lt x
  rw [nI_toInt (by omega)]; omega)
theorem addT {a b : Int32} (h1 : -2147483648 ≤ a.toInt + b.toInt) (h2 : a.toInt + b.toInt < 2147483648) : (a + b).toInt = a.toInt + b.toInt := by
  rw [Int32.toInt_add, Int.bmod_def]
  omega
theorem subT {a b : Int32} (h1 : -2147483648 ≤ a.toInt - b.toInt) (h2 : a.toInt - b.toInt < 2147483648) : (a - b).toInt = a.toInt - b.toInt := by
  rw [Int32.toInt_sub, Int.bmod_def]
  omega
theorem mulT {a b : Int32} (h1 : -2147483648 ≤ a.toInt * b.toInt) (h2 : a.toInt * b.toInt < 2147483648) : (a * b).toInt = a.toInt * b.toInt := by
  rw [Int32.toInt_mul, Int.bmod_def]
  omega
/-! a number held between 0 and a bound; the forecast -/
def hld (v most : Int32) : Int32 := if v < 0 then 0 else if most < v then most else v
abbrev bnd (v : Int32) : Int32 := hld v 5000
def rtd (r : Nat → Int32) (day : Nat) : Int32 := if day / 7 < 26 then r (day / 7) else 0
def fct (lv : Int32) (r : Nat → Int32) (t : Nat) : Nat → Int32
  | 0 => lv
  | n + 1 => bnd (fct lv r t n + rtd r (t + n))
theorem kd_pm {p : Nat} (h : p < 12) : kd (14 + p) = 10 := (show ∀ p, p < 12 → kd (14 + p) = 10 by decide) p h
theorem kd_rm {r : Nat} (h : r < 4) : kd (10 + r) = 9 := (show ∀ r, r < 4 → kd (10 + r) = 9 by decide) r h
