def pv1 (l : List (Option Value)) (i : Nat) : Bool := i == 0 || (match l[i - 1]? with | some (some v) => v.category == 1 | _ => true)
theorem pv1_at {l : List (Option Value)} {i j : Nat} {u : Value} (hc : pv1 l i = true) (hj : l[j]? = some (some u)) (hi : j + 1 = i) : u.category = 1 := by
  subst hi
  unfold pv1 at hc
  rw [Nat.add_sub_cancel, hj] at hc
  simpa using hc
theorem lvO_backL {ls : Array Slot} {n i : Nat} {v : Value} {l : List (Option Value)} {lv : List (Nat × Value)} (hsub : ∀ q ∈ asc l, q ∈ lv) (hc : pv1 l i = true) (h : lv_has ls n ((i, v) :: lv.filter (fun q => !(q.1 == i) && !(q.1 + 1 == i && q.2.category == 2)))) : lvO ls n (l.set i (some v)) := by
  refine ⟨h.1, h.2.1, fun j u hj => ?_⟩
  by_cases hij : j = i
  · subst hij
    have hl : j < l.length := by
      have := (List.getElem?_eq_some_iff.mp hj).1
      simpa using this
    rw [List.getElem?_set_self hl] at hj
    have hvu := Option.some.inj (Option.some.inj hj)
    rw [← hvu]
    exact h.2.2 (j, v) List.mem_cons_self
  · rw [List.getElem?_set_ne (Ne.symm hij)] at hj
    refine h.2.2 (j, u) (List.mem_cons_of_mem _ (List.mem_filter.mpr ⟨hsub _ (asc_mem.mpr hj), ?_⟩))
    by_cases hi : j + 1 = i
    · simp [hij, pv1_at hc hj hi]
    · simp [hij, hi]
theorem lvO_backL2 {ls : Array Slot} {n i : Nat} {v : Value} {l : List (Option Value)} {lv : List (Nat × Value)} (hsub : ∀ q ∈ asc l, q ∈ lv) (hc : pv1 l i = true) (h1 : l[i + 1]? = some none) (h : lv_has ls n ((i, v) :: lv.filter (fun q => !(q.1 == i) && (!(q.1 == i + 1) && !(q.1 + 1 == i && q.2.category == 2))))) : lvO ls n (l.set i (some v)) := by
  refine ⟨h.1, h.2.1, fun j u hj => ?_⟩
  by_cases hij : j = i
  · subst hij
    have hl : j < l.length := by
      have := (List.getElem?_eq_some_iff.mp hj).1
      simpa using this
    rw [List.getElem?_set_self hl] at hj
    have hvu := Option.some.inj (Option.some.inj hj)
    rw [← hvu]
    exact h.2.2 (j, v) List.mem_cons_self
  · rw [List.getElem?_set_ne (Ne.symm hij)] at hj
    have hi1 : j ≠ i + 1 := by
      intro e
      rw [e, h1] at hj
      cases hj
    refine h.2.2 (j, u) (List.mem_cons_of_mem _ (List.mem_filter.mpr ⟨hsub _ (asc_mem.mpr hj), ?_⟩))
    by_cases hi : j + 1 = i
    · simp [hij, hi1, pv1_at hc hj hi]
    · simp [hij, hi1, hi]
/-- fewer locals known -/
def lsub : List (Option Value) → List (Option Value) → Prop
  | [], _ => True
  | none :: l', [] => lsub l' []
  | none :: l', _ :: l => lsub l' l
  | some _ :: _, [] => False
  | some v :: l', o :: l => o = some v ∧ lsub l' l
theorem lsub_ok : ∀ (l' l : List (Option Value)), lsub l' l → ∀ (i : Nat) (v : Value), l'[i]? = some (some v) → l[i]? = some (some v)
  | [], _, _, i, v, q => by simp at q
  | none :: l', [], h, 0, v, q => by simp at q
  | none :: l', [], h, i + 1, v, q => by
    have := lsub_ok l' [] h i v (by simpa using q)
    simp at this
  | none :: l', _ :: l, h, 0, v, q => by simp at q
  | none :: l', _ :: l, h, i + 1, v, q => by
    have := lsub_ok l' l h i v (by simpa using q)
    simpa using this
  | some w :: l', o :: l, h, 0, v, q => by
    have e : w = v := by simpa using q
    subst e
    simpa using h.1
  | some w :: l', o :: l, h, i + 1, v, q => by
    have := lsub_ok l' l h.2 i v (by simpa using q)
    simpa using this
section LG
variable {G : GT} {C : CT} {V : Mm} {y : MT} {d pc npc : Nat} {l : List (Option Value)} {st : List Value}
theorem Ew.ladd {x z : Int64} (hx : Cx G y d C) (hd : Dc y.2.1 pc (.ladd) 1 npc) (kk : Ew G C V npc l (.long (x + z) :: st)) : Ew G C V pc l (.long z :: .long x :: st) := by
  obtain ⟨he, hb, hown, ht, -⟩ := hx; obtain ⟨hd, rfl⟩ := hd
  intro H locs ls hP hS hL
  exact lv_ladd he hb hd (kk H locs ls hP hS hL)
theorem Ew.lmul {x z : Int64} (hx : Cx G y d C) (hd : Dc y.2.1 pc (.lmul) 1 npc) (kk : Ew G C V npc l (.long (x * z) :: st)) : Ew G C V pc l (.long z :: .long x :: st) := by
  obtain ⟨he, hb, hown, ht, -⟩ := hx; obtain ⟨hd, rfl⟩ := hd
  intro H locs ls hP hS hL
  exact lv_lmul he hb hd (kk H locs ls hP hS hL)
theorem Ew.lcmp {x z : Int64} (hx : Cx G y d C) (hd : Dc y.2.1 pc (.lcmp) 1 npc) (kk : Ew G C V npc l (.int (lg_cmp x z) :: st)) : Ew G C V pc l (.long z :: .long x :: st) := by
  obtain ⟨he, hb, hown, ht, -⟩ := hx; obtain ⟨hd, rfl⟩ := hd
  intro H locs ls hP hS hL
  exact W.lcmp he hb hd (kk H locs ls hP hS hL)
theorem Ew.i2l {x : Int32} (hx : Cx G y d C) (hd : Dc y.2.1 pc (.i2l) 1 npc) (kk : Ew G C V npc l (.long x.toInt64 :: st)) : Ew G C V pc l (.int x :: st) := by
  obtain ⟨he, hb, hown, ht, -⟩ := hx; obtain ⟨hd, rfl⟩ := hd
  intro H locs ls hP hS hL
  exact lv_i2l he hb hd rfl (kk H locs ls hP hS hL)
theorem Ew.ior {x z : Int32} (hx : Cx G y d C) (hd : Dc y.2.1 pc (.ior) 1 npc) (kk : Ew G C V npc l (.int (x ||| z) :: st)) : Ew G C V pc l (.int z :: .int x :: st) := by
  obtain ⟨he, hb, hown, ht, -⟩ := hx; obtain ⟨hd, rfl⟩ := hd
  intro H locs ls hP hS hL
  exact lv_ior he hb hd (kk H locs ls hP hS hL)
theorem Ew.irem {x z : Int32} (hx : Cx G y d C) (hd : Dc y.2.1 pc (.irem) 1 npc) (hz : ¬ z = 0) (kk : Ew G C V npc l (.int (x - x / z * z) :: st)) : Ew G C V pc l (.int z :: .int x :: st) := by
  obtain ⟨he, hb, hown, ht, -⟩ := hx; obtain ⟨hd, rfl⟩ := hd
  intro H locs ls hP hS hL
  exact lv_irem he hb hd hz (kk H locs ls hP hS hL)
theorem Ew.ldc2 {ix : Nat} {v : Int64} (hx : Cx G y d C) (hd : Dc y.2.1 pc (.ldc2_w ix) 3 npc) (hm : Cond.constantLong y.1.cls ix v ∈ Big) (kk : Ew G C V npc l (.long v :: st)) : Ew G C V pc l st := by
  obtain ⟨he, hb, hown, ht, -⟩ := hx; obtain ⟨hd, rfl⟩ := hd
  intro H locs ls hP hS hL
  exact lv_ldc2 he hb hown (ht _ hm) hd (kk H locs ls hP hS hL)
theorem Ew.lload_n {k : Fin 4} {x : Int64} (hx : Cx G y d C) (hd : Dc y.2.1 pc (.lload_n k) 1 npc) (hl : l[(k : Nat)]? = some (some (.long x))) (kk : Ew G C V npc l (.long x :: st)) : Ew G C V pc l st := by
  obtain ⟨he, hb, -⟩ := hx; obtain ⟨hd, rfl⟩ := hd
  intro H locs ls hP hS hL
  exact lv_lload_n he hb hd rfl (hL.2.2 _ _ hl) (kk H locs ls hP hS hL)
theorem Ew.lload {k : Nat} {x : Int64} (hx : Cx G y d C) (hd : Dc y.2.1 pc (.lload k) 2 npc) (hl : l[k]? = some (some (.long x))) (kk : Ew G C V npc l (.long x :: st)) : Ew G C V pc l st := by
  obtain ⟨he, hb, -⟩ := hx; obtain ⟨hd, rfl⟩ := hd
  intro H locs ls hP hS hL
  exact lv_lload he hb hd (hL.2.2 _ _ hl) (kk H locs ls hP hS hL)
theorem Ew.istoreL_n {k : Fin 4} {x : Int32} (hx : Cx G y d C) (hd : Dc y.2.1 pc (.istore_n k) 1 npc) (hk : (k : Nat) < y.2.2.1) (hc : pv1 l (k : Nat) = true) (kk : Ew G C V npc (l.set (k : Nat) (some (.int x))) st) : Ew G C V pc l (.int x :: st) := by
  obtain ⟨he, hb, -, -, -, -, -, -, -, hm, -⟩ := hx; obtain ⟨hd, rfl⟩ := hd
  intro H locs ls hP hS hL
  exact lv_istore_n he hb hd rfl (lvO_has hL) (by rw [hm]; exact hk) rfl (fun ls' h => kk H locs ls' hP hS (lvO_backL (fun _ q => q) hc h))
theorem Ew.istoreL {k : Nat} {x : Int32} (hx : Cx G y d C) (hd : Dc y.2.1 pc (.istore k) 2 npc) (hk : k < y.2.2.1) (hc : pv1 l k = true) (kk : Ew G C V npc (l.set k (some (.int x))) st) : Ew G C V pc l (.int x :: st) := by
  obtain ⟨he, hb, -, -, -, -, -, -, -, hm, -⟩ := hx; obtain ⟨hd, rfl⟩ := hd
  intro H locs ls hP hS hL
  exact lv_istore he hb hd (lvO_has hL) (by rw [hm]; exact hk) rfl (fun ls' h => kk H locs ls' hP hS (lvO_backL (fun _ q => q) hc h))
theorem Ew.astoreL_n {k : Fin 4} {x : Nat} (hx : Cx G y d C) (hd : Dc y.2.1 pc (.astore_n k) 1 npc) (hk : (k : Nat) < y.2.2.1) (hc : pv1 l (k : Nat) = true) (kk : Ew G C V npc (l.set (k : Nat) (some (.ref x))) st) : Ew G C V pc l (.ref x :: st) := by
  obtain ⟨he, hb, -, -, -, -, -, -, -, hm, -⟩ := hx; obtain ⟨hd, rfl⟩ := hd
  intro H locs ls hP hS hL
  exact lv_astore_n he hb hd rfl (lvO_has hL) (by rw [hm]; exact hk) rfl (fun ls' h => kk H locs ls' hP hS (lvO_backL (fun _ q => q) hc h))
theorem Ew.astoreL {k : Nat} {x : Nat} (hx : Cx G y d C) (hd : Dc y.2.1 pc (.astore k) 2 npc) (hk : k < y.2.2.1) (hc : pv1 l k = true) (kk : Ew G C V npc (l.set k (some (.ref x))) st) : Ew G C V pc l (.ref x :: st) := by
  obtain ⟨he, hb, -, -, -, -, -, -, -, hm, -⟩ := hx; obtain ⟨hd, rfl⟩ := hd
  intro H locs ls hP hS hL
  exact lv_astore he hb hd (lvO_has hL) (by rw [hm]; exact hk) rfl (fun ls' h => kk H locs ls' hP hS (lvO_backL (fun _ q => q) hc h))
theorem Ew.lstore_n {k : Fin 4} {x : Int64} (hx : Cx G y d C) (hd : Dc y.2.1 pc (.lstore_n k) 1 npc) (hk : (k : Nat) + 1 < y.2.2.1) (hc : pv1 l (k : Nat) = true) (h1 : l[(k : Nat) + 1]? = some none) (kk : Ew G C V npc (l.set (k : Nat) (some (.long x))) st) : Ew G C V pc l (.long x :: st) := by
  obtain ⟨he, hb, -, -, -, -, -, -, -, hm, -⟩ := hx; obtain ⟨hd, rfl⟩ := hd
  intro H locs ls hP hS hL
  exact lv_lstore_n he hb hd rfl (lvO_has hL) (by rw [hm]; exact hk) rfl (fun ls' h => kk H locs ls' hP hS (lvO_backL2 (fun _ q => q) hc h1 h))
theorem Ew.lstore {k : Nat} {x : Int64} (hx : Cx G y d C) (hd : Dc y.2.1 pc (.lstore k) 2 npc) (hk : k + 1 < y.2.2.1) (hc : pv1 l k = true) (h1 : l[k + 1]? = some none) (kk : Ew G C V npc (l.set k (some (.long x))) st) : Ew G C V pc l (.long x :: st) := by
  obtain ⟨he, hb, -, -, -, -, -, -, -, hm, -⟩ := hx; obtain ⟨hd, rfl⟩ := hd
  intro H locs ls hP hS hL
  exact lv_lstore he hb hd (lvO_has hL) (by rw [hm]; exact hk) rfl (fun ls' h => kk H locs ls' hP hS (lvO_backL2 (fun _ q => q) hc h1 h))
theorem Ew.iincL {k : Nat} {n : Int} {x v : Int32} (hx : Cx G y d C) (hd : Dc y.2.1 pc (.iinc k n) 3 npc) (hl : l[k]? = some (some (.int x))) (hv : x + Int32.ofInt n = v) (hk : k < y.2.2.1) (hc : pv1 l k = true) (kk : Ew G C V npc (l.set k (some (.int v))) st) : Ew G C V pc l st := by
  obtain ⟨he, hb, -, -, -, -, -, -, -, hm, -⟩ := hx; obtain ⟨hd, rfl⟩ := hd
  intro H locs ls hP hS hL
  exact lv_iinc he hb hd (lvO_has1 hL hl) (k := 0) rfl hv (by rw [hm]; exact hk) rfl (fun ls' h => kk H locs ls' hP hS (lvO_backL lv0_cons hc h))
theorem Ew.lret {Post : PT} {v : Int64} (hx : Cx G y d C) (hq : Cq G Post C) (hd : Dc y.2.1 pc (.lreturn) 1 npc) (hr : y.2.2.2 = some .long) (hp : Post (some (.long v)) V) : Ew G C V pc l [.long v] := by
  obtain ⟨he, hb, ho, ht, hK, hX, hz, hlk, hrt, -⟩ := hx; obtain ⟨hd, rfl⟩ := hd
  obtain ⟨e1, e2, e3⟩ := hq
  intro H locs ls hP hS hL
  rw [e1, e2, e3]
  exact W.lret he hb (hrt.trans hr) (fun t ht' hW => ⟨⟨_, V, rfl, hp, by rw [ht']; exact hP, va_K.moved hW.alike hK, by rw [ht']; exact (hX.kept hS.2.1).warm hW, by rw [ht']; exact Nat.le_trans hz hS.1⟩, hS.F ht'⟩) hS.2.2 hd hlk
theorem Ew.wk {l' : List (Option Value)} (h : lsub l' l) (kk : Ew G C V pc l' st) : Ew G C V pc l st := by
  intro H locs ls hP hS hL
  exact kk H locs ls hP hS ⟨hL.1, hL.2.1, fun i v q => hL.2.2 i v (lsub_ok l' l h i v q)⟩
theorem Ew.xsld {i : Nat} {x : Int32} (hx : Cx G y d C) (hd : Dc y.2.1 pc (.iaload) 1 npc) (hxi : x = nI i) (hi : i < xL G) (kk : Ew G C V npc l (.int (xX G i) :: st)) : Ew G C V pc l (.int x :: .ref (xB G) :: st) := by
  obtain ⟨he, hb, -, -, -, ⟨⟨h1, h2, h3, h4⟩, -⟩, -⟩ := hx; obtain ⟨hd, rfl⟩ := hd
  subst hxi
  intro H locs ls hP hS hL
  refine va_sld he hb h1 h2 h3 hS (vp_in_nI hi (by omega)) hd ?_
  rw [nI_clamp (by omega)]
  exact kk H locs ls hP hS hL
theorem Ew.xslen (hx : Cx G y d C) (hd : Dc y.2.1 pc (.arraylength) 1 npc) (kk : Ew G C V npc l (.int (nI (xL G)) :: st)) : Ew G C V pc l (.ref (xB G) :: st) := by
  obtain ⟨he, hb, -, -, -, ⟨⟨h1, h2, h3, h4⟩, -⟩, -⟩ := hx; obtain ⟨hd, rfl⟩ := hd
  intro H locs ls hP hS hL
  exact va_slen he hb h1 h2 h3 hS hd (kk H locs ls hP hS hL)
theorem Cx.xlen (hx : Cx G y d C) : xL G ≤ 260 := hx.2.2.2.2.2.1.1.2.2.2
end LG
theorem kL_RL_8 : Cond.constantLong RL 8 (3) ∈ Big := inB3 52 rfl rfl
theorem kL_RL_10 : Cond.constantLong RL 10 (31) ∈ Big := inB3 53 rfl rfl
theorem kL_RL_18 : Cond.constantLong RL 18 (7) ∈ Big := inB3 54 rfl rfl
