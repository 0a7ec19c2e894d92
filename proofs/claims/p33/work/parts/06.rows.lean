theorem nxt {G : GT} {C : CT} {V : Mm} {pc npc : Nat} {l : List (Option Value)} {st : List Value} (h : pc = npc) (k : Ew G C V npc l st) : Ew G C V pc l st := h ▸ k
noncomputable def b2i (P : Prop) : Int32 := @ite _ P (Classical.propDecidable P) 1 0
theorem b2i_t {P : Prop} (h : P) : b2i P = 1 := by unfold b2i; rw [if_pos h]
theorem b2i_f {P : Prop} (h : ¬ P) : b2i P = 0 := by unfold b2i; rw [if_neg h]
theorem b2i_01 (P : Prop) : b2i P = 0 ∨ b2i P = 1 := by
  by_cases h : P
  · exact Or.inr (b2i_t h)
  · exact Or.inl (b2i_f h)
theorem b2i_congr {P Q : Prop} (h : P ↔ Q) : b2i P = b2i Q := by rw [propext h]
/-! the list of locals as the kit has it -/
def asc (l : List (Option Value)) : List (Nat × Value) := l.zipIdx.filterMap (fun q => q.1.map (fun v => (q.2, v)))
theorem asc_mem {l : List (Option Value)} {i : Nat} {v : Value} : (i, v) ∈ asc l ↔ l[i]? = some (some v) := by
  unfold asc
  rw [List.mem_filterMap]
  constructor
  · rintro ⟨⟨o, j⟩, hm, he⟩
    rw [List.mem_zipIdx_iff_getElem?] at hm
    cases o with
    | none => cases he
    | some w => cases he; exact hm
  · intro h
    exact ⟨(some v, i), List.mem_zipIdx_iff_getElem?.mpr h, rfl⟩
theorem lvO_has {ls : Array Slot} {n : Nat} {l : List (Option Value)} (h : lvO ls n l) : lv_has ls n (asc l) := ⟨h.1, h.2.1, fun q hq => h.2.2 q.1 q.2 (asc_mem.mp hq)⟩
theorem lvO_has1 {ls : Array Slot} {n i : Nat} {v : Value} {l : List (Option Value)} (h : lvO ls n l) (hv : l[i]? = some (some v)) : lv_has ls n ((i, v) :: asc l) := ⟨h.1, h.2.1, fun q hq => by
  rcases List.mem_cons.mp hq with rfl | hq
  · exact h.2.2 _ _ hv
  · exact h.2.2 q.1 q.2 (asc_mem.mp hq)⟩
def cat1 (l : List (Option Value)) : Bool := l.all (fun o => match o with | some v => v.category == 1 | none => true)
theorem lvO_back {ls : Array Slot} {n i : Nat} {v : Value} {l : List (Option Value)} {lv : List (Nat × Value)} (hsub : ∀ q ∈ asc l, q ∈ lv) (hc : cat1 l = true) (h : lv_has ls n ((i, v) :: lv.filter (fun q => !(q.1 == i) && !(q.1 + 1 == i && q.2.category == 2)))) : lvO ls n (l.set i (some v)) := by
  refine ⟨h.1, h.2.1, fun j u hj => ?_⟩
  by_cases hij : j = i
  · subst hij
    have hl : j < l.length := by
      have := (List.getElem?_eq_some_iff.mp hj).1
      simpa using this
    rw [List.getElem?_set_self hl] at hj
    have hvu := Option.some.inj (Option.some.inj hj)
    rw [← hvu]
    exact h.2.2 (j, v) List.mem_cons_self
  · rw [List.getElem?_set_ne (Ne.symm hij)] at hj
    refine h.2.2 (j, u) (List.mem_cons_of_mem _ (List.mem_filter.mpr ⟨hsub _ (asc_mem.mpr hj), ?_⟩))
    have h1 : u.category = 1 := by
      have := List.all_eq_true.mp hc _ (List.mem_of_getElem? hj)
      simpa using this
    simp [hij, h1]
theorem lv0_cons {l : List (Option Value)} {a : Nat × Value} : ∀ q ∈ asc l, q ∈ (a :: asc l) := fun _ h => List.mem_cons_of_mem _ h
section ROWS
variable {G : GT} {C : CT} {V : Mm} {y : MT} {d pc npc : Nat} {l : List (Option Value)} {st : List Value}
theorem Ew.iconst {n : Int} {v : Int32} (hx : Cx G y d C) (hd : Dc y.2.1 pc (.iconst n) 1 npc) (hv : Int32.ofInt n = v) (kk : Ew G C V npc l (.int v :: st)) : Ew G C V pc l st := by
  obtain ⟨he, hb, -⟩ := hx; obtain ⟨hd, rfl⟩ := hd
  intro H locs ls hP hS hL
  exact lv_iconst he hb hd hv (kk H locs ls hP hS hL)
theorem Ew.bipush {n : Int} {v : Int32} (hx : Cx G y d C) (hd : Dc y.2.1 pc (.bipush n) 2 npc) (hv : (Int8.ofInt n).toInt32 = v) (kk : Ew G C V npc l (.int v :: st)) : Ew G C V pc l st := by
  obtain ⟨he, hb, -⟩ := hx; obtain ⟨hd, rfl⟩ := hd
  intro H locs ls hP hS hL
  exact lv_bipush he hb hd hv (kk H locs ls hP hS hL)
theorem Ew.sipush {n : Int} {v : Int32} (hx : Cx G y d C) (hd : Dc y.2.1 pc (.sipush n) 3 npc) (hv : (Int16.ofInt n).toInt32 = v) (kk : Ew G C V npc l (.int v :: st)) : Ew G C V pc l st := by
  obtain ⟨he, hb, -⟩ := hx; obtain ⟨hd, rfl⟩ := hd
  intro H locs ls hP hS hL
  exact lv_sipush he hb hd hv (kk H locs ls hP hS hL)
theorem Ew.ldc {ix : Nat} {v : Int32} (hx : Cx G y d C) (hd : Dc y.2.1 pc (.ldc ix) 2 npc) (hv : Cond.constant y.1.cls ix v ∈ Big) (kk : Ew G C V npc l (.int v :: st)) : Ew G C V pc l st := by
  obtain ⟨he, hb, ho, ht, -⟩ := hx; obtain ⟨hd, rfl⟩ := hd
  intro H locs ls hP hS hL
  exact lv_ldc he hb ho (ht _ hv) hd (kk H locs ls hP hS hL)
theorem Ew.iload_n {k : Fin 4} {x : Int32} (hx : Cx G y d C) (hd : Dc y.2.1 pc (.iload_n k) 1 npc) (hl : l[(k : Nat)]? = some (some (.int x))) (kk : Ew G C V npc l (.int x :: st)) : Ew G C V pc l st := by
  obtain ⟨he, hb, -⟩ := hx; obtain ⟨hd, rfl⟩ := hd
  intro H locs ls hP hS hL
  exact lv_iload_n he hb hd rfl (hL.2.2 _ _ hl) (kk H locs ls hP hS hL)
theorem Ew.iload {k : Nat} {x : Int32} (hx : Cx G y d C) (hd : Dc y.2.1 pc (.iload k) 2 npc) (hl : l[k]? = some (some (.int x))) (kk : Ew G C V npc l (.int x :: st)) : Ew G C V pc l st := by
  obtain ⟨he, hb, -⟩ := hx; obtain ⟨hd, rfl⟩ := hd
  intro H locs ls hP hS hL
  exact lv_iload he hb hd (hL.2.2 _ _ hl) (kk H locs ls hP hS hL)
theorem Ew.aload_n {k : Fin 4} {x : Nat} (hx : Cx G y d C) (hd : Dc y.2.1 pc (.aload_n k) 1 npc) (hl : l[(k : Nat)]? = some (some (.ref x))) (kk : Ew G C V npc l (.ref x :: st)) : Ew G C V pc l st := by
  obtain ⟨he, hb, -⟩ := hx; obtain ⟨hd, rfl⟩ := hd
  intro H locs ls hP hS hL
  exact lv_aload_n he hb hd rfl (hL.2.2 _ _ hl) (kk H locs ls hP hS hL)
theorem Ew.aload {k : Nat} {x : Nat} (hx : Cx G y d C) (hd : Dc y.2.1 pc (.aload k) 2 npc) (hl : l[k]? = some (some (.ref x))) (kk : Ew G C V npc l (.ref x :: st)) : Ew G C V pc l st := by
  obtain ⟨he, hb, -⟩ := hx; obtain ⟨hd, rfl⟩ := hd
  intro H locs ls hP hS hL
  exact lv_aload he hb hd (hL.2.2 _ _ hl) (kk H locs ls hP hS hL)
theorem Ew.istore_n {k : Fin 4} {x : Int32} (hx : Cx G y d C) (hd : Dc y.2.1 pc (.istore_n k) 1 npc) (hk : (k : Nat) < y.2.2.1) (hc : cat1 l = true) (kk : Ew G C V npc (l.set (k : Nat) (some (.int x))) st) : Ew G C V pc l (.int x :: st) := by
  obtain ⟨he, hb, -, -, -, -, -, -, -, hm, -⟩ := hx; obtain ⟨hd, rfl⟩ := hd
  intro H locs ls hP hS hL
  exact lv_istore_n he hb hd rfl (lvO_has hL) (by rw [hm]; exact hk) rfl (fun ls' h => kk H locs ls' hP hS (lvO_back (fun _ q => q) hc h))
theorem Ew.istore {k : Nat} {x : Int32} (hx : Cx G y d C) (hd : Dc y.2.1 pc (.istore k) 2 npc) (hk : k < y.2.2.1) (hc : cat1 l = true) (kk : Ew G C V npc (l.set k (some (.int x))) st) : Ew G C V pc l (.int x :: st) := by
  obtain ⟨he, hb, -, -, -, -, -, -, -, hm, -⟩ := hx; obtain ⟨hd, rfl⟩ := hd
  intro H locs ls hP hS hL
  exact lv_istore he hb hd (lvO_has hL) (by rw [hm]; exact hk) rfl (fun ls' h => kk H locs ls' hP hS (lvO_back (fun _ q => q) hc h))
theorem Ew.astore_n {k : Fin 4} {x : Nat} (hx : Cx G y d C) (hd : Dc y.2.1 pc (.astore_n k) 1 npc) (hk : (k : Nat) < y.2.2.1) (hc : cat1 l = true) (kk : Ew G C V npc (l.set (k : Nat) (some (.ref x))) st) : Ew G C V pc l (.ref x :: st) := by
  obtain ⟨he, hb, -, -, -, -, -, -, -, hm, -⟩ := hx; obtain ⟨hd, rfl⟩ := hd
  intro H locs ls hP hS hL
  exact lv_astore_n he hb hd rfl (lvO_has hL) (by rw [hm]; exact hk) rfl (fun ls' h => kk H locs ls' hP hS (lvO_back (fun _ q => q) hc h))
theorem Ew.astore {k : Nat} {x : Nat} (hx : Cx G y d C) (hd : Dc y.2.1 pc (.astore k) 2 npc) (hk : k < y.2.2.1) (hc : cat1 l = true) (kk : Ew G C V npc (l.set k (some (.ref x))) st) : Ew G C V pc l (.ref x :: st) := by
  obtain ⟨he, hb, -, -, -, -, -, -, -, hm, -⟩ := hx; obtain ⟨hd, rfl⟩ := hd
  intro H locs ls hP hS hL
  exact lv_astore he hb hd (lvO_has hL) (by rw [hm]; exact hk) rfl (fun ls' h => kk H locs ls' hP hS (lvO_back (fun _ q => q) hc h))
theorem Ew.iinc {k : Nat} {n : Int} {x v : Int32} (hx : Cx G y d C) (hd : Dc y.2.1 pc (.iinc k n) 3 npc) (hl : l[k]? = some (some (.int x))) (hv : x + Int32.ofInt n = v) (hk : k < y.2.2.1) (hc : cat1 l = true) (kk : Ew G C V npc (l.set k (some (.int v))) st) : Ew G C V pc l st := by
  obtain ⟨he, hb, -, -, -, -, -, -, -, hm, -⟩ := hx; obtain ⟨hd, rfl⟩ := hd
  intro H locs ls hP hS hL
  exact lv_iinc he hb hd (lvO_has1 hL hl) (k := 0) rfl hv (by rw [hm]; exact hk) rfl (fun ls' h => kk H locs ls' hP hS (lvO_back lv0_cons hc h))
theorem Ew.iadd {x z : Int32} (hx : Cx G y d C) (hd : Dc y.2.1 pc (.iadd) 1 npc) (kk : Ew G C V npc l (.int (x + z) :: st)) : Ew G C V pc l (.int z :: .int x :: st) := by
  obtain ⟨he, hb, -⟩ := hx; obtain ⟨hd, rfl⟩ := hd
  intro H locs ls hP hS hL
  exact lv_iadd he hb hd (kk H locs ls hP hS hL)
theorem Ew.iadd' {x z r : Int32} (hx : Cx G y d C) (hd : Dc y.2.1 pc (.iadd) 1 npc) (hr : x + z = r) (kk : Ew G C V npc l (.int r :: st)) : Ew G C V pc l (.int z :: .int x :: st) := by
  subst hr
  exact Ew.iadd hx hd kk
theorem Ew.isub {x z : Int32} (hx : Cx G y d C) (hd : Dc y.2.1 pc (.isub) 1 npc) (kk : Ew G C V npc l (.int (x - z) :: st)) : Ew G C V pc l (.int z :: .int x :: st) := by
  obtain ⟨he, hb, -⟩ := hx; obtain ⟨hd, rfl⟩ := hd
  intro H locs ls hP hS hL
  exact lv_isub he hb hd (kk H locs ls hP hS hL)
theorem Ew.isub' {x z r : Int32} (hx : Cx G y d C) (hd : Dc y.2.1 pc (.isub) 1 npc) (hr : x - z = r) (kk : Ew G C V npc l (.int r :: st)) : Ew G C V pc l (.int z :: .int x :: st) := by
  subst hr
  exact Ew.isub hx hd kk
theorem Ew.imul {x z : Int32} (hx : Cx G y d C) (hd : Dc y.2.1 pc (.imul) 1 npc) (kk : Ew G C V npc l (.int (x * z) :: st)) : Ew G C V pc l (.int z :: .int x :: st) := by
  obtain ⟨he, hb, -⟩ := hx; obtain ⟨hd, rfl⟩ := hd
  intro H locs ls hP hS hL
  exact lv_imul he hb hd (kk H locs ls hP hS hL)
theorem Ew.imul' {x z r : Int32} (hx : Cx G y d C) (hd : Dc y.2.1 pc (.imul) 1 npc) (hr : x * z = r) (kk : Ew G C V npc l (.int r :: st)) : Ew G C V pc l (.int z :: .int x :: st) := by
  subst hr
  exact Ew.imul hx hd kk
theorem Ew.iand {x z : Int32} (hx : Cx G y d C) (hd : Dc y.2.1 pc (.iand) 1 npc) (kk : Ew G C V npc l (.int (x &&& z) :: st)) : Ew G C V pc l (.int z :: .int x :: st) := by
  obtain ⟨he, hb, -⟩ := hx; obtain ⟨hd, rfl⟩ := hd
  intro H locs ls hP hS hL
  exact lv_iand he hb hd (kk H locs ls hP hS hL)
theorem Ew.iand' {x z r : Int32} (hx : Cx G y d C) (hd : Dc y.2.1 pc (.iand) 1 npc) (hr : x &&& z = r) (kk : Ew G C V npc l (.int r :: st)) : Ew G C V pc l (.int z :: .int x :: st) := by
  subst hr
  exact Ew.iand hx hd kk
theorem Ew.ishr {x z : Int32} (hx : Cx G y d C) (hd : Dc y.2.1 pc (.ishr) 1 npc) (kk : Ew G C V npc l (.int (x >>> (z &&& 31)) :: st)) : Ew G C V pc l (.int z :: .int x :: st) := by
  obtain ⟨he, hb, -⟩ := hx; obtain ⟨hd, rfl⟩ := hd
  intro H locs ls hP hS hL
  exact lv_ishr he hb hd (kk H locs ls hP hS hL)
theorem Ew.ishr' {x z r : Int32} (hx : Cx G y d C) (hd : Dc y.2.1 pc (.ishr) 1 npc) (hr : x >>> (z &&& 31) = r) (kk : Ew G C V npc l (.int r :: st)) : Ew G C V pc l (.int z :: .int x :: st) := by
  subst hr
  exact Ew.ishr hx hd kk
theorem Ew.idiv {x z : Int32} (hx : Cx G y d C) (hd : Dc y.2.1 pc (.idiv) 1 npc) (hz : ¬ z = 0) (kk : Ew G C V npc l (.int (x / z) :: st)) : Ew G C V pc l (.int z :: .int x :: st) := by
  obtain ⟨he, hb, -⟩ := hx; obtain ⟨hd, rfl⟩ := hd
  intro H locs ls hP hS hL
  exact lv_idiv he hb hd hz (kk H locs ls hP hS hL)
theorem Ew.ineg {x : Int32} (hx : Cx G y d C) (hd : Dc y.2.1 pc (.ineg) 1 npc) (kk : Ew G C V npc l (.int (-x) :: st)) : Ew G C V pc l (.int x :: st) := by
  obtain ⟨he, hb, -⟩ := hx; obtain ⟨hd, rfl⟩ := hd
  intro H locs ls hP hS hL
  exact lv_ineg he hb hd (kk H locs ls hP hS hL)
theorem Ew.i2c {x v : Int32} (hx : Cx G y d C) (hd : Dc y.2.1 pc (.i2c) 1 npc) (hv : (x.toUInt32 % 65536).toInt32 = v) (kk : Ew G C V npc l (.int v :: st)) : Ew G C V pc l (.int x :: st) := by
  obtain ⟨he, hb, -⟩ := hx; obtain ⟨hd, rfl⟩ := hd
  intro H locs ls hP hS hL
  exact lv_i2c he hb hd hv (kk H locs ls hP hS hL)
theorem Ew.dup {v : Value} (hx : Cx G y d C) (hd : Dc y.2.1 pc (.dup) 1 npc) (hv : v.category = 1) (kk : Ew G C V npc l (v :: v :: st)) : Ew G C V pc l (v :: st) := by
  obtain ⟨he, hb, -⟩ := hx; obtain ⟨hd, rfl⟩ := hd
  intro H locs ls hP hS hL
  exact lv_dup he hb hd hv (kk H locs ls hP hS hL)
theorem Ew.dup2 {v w : Value} (hx : Cx G y d C) (hd : Dc y.2.1 pc (.dup2) 1 npc) (hv : v.category = 1) (hw : w.category = 1) (kk : Ew G C V npc l (v :: w :: v :: w :: st)) : Ew G C V pc l (v :: w :: st) := by
  obtain ⟨he, hb, -⟩ := hx; obtain ⟨hd, rfl⟩ := hd
  intro H locs ls hP hS hL
  exact lv_dup2_11 he hb hd hv hw (kk H locs ls hP hS hL)
theorem Ew.pop {v : Value} (hx : Cx G y d C) (hd : Dc y.2.1 pc (.pop) 1 npc) (hv : v.category = 1) (kk : Ew G C V npc l st) : Ew G C V pc l (v :: st) := by
  obtain ⟨he, hb, -⟩ := hx; obtain ⟨hd, rfl⟩ := hd
  intro H locs ls hP hS hL
  exact lv_pop he hb hd hv (kk H locs ls hP hS hL)
theorem Ew.goto {off : Int} {tgt : Nat} (hx : Cx G y d C) (hd : Dc y.2.1 pc (.goto off) 3 npc) (ht : (pc : Int) + off = (tgt : Int)) (kk : Ew G C V tgt l st) : Ew G C V pc l st := by
  obtain ⟨he, hb, -⟩ := hx; obtain ⟨hd, rfl⟩ := hd
  intro H locs ls hP hS hL
  exact lv_goto he hb hd ht (kk H locs ls hP hS hL)
theorem Ew.icmp_eq {x z : Int32} {off : Int} {tgt : Nat} (hx : Cx G y d C) (hd : Dc y.2.1 pc (.if_icmp .eq off) 3 npc) (ht : (pc : Int) + off = (tgt : Int)) (kt : x = z → Ew G C V tgt l st) (kf : ¬ x = z → Ew G C V npc l st) : Ew G C V pc l (.int z :: .int x :: st) := by
  obtain ⟨he, hb, -⟩ := hx; obtain ⟨hd, rfl⟩ := hd
  intro H locs ls hP hS hL
  exact lv_icmp_eq he hb hd ht (fun h => kt h H locs ls hP hS hL) (fun h => kf h H locs ls hP hS hL)
theorem Ew.icmp_eq_t {x z : Int32} {off : Int} {tgt : Nat} (hx : Cx G y d C) (hd : Dc y.2.1 pc (.if_icmp .eq off) 3 npc) (ht : (pc : Int) + off = (tgt : Int)) (h : x = z) (kt : Ew G C V tgt l st) : Ew G C V pc l (.int z :: .int x :: st) := Ew.icmp_eq hx hd ht (fun _ => kt) (fun q => absurd h q)
theorem Ew.icmp_eq_f {x z : Int32} {off : Int} {tgt : Nat} (hx : Cx G y d C) (hd : Dc y.2.1 pc (.if_icmp .eq off) 3 npc) (ht : (pc : Int) + off = (tgt : Int)) (h : ¬ x = z) (kf : Ew G C V npc l st) : Ew G C V pc l (.int z :: .int x :: st) := Ew.icmp_eq hx hd ht (fun q => absurd q h) (fun _ => kf)
theorem Ew.if_eq {x : Int32} {off : Int} {tgt : Nat} (hx : Cx G y d C) (hd : Dc y.2.1 pc (.ifCond .eq off) 3 npc) (ht : (pc : Int) + off = (tgt : Int)) (kt : x = 0 → Ew G C V tgt l st) (kf : ¬ x = 0 → Ew G C V npc l st) : Ew G C V pc l (.int x :: st) := by
  obtain ⟨he, hb, -⟩ := hx; obtain ⟨hd, rfl⟩ := hd
  intro H locs ls hP hS hL
  exact lv_if_eq he hb hd ht (fun h => kt h H locs ls hP hS hL) (fun h => kf h H locs ls hP hS hL)
theorem Ew.if_eq_t {x : Int32} {off : Int} {tgt : Nat} (hx : Cx G y d C) (hd : Dc y.2.1 pc (.ifCond .eq off) 3 npc) (ht : (pc : Int) + off = (tgt : Int)) (h : x = 0) (kt : Ew G C V tgt l st) : Ew G C V pc l (.int x :: st) := Ew.if_eq hx hd ht (fun _ => kt) (fun q => absurd h q)
theorem Ew.if_eq_f {x : Int32} {off : Int} {tgt : Nat} (hx : Cx G y d C) (hd : Dc y.2.1 pc (.ifCond .eq off) 3 npc) (ht : (pc : Int) + off = (tgt : Int)) (h : ¬ x = 0) (kf : Ew G C V npc l st) : Ew G C V pc l (.int x :: st) := Ew.if_eq hx hd ht (fun q => absurd q h) (fun _ => kf)
theorem Ew.icmp_ne {x z : Int32} {off : Int} {tgt : Nat} (hx : Cx G y d C) (hd : Dc y.2.1 pc (.if_icmp .ne off) 3 npc) (ht : (pc : Int) + off = (tgt : Int)) (kt : ¬ x = z → Ew G C V tgt l st) (kf : x = z → Ew G C V npc l st) : Ew G C V pc l (.int z :: .int x :: st) := by
  obtain ⟨he, hb, -⟩ := hx; obtain ⟨hd, rfl⟩ := hd
  intro H locs ls hP hS hL
  exact lv_icmp_ne he hb hd ht (fun h => kt h H locs ls hP hS hL) (fun h => kf h H locs ls hP hS hL)
theorem Ew.icmp_ne_t {x z : Int32} {off : Int} {tgt : Nat} (hx : Cx G y d C) (hd : Dc y.2.1 pc (.if_icmp .ne off) 3 npc) (ht : (pc : Int) + off = (tgt : Int)) (h : ¬ x = z) (kt : Ew G C V tgt l st) : Ew G C V pc l (.int z :: .int x :: st) := Ew.icmp_ne hx hd ht (fun _ => kt) (fun q => absurd q h)
theorem Ew.icmp_ne_f {x z : Int32} {off : Int} {tgt : Nat} (hx : Cx G y d C) (hd : Dc y.2.1 pc (.if_icmp .ne off) 3 npc) (ht : (pc : Int) + off = (tgt : Int)) (h : x = z) (kf : Ew G C V npc l st) : Ew G C V pc l (.int z :: .int x :: st) := Ew.icmp_ne hx hd ht (fun q => absurd h q) (fun _ => kf)
theorem Ew.if_ne {x : Int32} {off : Int} {tgt : Nat} (hx : Cx G y d C) (hd : Dc y.2.1 pc (.ifCond .ne off) 3 npc) (ht : (pc : Int) + off = (tgt : Int)) (kt : ¬ x = 0 → Ew G C V tgt l st) (kf : x = 0 → Ew G C V npc l st) : Ew G C V pc l (.int x :: st) := by
  obtain ⟨he, hb, -⟩ := hx; obtain ⟨hd, rfl⟩ := hd
  intro H locs ls hP hS hL
  exact lv_if_ne he hb hd ht (fun h => kt h H locs ls hP hS hL) (fun h => kf h H locs ls hP hS hL)
theorem Ew.if_ne_t {x : Int32} {off : Int} {tgt : Nat} (hx : Cx G y d C) (hd : Dc y.2.1 pc (.ifCond .ne off) 3 npc) (ht : (pc : Int) + off = (tgt : Int)) (h : ¬ x = 0) (kt : Ew G C V tgt l st) : Ew G C V pc l (.int x :: st) := Ew.if_ne hx hd ht (fun _ => kt) (fun q => absurd q h)
theorem Ew.if_ne_f {x : Int32} {off : Int} {tgt : Nat} (hx : Cx G y d C) (hd : Dc y.2.1 pc (.ifCond .ne off) 3 npc) (ht : (pc : Int) + off = (tgt : Int)) (h : x = 0) (kf : Ew G C V npc l st) : Ew G C V pc l (.int x :: st) := Ew.if_ne hx hd ht (fun q => absurd h q) (fun _ => kf)
theorem Ew.icmp_lt {x z : Int32} {off : Int} {tgt : Nat} (hx : Cx G y d C) (hd : Dc y.2.1 pc (.if_icmp .lt off) 3 npc) (ht : (pc : Int) + off = (tgt : Int)) (kt : x < z → Ew G C V tgt l st) (kf : ¬ x < z → Ew G C V npc l st) : Ew G C V pc l (.int z :: .int x :: st) := by
  obtain ⟨he, hb, -⟩ := hx; obtain ⟨hd, rfl⟩ := hd
  intro H locs ls hP hS hL
  exact lv_icmp_lt he hb hd ht (fun h => kt h H locs ls hP hS hL) (fun h => kf h H locs ls hP hS hL)
theorem Ew.icmp_lt_t {x z : Int32} {off : Int} {tgt : Nat} (hx : Cx G y d C) (hd : Dc y.2.1 pc (.if_icmp .lt off) 3 npc) (ht : (pc : Int) + off = (tgt : Int)) (h : x < z) (kt : Ew G C V tgt l st) : Ew G C V pc l (.int z :: .int x :: st) := Ew.icmp_lt hx hd ht (fun _ => kt) (fun q => absurd h q)
theorem Ew.icmp_lt_f {x z : Int32} {off : Int} {tgt : Nat} (hx : Cx G y d C) (hd : Dc y.2.1 pc (.if_icmp .lt off) 3 npc) (ht : (pc : Int) + off = (tgt : Int)) (h : ¬ x < z) (kf : Ew G C V npc l st) : Ew G C V pc l (.int z :: .int x :: st) := Ew.icmp_lt hx hd ht (fun q => absurd q h) (fun _ => kf)
theorem Ew.if_lt {x : Int32} {off : Int} {tgt : Nat} (hx : Cx G y d C) (hd : Dc y.2.1 pc (.ifCond .lt off) 3 npc) (ht : (pc : Int) + off = (tgt : Int)) (kt : x < 0 → Ew G C V tgt l st) (kf : ¬ x < 0 → Ew G C V npc l st) : Ew G C V pc l (.int x :: st) := by
  obtain ⟨he, hb, -⟩ := hx; obtain ⟨hd, rfl⟩ := hd
  intro H locs ls hP hS hL
  exact lv_if_lt he hb hd ht (fun h => kt h H locs ls hP hS hL) (fun h => kf h H locs ls hP hS hL)
theorem Ew.if_lt_t {x : Int32} {off : Int} {tgt : Nat} (hx : Cx G y d C) (hd : Dc y.2.1 pc (.ifCond .lt off) 3 npc) (ht : (pc : Int) + off = (tgt : Int)) (h : x < 0) (kt : Ew G C V tgt l st) : Ew G C V pc l (.int x :: st) := Ew.if_lt hx hd ht (fun _ => kt) (fun q => absurd h q)
theorem Ew.if_lt_f {x : Int32} {off : Int} {tgt : Nat} (hx : Cx G y d C) (hd : Dc y.2.1 pc (.ifCond .lt off) 3 npc) (ht : (pc : Int) + off = (tgt : Int)) (h : ¬ x < 0) (kf : Ew G C V npc l st) : Ew G C V pc l (.int x :: st) := Ew.if_lt hx hd ht (fun q => absurd q h) (fun _ => kf)
theorem Ew.icmp_ge {x z : Int32} {off : Int} {tgt : Nat} (hx : Cx G y d C) (hd : Dc y.2.1 pc (.if_icmp .ge off) 3 npc) (ht : (pc : Int) + off = (tgt : Int)) (kt : z ≤ x → Ew G C V tgt l st) (kf : ¬ z ≤ x → Ew G C V npc l st) : Ew G C V pc l (.int z :: .int x :: st) := by
  obtain ⟨he, hb, -⟩ := hx; obtain ⟨hd, rfl⟩ := hd
  intro H locs ls hP hS hL
  exact lv_icmp_ge he hb hd ht (fun h => kt h H locs ls hP hS hL) (fun h => kf h H locs ls hP hS hL)
theorem Ew.icmp_ge_t {x z : Int32} {off : Int} {tgt : Nat} (hx : Cx G y d C) (hd : Dc y.2.1 pc (.if_icmp .ge off) 3 npc) (ht : (pc : Int) + off = (tgt : Int)) (h : z ≤ x) (kt : Ew G C V tgt l st) : Ew G C V pc l (.int z :: .int x :: st) := Ew.icmp_ge hx hd ht (fun _ => kt) (fun q => absurd h q)
theorem Ew.icmp_ge_f {x z : Int32} {off : Int} {tgt : Nat} (hx : Cx G y d C) (hd : Dc y.2.1 pc (.if_icmp .ge off) 3 npc) (ht : (pc : Int) + off = (tgt : Int)) (h : ¬ z ≤ x) (kf : Ew G C V npc l st) : Ew G C V pc l (.int z :: .int x :: st) := Ew.icmp_ge hx hd ht (fun q => absurd q h) (fun _ => kf)
theorem Ew.if_ge {x : Int32} {off : Int} {tgt : Nat} (hx : Cx G y d C) (hd : Dc y.2.1 pc (.ifCond .ge off) 3 npc) (ht : (pc : Int) + off = (tgt : Int)) (kt : 0 ≤ x → Ew G C V tgt l st) (kf : ¬ 0 ≤ x → Ew G C V npc l st) : Ew G C V pc l (.int x :: st) := by
  obtain ⟨he, hb, -⟩ := hx; obtain ⟨hd, rfl⟩ := hd
  intro H locs ls hP hS hL
  exact lv_if_ge he hb hd ht (fun h => kt h H locs ls hP hS hL) (fun h => kf h H locs ls hP hS hL)
theorem Ew.if_ge_t {x : Int32} {off : Int} {tgt : Nat} (hx : Cx G y d C) (hd : Dc y.2.1 pc (.ifCond .ge off) 3 npc) (ht : (pc : Int) + off = (tgt : Int)) (h : 0 ≤ x) (kt : Ew G C V tgt l st) : Ew G C V pc l (.int x :: st) := Ew.if_ge hx hd ht (fun _ => kt) (fun q => absurd h q)
theorem Ew.if_ge_f {x : Int32} {off : Int} {tgt : Nat} (hx : Cx G y d C) (hd : Dc y.2.1 pc (.ifCond .ge off) 3 npc) (ht : (pc : Int) + off = (tgt : Int)) (h : ¬ 0 ≤ x) (kf : Ew G C V npc l st) : Ew G C V pc l (.int x :: st) := Ew.if_ge hx hd ht (fun q => absurd q h) (fun _ => kf)
theorem Ew.icmp_gt {x z : Int32} {off : Int} {tgt : Nat} (hx : Cx G y d C) (hd : Dc y.2.1 pc (.if_icmp .gt off) 3 npc) (ht : (pc : Int) + off = (tgt : Int)) (kt : z < x → Ew G C V tgt l st) (kf : ¬ z < x → Ew G C V npc l st) : Ew G C V pc l (.int z :: .int x :: st) := by
  obtain ⟨he, hb, -⟩ := hx; obtain ⟨hd, rfl⟩ := hd
  intro H locs ls hP hS hL
  exact lv_icmp_gt he hb hd ht (fun h => kt h H locs ls hP hS hL) (fun h => kf h H locs ls hP hS hL)
theorem Ew.icmp_gt_t {x z : Int32} {off : Int} {tgt : Nat} (hx : Cx G y d C) (hd : Dc y.2.1 pc (.if_icmp .gt off) 3 npc) (ht : (pc : Int) + off = (tgt : Int)) (h : z < x) (kt : Ew G C V tgt l st) : Ew G C V pc l (.int z :: .int x :: st) := Ew.icmp_gt hx hd ht (fun _ => kt) (fun q => absurd h q)
theorem Ew.icmp_gt_f {x z : Int32} {off : Int} {tgt : Nat} (hx : Cx G y d C) (hd : Dc y.2.1 pc (.if_icmp .gt off) 3 npc) (ht : (pc : Int) + off = (tgt : Int)) (h : ¬ z < x) (kf : Ew G C V npc l st) : Ew G C V pc l (.int z :: .int x :: st) := Ew.icmp_gt hx hd ht (fun q => absurd q h) (fun _ => kf)
theorem Ew.if_gt {x : Int32} {off : Int} {tgt : Nat} (hx : Cx G y d C) (hd : Dc y.2.1 pc (.ifCond .gt off) 3 npc) (ht : (pc : Int) + off = (tgt : Int)) (kt : 0 < x → Ew G C V tgt l st) (kf : ¬ 0 < x → Ew G C V npc l st) : Ew G C V pc l (.int x :: st) := by
  obtain ⟨he, hb, -⟩ := hx; obtain ⟨hd, rfl⟩ := hd
  intro H locs ls hP hS hL
  exact lv_if_gt he hb hd ht (fun h => kt h H locs ls hP hS hL) (fun h => kf h H locs ls hP hS hL)
theorem Ew.if_gt_t {x : Int32} {off : Int} {tgt : Nat} (hx : Cx G y d C) (hd : Dc y.2.1 pc (.ifCond .gt off) 3 npc) (ht : (pc : Int) + off = (tgt : Int)) (h : 0 < x) (kt : Ew G C V tgt l st) : Ew G C V pc l (.int x :: st) := Ew.if_gt hx hd ht (fun _ => kt) (fun q => absurd h q)
theorem Ew.if_gt_f {x : Int32} {off : Int} {tgt : Nat} (hx : Cx G y d C) (hd : Dc y.2.1 pc (.ifCond .gt off) 3 npc) (ht : (pc : Int) + off = (tgt : Int)) (h : ¬ 0 < x) (kf : Ew G C V npc l st) : Ew G C V pc l (.int x :: st) := Ew.if_gt hx hd ht (fun q => absurd q h) (fun _ => kf)
theorem Ew.icmp_le {x z : Int32} {off : Int} {tgt : Nat} (hx : Cx G y d C) (hd : Dc y.2.1 pc (.if_icmp .le off) 3 npc) (ht : (pc : Int) + off = (tgt : Int)) (kt : x ≤ z → Ew G C V tgt l st) (kf : ¬ x ≤ z → Ew G C V npc l st) : Ew G C V pc l (.int z :: .int x :: st) := by
  obtain ⟨he, hb, -⟩ := hx; obtain ⟨hd, rfl⟩ := hd
  intro H locs ls hP hS hL
  exact lv_icmp_le he hb hd ht (fun h => kt h H locs ls hP hS hL) (fun h => kf h H locs ls hP hS hL)
theorem Ew.icmp_le_t {x z : Int32} {off : Int} {tgt : Nat} (hx : Cx G y d C) (hd : Dc y.2.1 pc (.if_icmp .le off) 3 npc) (ht : (pc : Int) + off = (tgt : Int)) (h : x ≤ z) (kt : Ew G C V tgt l st) : Ew G C V pc l (.int z :: .int x :: st) := Ew.icmp_le hx hd ht (fun _ => kt) (fun q => absurd h q)
theorem Ew.icmp_le_f {x z : Int32} {off : Int} {tgt : Nat} (hx : Cx G y d C) (hd : Dc y.2.1 pc (.if_icmp .le off) 3 npc) (ht : (pc : Int) + off = (tgt : Int)) (h : ¬ x ≤ z) (kf : Ew G C V npc l st) : Ew G C V pc l (.int z :: .int x :: st) := Ew.icmp_le hx hd ht (fun q => absurd q h) (fun _ => kf)
theorem Ew.if_le {x : Int32} {off : Int} {tgt : Nat} (hx : Cx G y d C) (hd : Dc y.2.1 pc (.ifCond .le off) 3 npc) (ht : (pc : Int) + off = (tgt : Int)) (kt : x ≤ 0 → Ew G C V tgt l st) (kf : ¬ x ≤ 0 → Ew G C V npc l st) : Ew G C V pc l (.int x :: st) := by
  obtain ⟨he, hb, -⟩ := hx; obtain ⟨hd, rfl⟩ := hd
  intro H locs ls hP hS hL
  exact lv_if_le he hb hd ht (fun h => kt h H locs ls hP hS hL) (fun h => kf h H locs ls hP hS hL)
theorem Ew.if_le_t {x : Int32} {off : Int} {tgt : Nat} (hx : Cx G y d C) (hd : Dc y.2.1 pc (.ifCond .le off) 3 npc) (ht : (pc : Int) + off = (tgt : Int)) (h : x ≤ 0) (kt : Ew G C V tgt l st) : Ew G C V pc l (.int x :: st) := Ew.if_le hx hd ht (fun _ => kt) (fun q => absurd h q)
theorem Ew.if_le_f {x : Int32} {off : Int} {tgt : Nat} (hx : Cx G y d C) (hd : Dc y.2.1 pc (.ifCond .le off) 3 npc) (ht : (pc : Int) + off = (tgt : Int)) (h : ¬ x ≤ 0) (kf : Ew G C V npc l st) : Ew G C V pc l (.int x :: st) := Ew.if_le hx hd ht (fun q => absurd q h) (fun _ => kf)
theorem Ew.ifeq_b {P : Prop} {off : Int} {tgt : Nat} (hx : Cx G y d C) (hd : Dc y.2.1 pc (.ifCond .eq off) 3 npc) (ht : (pc : Int) + off = (tgt : Int)) (kt : ¬ P → Ew G C V tgt l st) (kf : P → Ew G C V npc l st) : Ew G C V pc l (.int (b2i P) :: st) :=
  Ew.if_eq hx hd ht (fun h => kt (fun p => by rw [b2i_t p] at h; exact absurd h (by decide))) (fun h => kf (Classical.byContradiction fun p => h (b2i_f p)))
theorem Ew.ifne_b {P : Prop} {off : Int} {tgt : Nat} (hx : Cx G y d C) (hd : Dc y.2.1 pc (.ifCond .ne off) 3 npc) (ht : (pc : Int) + off = (tgt : Int)) (kt : P → Ew G C V tgt l st) (kf : ¬ P → Ew G C V npc l st) : Ew G C V pc l (.int (b2i P) :: st) :=
  Ew.if_ne hx hd ht (fun h => kt (Classical.byContradiction fun p => h (b2i_f p))) (fun h => kf (fun p => by rw [b2i_t p] at h; exact absurd h (by decide)))
/-! fields -/
def FG (own : String) (ix c i : Nat) (o : Option Nat) : Prop := ∃ (ci : Nat) (fs : List (Option Nat)) (K : String) (T : u_T), okind c = some (ci, fs) ∧ fs[i]? = some o ∧ vwCl[ci]? = some (K, T, fs.length) ∧ (∀ w ∈ u_ws K T fs.length, w ∈ Big) ∧ Cond.fieldLink own ix K (T i).2.1 (T i).2.2.1 ∈ Big ∧ (T i).1 = K ∧ c ≠ 99
def PG (own : String) (ix c i : Nat) (ty : FieldType) : Prop := FG own ix c i none ∧ ∃ (ci : Nat) (fs : List (Option Nat)) (K : String) (T : u_T) (ty0 : Nat → FieldType), okind c = some (ci, fs) ∧ vwCl[ci]? = some (K, T, fs.length) ∧ (∀ k, k < fs.length → parseFieldDescriptor (T k).2.2.1 = some (ty0 k)) ∧ (∀ a, a < fs.length → ∀ b, b < fs.length → a ≠ b → (T a).2.1 ≠ (T b).2.1) ∧ (T i).2.2.2 = false ∧ parseFieldDescriptor (T i).2.2.1 = some ty
theorem Ew.get {ix c i k : Nat} {o : Option Nat} {v : Value} (hx : Cx G y d C) (hd : Dc y.2.1 pc (.getfield ix) 3 npc) (hf : FG y.1.cls ix c i o) (hk : kd k = c) (hv : fval (gB G) k (V k) (o, i) = v) (kk : Ew G C V npc l (v :: st)) : Ew G C V pc l (adr G k :: st) := by
  obtain ⟨he, hb, ho, ht, hK, -⟩ := hx; obtain ⟨hd, rfl⟩ := hd
  obtain ⟨ci, fs, K, T, h1, h2, h3, h4, h5, h6, h7⟩ := hf
  intro H locs ls hP hS hL
  refine va_get (D := gD G) (ws := wsOf G V) he hb ht h4 ho hK hP k (by rw [ws_at (kd_lt hk h7), ent_o hk h1]) h3 i (List.getElem?_eq_some_iff.mp h2).1 (ht _ h5) (fun x hxx => by rw [h6] at hxx; exact hxx) (by rw [ofl_at h2, hv]) hd ?_
  exact kk H locs ls hP hS hL
theorem Ew.getI {ix c i k : Nat} (hx : Cx G y d C) (hd : Dc y.2.1 pc (.getfield ix) 3 npc) (hf : FG y.1.cls ix c i none) (hk : kd k = c) (kk : Ew G C V npc l (.int (V k i) :: st)) : Ew G C V pc l (adr G k :: st) := Ew.get hx hd hf hk rfl kk
theorem Ew.getR {ix c i k o : Nat} (k' : Nat) (hx : Cx G y d C) (hd : Dc y.2.1 pc (.getfield ix) 3 npc) (hf : FG y.1.cls ix c i (some o)) (hk : kd k = c) (hk' : k + o = k') (kk : Ew G C V npc l (adr G k' :: st)) : Ew G C V pc l (adr G k :: st) := Ew.get hx hd hf hk (by subst hk'; rfl) kk
theorem fitI (x : Int32) : narrow .int (.int x) = .int x ∧ fits .int (.int x) = true := ⟨rfl, rfl⟩
theorem fitZ {x : Int32} (h : x = 0 ∨ x = 1) : narrow .boolean (.int x) = .int x ∧ fits .boolean (.int x) = true := by
  rcases h with rfl | rfl <;> decide
theorem Ew.put {ix c i k : Nat} {ty : FieldType} {x : Int32} (hx : Cx G y d C) (hd : Dc y.2.1 pc (.putfield ix) 3 npc) (hf : PG y.1.cls ix c i ty) (hk : kd k = c) (hfit : narrow ty (.int x) = .int x ∧ fits ty (.int x) = true) (kk : Ew G C (mup V k i x) npc l st) : Ew G C V pc l (.int x :: adr G k :: st) := by
  obtain ⟨he, hb, ho, ht, hK, -⟩ := hx; obtain ⟨hd, rfl⟩ := hd
  obtain ⟨⟨ci, fs, K, T, h1, h2, h3, h4, h5, h6, h7⟩, ci', fs', K', T', ty0, g1, g2, g3, g4, g5, g6⟩ := hf
  cases h1.symm.trans g1
  cases h3.symm.trans g2
  intro H locs ls hP hS hL
  have hl : i < fs.length := (List.getElem?_eq_some_iff.mp h2).1
  refine va_put (D := gD G) (ws := wsOf G V) he hb ht h4 ty0 g3 g4 ho hK hP ws_D hS k (by rw [ws_at (kd_lt hk h7), ent_o hk h1]) h3 i hl (ht _ h5) (fun x hxx => by rw [h6] at hxx; exact hxx) g5 g6 hfit.1 hfit.2 (by rw [ofl_len]; exact hl) hd (fun H1 locs1 hP1 hD1 hS1 => ?_)
  rw [ofl_set h2, ws_set (V' := mup V k i x) (by rw [mup_same, ent_o hk h1]) (fun j hj => mup_ne V i x hj)] at hP1
  exact kk H1 locs1 ls hP1 hS1 hL
theorem Ew.putI {ix c i k : Nat} {x : Int32} (hx : Cx G y d C) (hd : Dc y.2.1 pc (.putfield ix) 3 npc) (hf : PG y.1.cls ix c i .int) (hk : kd k = c) (kk : Ew G C (mup V k i x) npc l st) : Ew G C V pc l (.int x :: adr G k :: st) := Ew.put hx hd hf hk (fitI x) kk
theorem Ew.putZ {ix c i k : Nat} {x : Int32} (hx : Cx G y d C) (hd : Dc y.2.1 pc (.putfield ix) 3 npc) (hf : PG y.1.cls ix c i .boolean) (hk : kd k = c) (h01 : x = 0 ∨ x = 1) (kk : Ew G C (mup V k i x) npc l st) : Ew G C V pc l (.int x :: adr G k :: st) := Ew.put hx hd hf hk (fitZ h01) kk
/-! arrays -/
def AG (c t n : Nat) (ty : FieldType) : Prop := okind c = none ∧ akind c = some (t, n) ∧ n < 2 ^ 31 ∧ c ≠ 99 ∧ ∀ G : GT, (tysOf G)[t]? = some (gA G t, ty)
def RG (c t n o sd : Nat) (K : String) : Prop := okind c = none ∧ akind c = none ∧ rkind c = some (t, n, o, sd) ∧ n < 2 ^ 31 ∧ c ≠ 99 ∧ ∀ G : GT, (tysOf G)[t]? = some (gA G t, .object K)
theorem ix_in {i n : Nat} {j : Int32} (hn : n < 2 ^ 31) (hj : j = nI i) (hi : i < n) : vp_in j n ∧ j.toNatClampNeg = i := by
  subst hj
  exact ⟨vp_in_nI hi hn, nI_clamp (by omega)⟩
theorem Ew.iald {c k i n t : Nat} {j : Int32} (hx : Cx G y d C) (hd : Dc y.2.1 pc (.iaload) 1 npc) (ha : AG c t n .int) (hk : kd k = c) (hj : j = nI i) (hi : i < n) (kk : Ew G C V npc l (.int (V k i) :: st)) : Ew G C V pc l (.int j :: adr G k :: st) := by
  obtain ⟨he, hb, ho, ht, hK, -⟩ := hx; obtain ⟨hd, rfl⟩ := hd
  obtain ⟨h1, h2, h3, h4, h5⟩ := ha
  obtain ⟨hin, hc⟩ := ix_in h3 hj hi
  intro H locs ls hP hS hL
  refine va_iald (D := gD G) (ws := wsOf G V) he hb hK hP k t (by rw [ws_at (kd_lt hk h4), ent_a hk h1 h2]) (h5 G) hin hd ?_
  rw [hc]
  exact kk H locs ls hP hS hL
theorem Ew.zald {c k i n t : Nat} {j : Int32} (hx : Cx G y d C) (hd : Dc y.2.1 pc (.baload) 1 npc) (ha : AG c t n .boolean) (hk : kd k = c) (hj : j = nI i) (hi : i < n) (kk : Ew G C V npc l (.int (V k i) :: st)) : Ew G C V pc l (.int j :: adr G k :: st) := by
  obtain ⟨he, hb, ho, ht, hK, -⟩ := hx; obtain ⟨hd, rfl⟩ := hd
  obtain ⟨h1, h2, h3, h4, h5⟩ := ha
  obtain ⟨hin, hc⟩ := ix_in h3 hj hi
  intro H locs ls hP hS hL
  refine va_zald (D := gD G) (ws := wsOf G V) he hb hK hP k t (by rw [ws_at (kd_lt hk h4), ent_a hk h1 h2]) (h5 G) hin hd ?_
  rw [hc]
  exact kk H locs ls hP hS hL
theorem Ew.cald {c k i n t : Nat} {j : Int32} (hx : Cx G y d C) (hd : Dc y.2.1 pc (.caload) 1 npc) (ha : AG c t n .char) (hk : kd k = c) (hj : j = nI i) (hi : i < n) (kk : Ew G C V npc l (.int (V k i) :: st)) : Ew G C V pc l (.int j :: adr G k :: st) := by
  obtain ⟨he, hb, ho, ht, hK, -⟩ := hx; obtain ⟨hd, rfl⟩ := hd
  obtain ⟨h1, h2, h3, h4, h5⟩ := ha
  obtain ⟨hin, hc⟩ := ix_in h3 hj hi
  intro H locs ls hP hS hL
  refine va_cald (D := gD G) (ws := wsOf G V) he hb hK hP k t (by rw [ws_at (kd_lt hk h4), ent_a hk h1 h2]) (h5 G) hin hd ?_
  rw [hc]
  exact kk H locs ls hP hS hL
theorem Ew.iast {c k i n t : Nat} {j x : Int32} (hx : Cx G y d C) (hd : Dc y.2.1 pc (.iastore) 1 npc) (ha : AG c t n .int) (hk : kd k = c) (hj : j = nI i) (hi : i < n) (kk : Ew G C (mup V k i x) npc l st) : Ew G C V pc l (.int x :: .int j :: adr G k :: st) := by
  obtain ⟨he, hb, ho, ht, hK, -⟩ := hx; obtain ⟨hd, rfl⟩ := hd
  obtain ⟨h1, h2, h3, h4, h5⟩ := ha
  obtain ⟨hin, hc⟩ := ix_in h3 hj hi
  intro H locs ls hP hS hL
  refine va_iast (D := gD G) (ws := wsOf G V) he hb hK hP ws_D hS k t (by rw [ws_at (kd_lt hk h4), ent_a hk h1 h2]) (h5 G) hin hd (fun H1 locs1 hP1 hD1 hS1 => ?_)
  rw [hc, ws_set (V' := mup V k i x) (by rw [mup_same, ent_a hk h1 h2]) (fun j hj => mup_ne V i x hj)] at hP1
  exact kk H1 locs1 ls hP1 hS1 hL
theorem Ew.zast {c k i n t : Nat} {j x : Int32} (hx : Cx G y d C) (hd : Dc y.2.1 pc (.bastore) 1 npc) (ha : AG c t n .boolean) (hk : kd k = c) (hj : j = nI i) (hi : i < n) (hn : vp_nar .boolean x = x) (kk : Ew G C (mup V k i x) npc l st) : Ew G C V pc l (.int x :: .int j :: adr G k :: st) := by
  obtain ⟨he, hb, ho, ht, hK, -⟩ := hx; obtain ⟨hd, rfl⟩ := hd
  obtain ⟨h1, h2, h3, h4, h5⟩ := ha
  obtain ⟨hin, hc⟩ := ix_in h3 hj hi
  intro H locs ls hP hS hL
  refine va_zast (D := gD G) (ws := wsOf G V) he hb hK hP ws_D hS k t (by rw [ws_at (kd_lt hk h4), ent_a hk h1 h2]) (h5 G) hin hd (fun H1 locs1 hP1 hD1 hS1 => ?_)
  rw [hn, hc, ws_set (V' := mup V k i x) (by rw [mup_same, ent_a hk h1 h2]) (fun j hj => mup_ne V i x hj)] at hP1
  exact kk H1 locs1 ls hP1 hS1 hL
theorem Ew.cast {c k i n t : Nat} {j x : Int32} (hx : Cx G y d C) (hd : Dc y.2.1 pc (.castore) 1 npc) (ha : AG c t n .char) (hk : kd k = c) (hj : j = nI i) (hi : i < n) (hn : vp_nar .char x = x) (kk : Ew G C (mup V k i x) npc l st) : Ew G C V pc l (.int x :: .int j :: adr G k :: st) := by
  obtain ⟨he, hb, ho, ht, hK, -⟩ := hx; obtain ⟨hd, rfl⟩ := hd
  obtain ⟨h1, h2, h3, h4, h5⟩ := ha
  obtain ⟨hin, hc⟩ := ix_in h3 hj hi
  intro H locs ls hP hS hL
  refine va_cast (D := gD G) (ws := wsOf G V) he hb hK hP ws_D hS k t (by rw [ws_at (kd_lt hk h4), ent_a hk h1 h2]) (h5 G) hin hd (fun H1 locs1 hP1 hD1 hS1 => ?_)
  rw [hn, hc, ws_set (V' := mup V k i x) (by rw [mup_same, ent_a hk h1 h2]) (fun j hj => mup_ne V i x hj)] at hP1
  exact kk H1 locs1 ls hP1 hS1 hL
theorem Ew.aldq {c k i n t o sd : Nat} {j : Int32} {K : String} (k' : Nat) (hx : Cx G y d C) (hd : Dc y.2.1 pc (.aaload) 1 npc) (ha : RG c t n o sd K) (hk : kd k = c) (hj : j = nI i) (hi : i < n) (hk' : k + o + sd * i = k') (kk : Ew G C V npc l (adr G k' :: st)) : Ew G C V pc l (.int j :: adr G k :: st) := by
  obtain ⟨he, hb, ho, ht, hK, -⟩ := hx; obtain ⟨hd, rfl⟩ := hd
  obtain ⟨h1, h2, h6, h3, h4, h5⟩ := ha
  obtain ⟨hin, hc⟩ := ix_in h3 hj hi
  subst hk'
  intro H locs ls hP hS hL
  refine va_aldq (D := gD G) (ws := wsOf G V) he hb hK hP k t (by rw [ws_at (kd_lt hk h4), ent_r hk h1 h2 h6]) (h5 G) hin hd ?_
  rw [hc]
  exact kk H locs ls hP hS hL
theorem Ew.copyi {ix k0 k1 n0 n1 c0 c1 m : Nat} {nn : Int32} (hx : Cx G y d C) (hd : Dc y.2.1 pc (.invokestatic ix) 3 npc) (hl0 : Cond.methodLink y.1.cls ix arraycopyName ∈ Big) (hw : Cond.native arraycopyName ∈ Big ∧ Cond.static arraycopyName ∈ Big ∧ Cond.initialized "java/lang/System" ∈ Big) (ha0 : AG c0 0 n0 .int) (ha1 : AG c1 0 n1 .int) (hk0 : kd k0 = c0) (hk1 : kd k1 = c1) (hm : nn = nI m) (h0 : m ≤ n0) (h1 : m ≤ n1) (hm2 : m < 2 ^ 31) (hd1 : 1 ≤ d) (hst : (st.map fun v => v.category).sum ≤ 8)
    (kk : Ew G C (fun a => if a = k1 then va_cpy (V k0) (V k1) 0 0 m else V a) npc l st) : Ew G C V pc l (.int nn :: .int 0 :: adr G k1 :: .int 0 :: adr G k0 :: st) := by
  obtain ⟨he, hb, ho, ht, hK, hX, hz, hlk, hr, hml, hr1, hr2, hr3⟩ := hx; obtain ⟨hd, rfl⟩ := hd
  obtain ⟨g1, g2, g3, g4, g5⟩ := ha0
  obtain ⟨f1, f2, f3, f4, f5⟩ := ha1
  subst hm
  have hc : (nI m).toNatClampNeg = m := nI_clamp hm2
  intro H locs ls hP hS hL
  refine va_copyi (D := gD G) (ws := wsOf G V) he hb (hL.1.symm) ho (ht _ hl0) (ht _ hw.1) (ht _ hw.2.1) (ht _ hw.2.2) hK hP ws_D hS k0 k1 0 0 (by rw [ws_at (kd_lt hk0 g4), ent_a hk0 g1 g2]) (by rw [ws_at (kd_lt hk1 f4), ent_a hk1 f1 f2]) (ty := .int) (g5 G) (f5 G) rfl (sp := 0) (dp := 0) (n := nI m) (by decide) (by decide) (nI_pos hm2) (by rw [hc]; show 0 + m ≤ n0; omega) (by rw [hc]; show 0 + m ≤ n1; omega) (fun _ _ => rfl) (by omega) ?_ hd (fun H1 locs1 hP1 hD1 hS1 => ?_)
  · have hq : nativeFrameWords "java/lang/System" "arraycopy" 5 = 7 ∨ nativeFrameWords "java/lang/System" "arraycopy" 5 ≤ 17 := by decide
    omega
  · rw [hc, ws_set (V' := fun a => if a = k1 then va_cpy (V k0) (V k1) 0 0 m else V a) (by rw [if_pos rfl, ent_a hk1 f1 f2]; rfl) (fun j hj => by simp [hj])] at hP1
    exact kk H1 locs1 ls hP1 hS1 hL
/-! returns -/
theorem Ew.zret {Post : PT} {ty : FieldType} {v : Int32} (hx : Cx G y d C) (hq : Cq G Post C) (hd : Dc y.2.1 pc (.ireturn) 1 npc) (hr : y.2.2.2 = some ty) (hn : narrow ty (.int v) = .int v) (hp : Post (some (.int v)) V) : Ew G C V pc l [.int v] := by
  obtain ⟨he, hb, ho, ht, hK, hX, hz, hlk, hrt, -⟩ := hx; obtain ⟨hd, rfl⟩ := hd
  obtain ⟨e1, e2, e3⟩ := hq
  intro H locs ls hP hS hL
  rw [e1, e2, e3]
  exact W.zret he hb (hrt.trans hr) hn (fun t ht' hW => ⟨⟨_, V, rfl, hp, by rw [ht']; exact hP, va_K.moved hW.alike hK, by rw [ht']; exact (hX.kept hS.2.1).warm hW, by rw [ht']; exact Nat.le_trans hz hS.1⟩, hS.F ht'⟩) hS.2.2 hd hlk
theorem Ew.iret {Post : PT} {v : Int32} (hx : Cx G y d C) (hq : Cq G Post C) (hd : Dc y.2.1 pc (.ireturn) 1 npc) (hr : y.2.2.2 = some .int) (hp : Post (some (.int v)) V) : Ew G C V pc l [.int v] := Ew.zret hx hq hd hr rfl hp
theorem Ew.bret {Post : PT} {v : Int32} (hx : Cx G y d C) (hq : Cq G Post C) (hd : Dc y.2.1 pc (.ireturn) 1 npc) (hr : y.2.2.2 = some .boolean) (h01 : v = 0 ∨ v = 1) (hp : Post (some (.int v)) V) : Ew G C V pc l [.int v] := Ew.zret hx hq hd hr (fitZ h01).1 hp
theorem Ew.vret {Post : PT} (hx : Cx G y d C) (hq : Cq G Post C) (hd : Dc y.2.1 pc (.return_) 1 npc) (hr : y.2.2.2 = none) (hp : Post none V) : Ew G C V pc l [] := by
  obtain ⟨he, hb, ho, ht, hK, hX, hz, hlk, hrt, -⟩ := hx; obtain ⟨hd, rfl⟩ := hd
  obtain ⟨e1, e2, e3⟩ := hq
  intro H locs ls hP hS hL
  rw [e1, e2, e3]
  exact W.vret he hb (hrt.trans hr) (fun t ht' hW => ⟨⟨_, V, rfl, hp, by rw [ht']; exact hP, va_K.moved hW.alike hK, by rw [ht']; exact (hX.kept hS.2.1).warm hW, by rw [ht']; exact Nat.le_trans hz hS.1⟩, hS.F ht'⟩) hS.2.2 hd hlk
theorem Ew.aret {Post : PT} {v : Value} {n : String} (hx : Cx G y d C) (hq : Cq G Post C) (hd : Dc y.2.1 pc (.areturn) 1 npc) (hr : y.2.2.2 = some (.object n)) (hv : v = .null ∨ ∃ a, v = .ref a) (hp : Post (some v) V) : Ew G C V pc l [v] := by
  obtain ⟨he, hb, ho, ht, hK, hX, hz, hlk, hrt, -⟩ := hx; obtain ⟨hd, rfl⟩ := hd
  obtain ⟨e1, e2, e3⟩ := hq
  intro H locs ls hP hS hL
  rw [e1, e2, e3]
  exact W.aret he hb (hrt.trans hr) (Or.inl ⟨n, rfl⟩) hv (fun t ht' hW => ⟨⟨_, V, rfl, hp, by rw [ht']; exact hP, va_K.moved hW.alike hK, by rw [ht']; exact (hX.kept hS.2.1).warm hW, by rw [ht']; exact Nat.le_trans hz hS.1⟩, hS.F ht'⟩) hS.2.2 hd hlk
/-! calls -/
theorem wd_blind {as : List Value} : FrameBlind (va_Pc as (Wd G V)) := by
  intro a U g mk h
  obtain ⟨h1, h2, h3, h4, h5⟩ := h
  exact ⟨h1, h2, va_K.moved (u := U) (U := U.calling g mk a) (Vm.Alike.refl U.vm) h3, Xt.same (u := U) (U := U.calling g mk a) rfl h4, h5⟩
theorem wd_pre {as : List Value} {H : Heap} {locs : List Loc} (hx : Cx G y d C) (hP : va_P (gD G) vwCl (wsOf G V) H) (hS : va_S (Ar G) (cS C).heap H locs) : ∀ U : State, U.heap = H → (cS C).WarmedH U.vm → va_Pc as (Wd G V) as.toArray U := by
  obtain ⟨he, hb, ho, ht, hK, hX, hz, -⟩ := hx
  intro U hU hW
  exact ⟨rfl, by rw [hU]; exact hP, va_K.moved hW.alike hK, by rw [hU]; exact (hX.kept hS.2.1).warm hW, by rw [hU]; exact Nat.le_trans hz hS.1⟩
theorem big_ws {y' : MT} {n : Nat} (cf : CFm y' n) : GoodIn Big (wsY y') := by
  intro w hw
  have hm : w ∈ Big := by
    rcases List.mem_cons.mp hw with rfl | h
    · exact cf.1
    · exact h
  exact ⟨hm, good_of_word (big_good hm)⟩
theorem Ew.ofRun {Post' : PT} {a : Array Value} {rest st0 : List Value} {H : Heap} {locs : List Loc} {ls : Array Slot} (hP : va_P (gD G) vwCl (wsOf G V) H) (hS : va_S (Ar G) (cS C).heap H locs) (hL : lvO ls (cC C).maxLocals l)
    (hr : va_Run (cP C) G.1 (cE C) (cR C) (cS C) (cM C) (cA C) (cB C) (cMe C) (cC C) H locs (cK C) (cN C) 0 0 (F0 (cM C) pc ls st0) rest (Qx G Post' a) (Ar G)) (kk : ∀ v V', Post' v V' → Ew G C V' (pc + 3) l (v.toList ++ rest)) : W (cP C) G.1 (cE C) (cR C) (cS C) (cM C) (cA C) (cB C) (cMe C) (cC C) H locs (cK C) (cN C) (cQ C) (F0 (cM C) pc ls st0) := by
  intro T hT X
  obtain ⟨v, st₀, t, T', L, h0, X', hL2, e1, e2, ⟨⟨v', V', hv, hp, hw⟩, hz, hk⟩, stp⟩ := hr T hT X
  cases hv
  rw [h0] at hz hk
  have hS1 : va_S (Ar G) (cS C).heap T'.heap (locs ++ L) := ⟨Nat.le_trans hS.1 (by rw [e1]; exact hz), fun q h1 h2 => by rw [e1, hk q (Nat.lt_of_lt_of_le h1 hS.1) h2]; exact hS.2.1 q h1 h2, fun q hq => by
      rcases List.mem_append.mp hq with h | h
      · exact hS.2.2 q h
      · exact hL2 q h⟩
  obtain ⟨t2, a1, b1⟩ := kk v V' hp T'.heap (locs ++ L) ls (by rw [e1]; exact hw.1) hS1 hL T' rfl X'
  exact ⟨t2, stp t2 a1, b1⟩
theorem Ew.callV {y' : MT} {d' n k ci ix : Nat} {as' rest : List Value} {Post' : PT} {T : u_T} {N : Nat} {fs : List (Option Nat)} (hx : Cx G y d C) (hd : Dc y.2.1 pc (.invokevirtual ix) 3 npc) (hm : Cond.methodLink y.1.cls ix y'.1 ∈ Big) (cf : CFm y' n) (cv : CFv y') (hc : Ct G y' d' (adr G k :: as') V Post') (hk : okind (kd k) = some (ci, fs) ∧ kd k ≠ 99) (hcl : vwCl[ci]? = some (y'.1.cls, T, N)) (hn : as'.length = n) (hd' : d' + 1 ≤ d) (hml : y'.2.2.1 ≤ 17) (hst : st = as'.reverse ++ adr G k :: rest) (hw : (rest.map fun v => v.category).sum ≤ 8)
    (kk : ∀ v V', Post' v V' → Ew G C V' npc l (v.toList ++ rest)) : Ew G C V pc l st := by
  have hx0 := hx
  obtain ⟨he, hb, ho, ht, hK, hX, hz, hlk, hr, hml0, hr1, hr2, hr3, hr4⟩ := hx; obtain ⟨hd, rfl⟩ := hd
  subst hst
  intro H locs ls hP hS hL
  refine Ew.ofRun hP hS hL (va_runV (As := as') (rest := rest) (mc := 0) (ms := 0) ⟨he, hb, hL.1 ▸ rfl, ho, ht⟩ hc (cwV n ht (ws := wsY y') (ws' := Big) ?_ rfl rfl rfl ⟨rfl, cf.2.2.1⟩ ⟨?_, ?_⟩) ⟨wd_blind, va_recv hK hP hcl (by rw [ws_at (kd_lt rfl hk.2), ent_o rfl hk.1]), wd_pre hx0 hP hS⟩ rfl hn hL.1 rfl (lv_room hw) hd ⟨by omega, by omega⟩) kk
  · intro w hw
    unfold wsV at hw
    rcases List.mem_append.mp hw with h | h
    · simp only [List.mem_cons, List.not_mem_nil, or_false] at h
      have hm2 : w ∈ Big := by rcases h with rfl | rfl | rfl | rfl <;> first | exact hm | exact cv.1 | exact cv.2 | exact cf.2.1
      exact ⟨hm2, good_of_word (big_good hm2)⟩
    · exact big_ws cf w h
  · show d' + 1 ≤ _
    omega
  · show 8 + (y'.2.2.1 + 11) + 36 * d' ≤ _
    omega
theorem Ew.callS {y' : MT} {d' n ix : Nat} {as' rest : List Value} {Post' : PT} (hx : Cx G y d C) (hd : Dc y.2.1 pc (.invokestatic ix) 3 npc) (hm : Cond.methodLink y.1.cls ix y'.1 ∈ Big) (cf : CFm y' n) (cs : CFs y') (hc : Ct G y' d' as' V Post') (hn : as'.length = n) (hd' : d' + 1 ≤ d) (hml : y'.2.2.1 ≤ 17) (hst : st = as'.reverse ++ rest) (hw : (rest.map fun v => v.category).sum ≤ 8)
    (kk : ∀ v V', Post' v V' → Ew G C V' npc l (v.toList ++ rest)) : Ew G C V pc l st := by
  have hx0 := hx
  obtain ⟨he, hb, ho, ht, hK, hX, hz, hlk, hr, hml0, hr1, hr2, hr3, hr4⟩ := hx; obtain ⟨hd, rfl⟩ := hd
  subst hst
  intro H locs ls hP hS hL
  refine Ew.ofRun hP hS hL (va_runS (As := as') (rest := rest) (mc := 0) (ms := 0) ⟨he, hb, hL.1 ▸ rfl, ho, ht⟩ hc (va_cwS n ht (ws := wsY y') (ws' := Big) ?_ rfl rfl rfl cf.2.2.1 ⟨?_, ?_⟩) ⟨wd_blind, wd_pre hx0 hP hS⟩ rfl hn hL.1 rfl (lv_room hw) hd ⟨by omega, by omega⟩) kk
  · intro w hw
    unfold va_wsS at hw
    rcases List.mem_append.mp hw with h | h
    · simp only [List.mem_cons, List.not_mem_nil, or_false] at h
      have hm2 : w ∈ Big := by rcases h with rfl | rfl | rfl <;> first | exact hm | exact cs | exact cf.2.1
      exact ⟨hm2, good_of_word (big_good hm2)⟩
    · exact big_ws cf w h
  · show d' + 1 ≤ _
    omega
  · show 8 + (y'.2.2.1 + 11) + 36 * d' ≤ _
    omega
theorem Ew.callSN {y' : MT} {d' n ix : Nat} {host : String} {as' rest : List Value} {Post' : PT} (hx : Cx G y d C) (hd : Dc y.2.1 pc (.invokestatic ix) 3 npc) (hm : (y.1.cls, ix, y'.1, host) ∈ nwM) (cf : CFm y' n) (cs : CFs y') (hc : Ct G y' d' as' V Post') (hn : as'.length = n) (hd' : d' + 1 ≤ d) (hml : y'.2.2.1 ≤ 17) (hst : st = as'.reverse ++ rest) (hw : (rest.map fun v => v.category).sum ≤ 8)
    (kk : ∀ v V', Post' v V' → Ew G C V' npc l (v.toList ++ rest)) : Ew G C V pc l st := by
  have hx0 := hx
  obtain ⟨he, hb, ho, ht, hK, hX, hz, hlk, hr, hml0, hr1, hr2, hr3, hr4⟩ := hx; obtain ⟨hd, rfl⟩ := hd
  subst hst
  intro H locs ls hP hS hL
  refine Ew.ofRun hP hS hL (va_runSN (As := as') (rest := rest) (mc := 0) (ms := 0) ⟨he, hb, hL.1 ▸ rfl, ho, ht⟩ hc ⟨va_cnB n ht (ws := wsY y') (ws' := Big) (big_ws cf) rfl rfl rfl (hX.2.1 _ hm) (ht _ cf.2.1) cf.2.2.1 ⟨?_, ?_⟩, ht _ cs, trivial⟩ ⟨wd_blind, wd_pre hx0 hP hS⟩ rfl hn hL.1 rfl (lv_room hw) hd ⟨by omega, by omega⟩) kk
  · show d' + 1 ≤ _
    omega
  · show 8 + (y'.2.2.1 + 11) + 36 * d' ≤ _
    omega
end ROWS
