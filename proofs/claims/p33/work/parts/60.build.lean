/-! BUILDING: a world of j cells, E q the entry of cell q; it grows -/
abbrev ET : Type := Nat → va_E
def upE (E : ET) (k : Nat) (e : va_E) : ET := fun q => if q = k then e else E q
theorem upE_s (E : ET) (k : Nat) (e : va_E) : upE E k e k = e := if_pos rfl
theorem upE_n (E : ET) {k q : Nat} (e : va_E) (h : q ≠ k) : upE E k e q = E q := if_neg h
def wsE (G : GT) (j : Nat) (E : ET) : va_W := (List.range j).map (fun k => (gB G + k, E k))
theorem wsE_at {G : GT} {j k : Nat} {E : ET} (h : k < j) : (wsE G j E)[k]? = some (gB G + k, E k) := by simp [wsE, List.getElem?_range h]
theorem wsE_len {G : GT} {j : Nat} {E : ET} : (wsE G j E).length = j := by simp [wsE]
theorem wsE_c {G : GT} {j : Nat} {E E' : ET} (h : ∀ q, q < j → E q = E' q) : wsE G j E = wsE G j E' := by
  apply List.ext_getElem?
  intro i
  by_cases hi : i < j
  · rw [wsE_at hi, wsE_at hi, h i hi]
  · rw [List.getElem?_eq_none (by rw [wsE_len]; omega), List.getElem?_eq_none (by rw [wsE_len]; omega)]
theorem wsE_set {G : GT} {j k : Nat} {E : ET} {e : va_E} (hk : k < j) : (wsE G j E).set k (gB G + k, e) = wsE G j (upE E k e) := by
  apply List.ext_getElem?
  intro i
  by_cases hi : i < j
  · by_cases hik : i = k
    · subst hik
      rw [List.getElem?_set_self (by rw [wsE_len]; exact hi), wsE_at hi, upE_s]
    · rw [List.getElem?_set_ne (Ne.symm hik), wsE_at hi, wsE_at hi, upE_n _ _ hik]
  · rw [List.getElem?_eq_none (by rw [List.length_set, wsE_len]; omega), List.getElem?_eq_none (by rw [wsE_len]; omega)]
theorem wsE_push {G : GT} {j : Nat} {E : ET} {e : va_E} : wsE G j E ++ [(gB G + j, e)] = wsE G (j + 1) (upE E j e) := by
  have h : wsE G (j + 1) (upE E j e) = wsE G j (upE E j e) ++ [(gB G + j, upE E j e j)] := by
    unfold wsE
    rw [List.range_succ, List.map_append]
    rfl
  rw [h, upE_s, wsE_c (E := upE E j e) (E' := E) (fun q hq => upE_n _ _ (by omega))]
theorem wsE_D {G : GT} {j : Nat} {E : ET} : va_D (Ar G) (wsE G j E) := by
  have key : ∀ (k : Nat) (q : Nat × va_E), (wsE G j E)[k]? = some q → q.1 = gB G + k := by
    intro k q h
    have hk : k < j := by
      have := (List.getElem?_eq_some_iff.mp h).1
      rwa [wsE_len] at this
    rw [wsE_at hk] at h
    cases h
    rfl
  refine ⟨fun i j p q hi hj h => ?_, fun k q h => ?_⟩
  · have h1 := key i p hi
    have h2 := key j q hj
    omega
  · show gB G ≤ q.1
    rw [key k q h]
    omega
def AOs (U : State) : Prop := va_AO RX6 U ∧ va_AO RX4 U ∧ va_AO RX7 U ∧ va_AO RX8 U
theorem AOs.moved {u U : State} (hvm : u.vm.Alike U.vm) (h : AOs u) : AOs U := ⟨h.1.moved hvm, h.2.1.moved hvm, h.2.2.1.moved hvm, h.2.2.2.moved hvm⟩
def Wk (G : GT) (j : Nat) (E : ET) (U : State) : Prop := va_P (gD G) vwCl (wsE G j E) U.heap ∧ va_K (gD G) vwCl (tysOf G) U ∧ Xt G U U.heap ∧ U.heap.size = gB G + j ∧ AOs U
def Fw (G : GT) (C : CT) (j : Nat) (E : ET) (a b : Nat) (pc : Nat) (l : List (Option Value)) (st : List Value) : Prop :=
  ∀ (H : Heap) (locs : List Loc) (ls : Array Slot), va_P (gD G) vwCl (wsE G j E) H → va_S (Ar G) (cS C).heap H locs → H.size = gB G + j → lvO ls (cC C).maxLocals l → W (cP C) G.1 (cE C) (cR C) (cS C) (cM C) (cA C) (cB C) (cMe C) (cC C) H locs a b (cQ C) (F0 (cM C) pc ls st)
def QK (G : GT) (j : Nat) (E : ET) : Array Value → State → Outcome → State → Prop := fun _ st oc t => (oc = .returned none ∧ Wk G j E t) ∧ va_F (Ar G) st t
def Kq (G : GT) (j : Nat) (E : ET) (mc ms : Nat) (C : CT) : Prop := cQ C = MQ (cB C) (QK G j E) (cA C) (cS C) mc ms (Ar G) ∧ cK C = mc ∧ cN C = ms
/-- the numbers of a new world -/
def s0 : Sv := fun m => if m = 1 then 2000 else if m = 4 then 40 else if m = 5 then 60 else if m = 6 then 20 else 0
def am0 (i : Nat) : Int32 := if i = 0 then 40 else if i = 1 then 60 else if i = 2 then 20 else 0
def V0 : Mm := fun k i => if kd k = 3 then (if i = 1 then 2000 else 0) else if kd k = 6 ∧ kd (k + 1) = 6 then am0 i else 0
def fin (G : GT) (k : Nat) (E : ET) : ET := fun q => if q < k then E q else entF G q (V0 q)
theorem fin_lo (G : GT) (E : ET) {k q : Nat} (h : q < k) : fin G k E q = E q := if_pos h
theorem fin_hi (G : GT) (E : ET) {k q : Nat} (h : k ≤ q) : fin G k E q = entF G q (V0 q) := if_neg (by omega)
def rmk (d mc ms : Nat) : Room := { frames := d, cells := mc, slots := ms, locals := 36 * d }
/-- a constructor's contract: at cell k, the last one, it makes n - 1 more; all from k on is as a new world has it -/
def Kt (G : GT) (y : MT) (d mc ms k n : Nat) (dfl : va_E) : Prop := ∀ E : ET, E k = dfl → Met G.1 y.1 (wsY y) (rmk d mc ms) (va_Pc [adr G k] (Wk G (k + 1) E)) (QK G (k + n) (fin G k E)) mc ms (Ar G)
theorem Kt.of {G : GT} {y : MT} {d mc ms k n : Nat} {dfl : va_E} {l0 : List (Option Value)} (cf : CFm y 0) (hn : y.1.name = "<init>") (hl1 : 1 ≤ y.2.2.1) (hl : lvs [adr G k] y.2.2.1 = l0)
    (h : ∀ (E : ET) (C : CT), E k = dfl → Cx G y d C → AOs (cS C) → (cMe C).name = "<init>" → Kq G (k + n) (fin G k E) mc ms C → (cS C).heap.size = gB G + (k + 1) ∧ cK C = mc ∧ cN C = ms → Fw G C (k + 1) E 0 0 0 l0 []) : Kt G y d mc ms k n dfl := by
  intro E hE
  subst hl
  refine Met.ofW (cc := y.2.1) (maxL := y.2.2.1) (ret := y.2.2.2) cf.2.2.2 rfl ?_
  intro p e s m args below meth c s₁ B hml hv
  obtain ⟨rfl, hP, hK, hX, hz, hA⟩ := hv
  have hts := atoms_spec (ws := wsY y) B.pre
  have h1 := h E (p, e, (headSpec (wsY y) (rmk d mc ms)).room, s, m, [adr G k].toArray, below, meth, c, MQ below (QK G (k + n) (fin G k E)) [adr G k].toArray s mc ms (Ar G), mc, ms) hE
    ⟨B.exec, B.bytes, findClass_of_methodNamed B.named, fun w hw => hts w (List.mem_cons_of_mem _ hw), hK, hX, by rw [hz]; omega, B.notSynchronized, B.returns, hml, Nat.le_refl d, Nat.le_refl (36 * d), Nat.le_refl mc, Nat.le_refl ms⟩ hA ((name_of_methodNamed B.named B.method).1.trans hn) ⟨rfl, rfl, rfl⟩ ⟨hz, rfl, rfl⟩
  rw [lg_entry_eq]
  refine h1 s.heap [] _ hP va_S.rf hz ?_
  show lvO _ c.maxLocals _
  rw [hml]
  exact lvO_entry _ _ (fun v hv => by rcases List.mem_cons.mp hv with rfl | q; rfl; exact absurd q List.not_mem_nil) hl1
section FR
variable {G : GT} {C : CT} {j a b : Nat} {E : ET} {y : MT} {d pc npc : Nat} {l : List (Option Value)} {st : List Value}
theorem Fw.iconst {n : Int} {v : Int32} (hx : Cx G y d C) (hd : Dc y.2.1 pc (.iconst n) 1 npc) (hv : Int32.ofInt n = v) (kk : Fw G C j E a b npc l (.int v :: st)) : Fw G C j E a b pc l st := by
  obtain ⟨he, hb, -⟩ := hx; obtain ⟨hd, rfl⟩ := hd
  intro H locs ls hP hS hz hL
  exact lv_iconst he hb hd hv (kk H locs ls hP hS hz hL)
theorem Fw.bipush {n : Int} {v : Int32} (hx : Cx G y d C) (hd : Dc y.2.1 pc (.bipush n) 2 npc) (hv : (Int8.ofInt n).toInt32 = v) (kk : Fw G C j E a b npc l (.int v :: st)) : Fw G C j E a b pc l st := by
  obtain ⟨he, hb, -⟩ := hx; obtain ⟨hd, rfl⟩ := hd
  intro H locs ls hP hS hz hL
  exact lv_bipush he hb hd hv (kk H locs ls hP hS hz hL)
theorem Fw.sipush {n : Int} {v : Int32} (hx : Cx G y d C) (hd : Dc y.2.1 pc (.sipush n) 3 npc) (hv : (Int16.ofInt n).toInt32 = v) (kk : Fw G C j E a b npc l (.int v :: st)) : Fw G C j E a b pc l st := by
  obtain ⟨he, hb, -⟩ := hx; obtain ⟨hd, rfl⟩ := hd
  intro H locs ls hP hS hz hL
  exact lv_sipush he hb hd hv (kk H locs ls hP hS hz hL)
theorem Fw.iload_n {k : Fin 4} {x : Int32} (hx : Cx G y d C) (hd : Dc y.2.1 pc (.iload_n k) 1 npc) (hl : l[(k : Nat)]? = some (some (.int x))) (kk : Fw G C j E a b npc l (.int x :: st)) : Fw G C j E a b pc l st := by
  obtain ⟨he, hb, -⟩ := hx; obtain ⟨hd, rfl⟩ := hd
  intro H locs ls hP hS hz hL
  exact lv_iload_n he hb hd rfl (hL.2.2 _ _ hl) (kk H locs ls hP hS hz hL)
theorem Fw.aload_n {k : Fin 4} {x : Nat} (hx : Cx G y d C) (hd : Dc y.2.1 pc (.aload_n k) 1 npc) (hl : l[(k : Nat)]? = some (some (.ref x))) (kk : Fw G C j E a b npc l (.ref x :: st)) : Fw G C j E a b pc l st := by
  obtain ⟨he, hb, -⟩ := hx; obtain ⟨hd, rfl⟩ := hd
  intro H locs ls hP hS hz hL
  exact lv_aload_n he hb hd rfl (hL.2.2 _ _ hl) (kk H locs ls hP hS hz hL)
theorem Fw.istore_n {k : Fin 4} {x : Int32} (hx : Cx G y d C) (hd : Dc y.2.1 pc (.istore_n k) 1 npc) (hk : (k : Nat) < y.2.2.1) (hc : cat1 l = true) (kk : Fw G C j E a b npc (l.set (k : Nat) (some (.int x))) st) : Fw G C j E a b pc l (.int x :: st) := by
  obtain ⟨he, hb, -, -, -, -, -, -, -, hm, -⟩ := hx; obtain ⟨hd, rfl⟩ := hd
  intro H locs ls hP hS hz hL
  exact lv_istore_n he hb hd rfl (lvO_has hL) (by rw [hm]; exact hk) rfl (fun ls' h => kk H locs ls' hP hS hz (lvO_back (fun _ q => q) hc h))
theorem Fw.astore_n {k : Fin 4} {x : Nat} (hx : Cx G y d C) (hd : Dc y.2.1 pc (.astore_n k) 1 npc) (hk : (k : Nat) < y.2.2.1) (hc : cat1 l = true) (kk : Fw G C j E a b npc (l.set (k : Nat) (some (.ref x))) st) : Fw G C j E a b pc l (.ref x :: st) := by
  obtain ⟨he, hb, -, -, -, -, -, -, -, hm, -⟩ := hx; obtain ⟨hd, rfl⟩ := hd
  intro H locs ls hP hS hz hL
  exact lv_astore_n he hb hd rfl (lvO_has hL) (by rw [hm]; exact hk) rfl (fun ls' h => kk H locs ls' hP hS hz (lvO_back (fun _ q => q) hc h))
theorem Fw.iinc {k : Nat} {n : Int} {x v : Int32} (hx : Cx G y d C) (hd : Dc y.2.1 pc (.iinc k n) 3 npc) (hl : l[k]? = some (some (.int x))) (hv : x + Int32.ofInt n = v) (hk : k < y.2.2.1) (hc : cat1 l = true) (kk : Fw G C j E a b npc (l.set k (some (.int v))) st) : Fw G C j E a b pc l st := by
  obtain ⟨he, hb, -, -, -, -, -, -, -, hm, -⟩ := hx; obtain ⟨hd, rfl⟩ := hd
  intro H locs ls hP hS hz hL
  exact lv_iinc he hb hd (lvO_has1 hL hl) (k := 0) rfl hv (by rw [hm]; exact hk) rfl (fun ls' h => kk H locs ls' hP hS hz (lvO_back lv0_cons hc h))
theorem Fw.dup {v : Value} (hx : Cx G y d C) (hd : Dc y.2.1 pc (.dup) 1 npc) (hv : v.category = 1) (kk : Fw G C j E a b npc l (v :: v :: st)) : Fw G C j E a b pc l (v :: st) := by
  obtain ⟨he, hb, -⟩ := hx; obtain ⟨hd, rfl⟩ := hd
  intro H locs ls hP hS hz hL
  exact lv_dup he hb hd hv (kk H locs ls hP hS hz hL)
theorem Fw.goto {off : Int} {tgt : Nat} (hx : Cx G y d C) (hd : Dc y.2.1 pc (.goto off) 3 npc) (ht : (pc : Int) + off = (tgt : Int)) (kk : Fw G C j E a b tgt l st) : Fw G C j E a b pc l st := by
  obtain ⟨he, hb, -⟩ := hx; obtain ⟨hd, rfl⟩ := hd
  intro H locs ls hP hS hz hL
  exact lv_goto he hb hd ht (kk H locs ls hP hS hz hL)
theorem Fw.icmp_ge {x z : Int32} {off : Int} {tgt : Nat} (hx : Cx G y d C) (hd : Dc y.2.1 pc (.if_icmp .ge off) 3 npc) (ht : (pc : Int) + off = (tgt : Int)) (kt : z ≤ x → Fw G C j E a b tgt l st) (kf : ¬ z ≤ x → Fw G C j E a b npc l st) : Fw G C j E a b pc l (.int z :: .int x :: st) := by
  obtain ⟨he, hb, -⟩ := hx; obtain ⟨hd, rfl⟩ := hd
  intro H locs ls hP hS hz hL
  exact lv_icmp_ge he hb hd ht (fun h => kt h H locs ls hP hS hz hL) (fun h => kf h H locs ls hP hS hz hL)
theorem Fw.icmp_ge_t {x z : Int32} {off : Int} {tgt : Nat} (hx : Cx G y d C) (hd : Dc y.2.1 pc (.if_icmp .ge off) 3 npc) (ht : (pc : Int) + off = (tgt : Int)) (h : z ≤ x) (kt : Fw G C j E a b tgt l st) : Fw G C j E a b pc l (.int z :: .int x :: st) := Fw.icmp_ge hx hd ht (fun _ => kt) (fun q => absurd h q)
theorem Fw.icmp_ge_f {x z : Int32} {off : Int} {tgt : Nat} (hx : Cx G y d C) (hd : Dc y.2.1 pc (.if_icmp .ge off) 3 npc) (ht : (pc : Int) + off = (tgt : Int)) (h : ¬ z ≤ x) (kf : Fw G C j E a b npc l st) : Fw G C j E a b pc l (.int z :: .int x :: st) := Fw.icmp_ge hx hd ht (fun q => absurd q h) (fun _ => kf)
theorem Fw.icmp_gt {x z : Int32} {off : Int} {tgt : Nat} (hx : Cx G y d C) (hd : Dc y.2.1 pc (.if_icmp .gt off) 3 npc) (ht : (pc : Int) + off = (tgt : Int)) (kt : z < x → Fw G C j E a b tgt l st) (kf : ¬ z < x → Fw G C j E a b npc l st) : Fw G C j E a b pc l (.int z :: .int x :: st) := by
  obtain ⟨he, hb, -⟩ := hx; obtain ⟨hd, rfl⟩ := hd
  intro H locs ls hP hS hz hL
  exact lv_icmp_gt he hb hd ht (fun h => kt h H locs ls hP hS hz hL) (fun h => kf h H locs ls hP hS hz hL)
theorem Fw.icmp_gt_t {x z : Int32} {off : Int} {tgt : Nat} (hx : Cx G y d C) (hd : Dc y.2.1 pc (.if_icmp .gt off) 3 npc) (ht : (pc : Int) + off = (tgt : Int)) (h : z < x) (kt : Fw G C j E a b tgt l st) : Fw G C j E a b pc l (.int z :: .int x :: st) := Fw.icmp_gt hx hd ht (fun _ => kt) (fun q => absurd h q)
theorem Fw.icmp_gt_f {x z : Int32} {off : Int} {tgt : Nat} (hx : Cx G y d C) (hd : Dc y.2.1 pc (.if_icmp .gt off) 3 npc) (ht : (pc : Int) + off = (tgt : Int)) (h : ¬ z < x) (kf : Fw G C j E a b npc l st) : Fw G C j E a b pc l (.int z :: .int x :: st) := Fw.icmp_gt hx hd ht (fun q => absurd q h) (fun _ => kf)
theorem Fw.objInit {ix x : Nat} (hx : Cx G y d C) (hd : Dc y.2.1 pc (.invokespecial ix) 3 npc) (hm : Cond.methodLink y.1.cls ix Lib.objectInit ∈ Big) (h1 : 1 ≤ d) (hst : (st.map fun v => v.category).sum ≤ 8) (kk : Fw G C j E a b npc l st) : Fw G C j E a b pc l (.ref x :: st) := by
  obtain ⟨he, hb, ho, ht, hK, hX, hz0, hlk, hr, hml0, hr1, hr2, hr3, hr4⟩ := hx; obtain ⟨hd, rfl⟩ := hd
  intro H locs ls hP hS hz hL
  refine W.objInit he hb ho (ht _ hm) (ht _ ko_init.1) (ht _ ko_init.2) rfl hL.1 rfl hd (by omega) ?_ (kk H locs ls hP hS hz hL)
  have q := lv_room (m := cM C) (pc := pc) (ls := ls) (rest := .ref x :: st) hst
  omega
theorem Fw.new {ix ci N : Nat} {K : String} {T : u_T} {fs : List Value} (hx : Cx G y d C) (hd : Dc y.2.1 pc (.new ix) 3 npc) (hcl : Cond.classLink y.1.cls ix K ∈ Big) (hj : Cond.instantiable K N ∈ Big) (hi : Cond.initialized K ∈ Big) (hc : vwCl[ci]? = some (K, T, N)) (hw : ∀ w ∈ u_ws K T N, w ∈ Big) (ty : Nat → FieldType) (hty : ∀ k, k < N → parseFieldDescriptor (T k).2.2.1 = some (ty k)) (hfs : ∀ j, j < N → defaultValue (ty j) = vp_V fs j) (hca : a + 1 ≤ cK C) (hsl : b + N ≤ cN C)
    (kk : Fw G C (j + 1) (upE E j (.inr (ci, fs))) (a + 1) (b + N) npc l (adr G j :: st)) : Fw G C j E a b pc l st := by
  obtain ⟨he, hb, ho, ht, hK, hX, hz0, hlk, hr, hml0, hr1, hr2, hr3, hr4⟩ := hx; obtain ⟨hd, rfl⟩ := hd
  intro H locs ls hP hS hz hL
  have hKn := hK.1 ci _ hc
  refine W.newcK he hb ho (ht _ hcl) (ht _ hj) (ht _ hi) rfl hd (by omega) (by omega) hKn.2.1 hz fun H1 kC hkC e1 z1 o1 => ?_
  have hk : ∀ (k : Nat) (x : Nat × va_E), (wsE G j E)[k]? = some x → H1[x.1]? = H[x.1]? := fun k x hx => o1 x.1 (by rw [← hz]; exact (hP k x hx).lt)
  have hP1 : va_P (gD G) vwCl (wsE G j E ++ [(gB G + j, .inr (ci, fs))]) H1 := (hP.kept hk).app (fun k x hx => by
    have hzz : k < 1 := (List.getElem?_eq_some_iff.mp hx).1
    rw [show k = 0 by omega] at hx
    cases hx
    exact ⟨_, hc, (u_born ty ht hw hKn hkC e1 hty).to hfs⟩)
  rw [wsE_push] at hP1
  exact kk H1 locs ls hP1 ⟨Nat.le_trans hS.1 (by omega), fun x h1 h2 => (o1 x (by have := hS.1; omega)).trans (hS.2.1 x h1 h2), hS.2.2⟩ z1 hL
theorem Fw.newa {atype : ArrayType} {t n : Nat} {x : Int32} (hx : Cx G y d C) (hd : Dc y.2.1 pc (.newarray atype) 2 npc) (harr : Cond.arrayClass (newarray.typeOf atype) ∈ Big) (ht0 : (tysOf G)[t]? = some (gA G t, newarray.typeOf atype)) (hxn : x = nI n) (hn : n < 2 ^ 20) (hby : n * componentBytes (newarray.typeOf atype) ≤ 536870912) (hce : ∀ cA : ClassId, vp_cell cA (n, .inl (fun _ => 0)) = arrV cA n (fun _ => defaultValue (newarray.typeOf atype))) (hra : ∀ U : State, va_RA U (gA G t) (newarray.typeOf atype) → U.vm.findClass ("[" ++ (newarray.typeOf atype).toString) = some (gA G t)) (hca : a + 1 ≤ cK C) (hsl : b + n ≤ cN C)
    (kk : Fw G C (j + 1) (upE E j (.inl (gA G t, (n, .inl (fun _ => 0))))) (a + 1) (b + n) npc l (adr G j :: st)) : Fw G C j E a b pc l (.int x :: st) := by
  obtain ⟨he, hb, ho, ht, hK, hX, hz0, hlk, hr, hml0, hr1, hr2, hr3, hr4⟩ := hx; obtain ⟨hd, rfl⟩ := hd
  subst hxn
  intro H locs ls hP hS hz hL
  refine va_newaK he hb (ht _ harr) rfl hd rfl (nI_pos (by omega)) (nI_clamp (by omega)) hby (by omega) (by omega) hz fun H1 cA e1 z1 o1 hAr hNm => ?_
  have hcA : cA = gA G t := Option.some.inj (hNm.symm.trans (hra _ (hK.2 t _ ht0).2))
  subst hcA
  have hk : ∀ (k : Nat) (x : Nat × va_E), (wsE G j E)[k]? = some x → H1[x.1]? = H[x.1]? := fun k x hx => o1 x.1 (by rw [← hz]; exact (hP k x hx).lt)
  have hP1 : va_P (gD G) vwCl (wsE G j E ++ [(gB G + j, .inl (gA G t, (n, .inl (fun _ => 0))))]) H1 := (hP.kept hk).app (fun k x hx => by
    have hzz : k < 1 := (List.getElem?_eq_some_iff.mp hx).1
    rw [show k = 0 by omega] at hx
    cases hx
    show H1[gB G + j]? = some (vp_cell _ _)
    rw [hce]
    exact e1)
  rw [wsE_push] at hP1
  exact kk H1 locs ls hP1 ⟨Nat.le_trans hS.1 (by omega), fun x h1 h2 => (o1 x (by have := hS.1; omega)).trans (hS.2.1 x h1 h2), hS.2.2⟩ z1 hL
theorem Fw.anew {ix t n : Nat} {K : String} {x : Int32} (hx : Cx G y d C) (hd : Dc y.2.1 pc (.anewarray ix) 3 npc) (hcl : Cond.classLink y.1.cls ix K ∈ Big) (hov : va_AO K (cS C)) (ht0 : (tysOf G)[t]? = some (gA G t, .object K)) (hxn : x = nI n) (hn : n < 2 ^ 20) (hca : a + 1 ≤ cK C) (hsl : b + n ≤ cN C)
    (kk : Fw G C (j + 1) (upE E j (.inl (gA G t, (n, .inr (.inr (.inr (.inr (fun _ => none)))))))) (a + 1) (b + n) npc l (adr G j :: st)) : Fw G C j E a b pc l (.int x :: st) := by
  obtain ⟨he, hb, ho, ht, hK, hX, hz0, hlk, hr, hml0, hr1, hr2, hr3, hr4⟩ := hx; obtain ⟨hd, rfl⟩ := hd
  subst hxn
  have hcl2 : (nI n).toNatClampNeg = n := nI_clamp (by omega)
  intro H locs ls hP hS hz hL
  refine W.anew he hb ho (ht _ hcl) (va_AO.use hov) rfl hd rfl (nI_pos (by omega)) (by rw [hcl2]; omega) (by omega) (by rw [hcl2]; omega) fun cA kA comp f1 f2 f3 f4 => ?_
  rw [hcl2]
  generalize hH1 : H.push ({ cls := cA, slots := Array.replicate n .null, vm := .none } : Cell) = H1
  have z1 : H1.size = H.size + 1 := by rw [← hH1, Array.size_push]
  have e1 : H1[H.size]? = some (arrV cA n (fun _ => .null)) := by rw [← hH1, Array.getElem?_push_size, ← arrV_new]
  have o1 : ∀ q : Nat, q < H.size → H1[q]? = H[q]? := fun q hq => by rw [← hH1, Array.getElem?_push, if_neg (Nat.ne_of_lt hq)]
  obtain ⟨kA2, comp2, -, -, -, g4⟩ := (hK.2 t _ ht0).2
  have hcA : cA = gA G t := Option.some.inj (f1.symm.trans g4)
  subst hcA
  have hk : ∀ (k : Nat) (x : Nat × va_E), (wsE G j E)[k]? = some x → H1[x.1]? = H[x.1]? := fun k x hx => o1 x.1 (hP k x hx).lt
  have hP1 : va_P (gD G) vwCl (wsE G j E ++ [(gB G + j, .inl (gA G t, (n, .inr (.inr (.inr (.inr (fun _ => none)))))))]) H1 := (hP.kept hk).app (fun k x hx => by
    have hzz : k < 1 := (List.getElem?_eq_some_iff.mp hx).1
    rw [show k = 0 by omega] at hx
    cases hx
    show H1[gB G + j]? = some (vp_cell _ _)
    rw [vp_cell_q, ← hz]
    exact e1)
  rw [wsE_push] at hP1
  rw [hz]
  exact kk H1 locs ls hP1 ⟨Nat.le_trans hS.1 (by omega), fun x h1 h2 => (o1 x (by have := hS.1; omega)).trans (hS.2.1 x h1 h2), hS.2.2⟩ (by omega) hL
/-- a field of a class, to be set where the object is made -/
def PN (own : String) (ix ci i : Nat) (f : Bool) (ty : FieldType) : Prop := ∃ (K : String) (T : u_T) (N : Nat) (ty0 : Nat → FieldType), vwCl[ci]? = some (K, T, N) ∧ (∀ w ∈ u_ws K T N, w ∈ Big) ∧ i < N ∧ Cond.fieldLink own ix K (T i).2.1 (T i).2.2.1 ∈ Big ∧ (T i).1 = K ∧ K = own ∧ (∀ k, k < N → parseFieldDescriptor (T k).2.2.1 = some (ty0 k)) ∧ (∀ a, a < N → ∀ b, b < N → a ≠ b → (T a).2.1 ≠ (T b).2.1) ∧ (T i).2.2.2 = f ∧ parseFieldDescriptor (T i).2.2.1 = some ty
theorem fw_sz {H1 : Heap} {locs1 : List Loc} {g : JFrame} (hj : (cS C).heap.size + a = gB G + j) (hj0 : 0 < j) (hP1 : va_P (gD G) vwCl (wsE G j E) H1) (kk : H1.size = gB G + j → W (cP C) G.1 (cE C) (cR C) (cS C) (cM C) (cA C) (cB C) (cMe C) (cC C) H1 locs1 a b (cQ C) g) : W (cP C) G.1 (cE C) (cR C) (cS C) (cM C) (cA C) (cB C) (cMe C) (cC C) H1 locs1 a b (cQ C) g := by
  intro T hT X
  have h1 := X.heapSize
  rw [hT, hj] at h1
  have h2 := (hP1 (j - 1) _ (wsE_at (by omega))).lt
  exact kk (by omega) T hT X
theorem Fw.put {ix ci i k : Nat} {f : Bool} {ty : FieldType} {v : Value} {fs : List Value} (hx : Cx G y d C) (hj : (cS C).heap.size + a = gB G + j) (hn : (cMe C).name = "<init>") (hd : Dc y.2.1 pc (.putfield ix) 3 npc) (hf : PN y.1.cls ix ci i f ty) (hk : k < j) (hE : E k = .inr (ci, fs)) (hfit : narrow ty v = v ∧ fits ty v = true) (hl : i < fs.length) (kk : Fw G C j (upE E k (.inr (ci, fs.set i v))) a b npc l st) : Fw G C j E a b pc l (v :: adr G k :: st) := by
  obtain ⟨he, hb, ho, ht, hK, -⟩ := hx; obtain ⟨hd, rfl⟩ := hd
  obtain ⟨K, T, N, ty0, h1, h2, h3, h4, h5, h6, h7, h8, h9, h10⟩ := hf
  intro H locs ls hP hS hz hL
  cases f with
  | false =>
    refine va_put (D := gD G) (ws := wsE G j E) he hb ht h2 ty0 h7 h8 ho hK hP wsE_D hS k (by rw [wsE_at hk, hE]) h1 i h3 (ht _ h4) (fun x hxx => by rw [h5] at hxx; exact hxx) h9 h10 hfit.1 hfit.2 hl hd (fun H1 locs1 hP1 hD1 hS1 => ?_)
    rw [wsE_set hk] at hP1
    exact fw_sz hj (by omega) hP1 (fun hz1 => kk H1 locs1 ls hP1 hS1 hz1 hL)
  | true =>
    refine va_putF (D := gD G) (ws := wsE G j E) he hb ht h2 ty0 h7 h8 ho hK hP wsE_D hS k (by rw [wsE_at hk, hE]) h1 i h3 (ht _ h4) (fun x hxx => by rw [h5] at hxx; exact hxx) h9 hn (h5.trans h6) h10 hfit.1 hfit.2 hl hd (fun H1 locs1 hP1 hD1 hS1 => ?_)
    rw [wsE_set hk] at hP1
    exact fw_sz hj (by omega) hP1 (fun hz1 => kk H1 locs1 ls hP1 hS1 hz1 hL)
theorem Fw.get {ix ci i k : Nat} {f : Bool} {ty : FieldType} {v : Value} {fs : List Value} (hx : Cx G y d C) (hd : Dc y.2.1 pc (.getfield ix) 3 npc) (hf : PN y.1.cls ix ci i f ty) (hk : k < j) (hE : E k = .inr (ci, fs)) (hv : fs[i]? = some v) (kk : Fw G C j E a b npc l (v :: st)) : Fw G C j E a b pc l (adr G k :: st) := by
  obtain ⟨he, hb, ho, ht, hK, -⟩ := hx; obtain ⟨hd, rfl⟩ := hd
  obtain ⟨K, T, N, ty0, h1, h2, h3, h4, h5, h6, h7, h8, h9, h10⟩ := hf
  intro H locs ls hP hS hz hL
  exact va_get (D := gD G) (ws := wsE G j E) he hb ht h2 ho hK hP k (by rw [wsE_at hk, hE]) h1 i h3 (ht _ h4) (fun x hxx => by rw [h5] at hxx; exact hxx) hv hd (kk H locs ls hP hS hz hL)
theorem Fw.iast {k t n i : Nat} {f : Nat → Int32} {x z : Int32} (hx : Cx G y d C) (hj : (cS C).heap.size + a = gB G + j) (hd : Dc y.2.1 pc (.iastore) 1 npc) (ht0 : (tysOf G)[t]? = some (gA G t, .int)) (hk : k < j) (hE : E k = .inl (gA G t, (n, .inl f))) (hzi : z = nI i) (hi : i < n) (hn : n < 2 ^ 31) (kk : Fw G C j (upE E k (.inl (gA G t, (n, .inl (upd f i x))))) a b npc l st) : Fw G C j E a b pc l (.int x :: .int z :: adr G k :: st) := by
  obtain ⟨he, hb, ho, ht, hK, -⟩ := hx; obtain ⟨hd, rfl⟩ := hd
  obtain ⟨hin, hc⟩ := ix_in hn hzi hi
  intro H locs ls hP hS hz hL
  refine va_iast (D := gD G) (ws := wsE G j E) he hb hK hP wsE_D hS k t (by rw [wsE_at hk, hE]) ht0 hin hd (fun H1 locs1 hP1 hD1 hS1 => ?_)
  rw [hc, wsE_set hk] at hP1
  exact fw_sz hj (by omega) hP1 (fun hz1 => kk H1 locs1 ls hP1 hS1 hz1 hL)
theorem Fw.aast {k t n i w ci N : Nat} {K : String} {T : u_T} {vs : List Value} {f : Nat → Option Nat} {z : Int32} (hx : Cx G y d C) (hj : (cS C).heap.size + a = gB G + j) (hd : Dc y.2.1 pc (.aastore) 1 npc) (ht0 : (tysOf G)[t]? = some (gA G t, .object K)) (hc : vwCl[ci]? = some (K, T, N)) (hk : k < j) (hE : E k = .inl (gA G t, (n, .inr (.inr (.inr (.inr f)))))) (hw : w < j) (hEw : E w = .inr (ci, vs)) (hzi : z = nI i) (hi : i < n) (hn : n < 2 ^ 31) (kk : Fw G C j (upE E k (.inl (gA G t, (n, .inr (.inr (.inr (.inr (va_up f i (some (gB G + w))))))))) ) a b npc l st) : Fw G C j E a b pc l (adr G w :: .int z :: adr G k :: st) := by
  obtain ⟨he, hb, ho, ht, hK, -⟩ := hx; obtain ⟨hd, rfl⟩ := hd
  obtain ⟨hin, hcl⟩ := ix_in hn hzi hi
  intro H locs ls hP hS hz hL
  refine va_astq (D := gD G) (ws := wsE G j E) he hb hK hP wsE_D hS k t w ci (by rw [wsE_at hk, hE]) (r := (K, T, N)) ht0 (by rw [wsE_at hw, hEw]) hc hin hd (fun H1 locs1 hP1 hD1 hS1 => ?_)
  rw [hcl, wsE_set hk] at hP1
  exact fw_sz hj (by omega) hP1 (fun hz1 => kk H1 locs1 ls hP1 hS1 hz1 hL)
/-- an array of references is told by what stands below its length -/
theorem Fw.arr {k n : Nat} {cA : ClassId} {f g : Nat → Option Nat} (hk : k < j) (hE : E k = .inl (cA, (n, .inr (.inr (.inr (.inr f)))))) (hfg : ∀ i, i < n → f i = g i) (kk : Fw G C j (upE E k (.inl (cA, (n, .inr (.inr (.inr (.inr g))))))) a b pc l st) : Fw G C j E a b pc l st := by
  intro H locs ls hP hS hz hL
  refine kk H locs ls (fun i q hq => ?_) hS hz hL
  have hi : i < j := by
    have := (List.getElem?_eq_some_iff.mp hq).1
    rwa [wsE_len] at this
  rw [wsE_at hi] at hq
  cases hq
  have h1 := hP i _ (wsE_at hi)
  by_cases hik : i = k
  · subst hik
    rw [hE] at h1
    rw [upE_s]
    have h2 : H[gB G + i]? = some (vp_cell cA (n, .inr (.inr (.inr (.inr f))))) := h1
    show H[gB G + i]? = some (vp_cell cA (n, .inr (.inr (.inr (.inr g)))))
    rw [h2, vp_cell_q, vp_cell_q]
    unfold arrV
    congr 2
    congr 1
    funext q
    exact congrArg va_rf (hfg q.val q.isLt)
  · rw [upE_n _ _ hik]
    exact h1
theorem Fw.same {E' : ET} (h : ∀ q, q < j → E q = E' q) (kk : Fw G C j E' a b pc l st) : Fw G C j E a b pc l st := by
  intro H locs ls hP hS hz hL
  rw [wsE_c h] at hP
  exact kk H locs ls hP hS hz hL
theorem wk_blind {as : List Value} : FrameBlind (va_Pc as (Wk G j E)) := by
  intro x U g mk h
  obtain ⟨h1, h2, h3, h4, h5, h6⟩ := h
  exact ⟨h1, h2, va_K.moved (u := U) (U := U.calling g mk x) (Vm.Alike.refl U.vm) h3, Xt.same (u := U) (U := U.calling g mk x) rfl h4, h5, AOs.moved (u := U) (U := U.calling g mk x) (Vm.Alike.refl U.vm) h6⟩
theorem wk_pre {as : List Value} {H : Heap} {locs : List Loc} (hx : Cx G y d C) (hA : AOs (cS C)) (hP : va_P (gD G) vwCl (wsE G j E) H) (hS : va_S (Ar G) (cS C).heap H locs) (hz : H.size = gB G + j) : ∀ U : State, U.heap = H → (cS C).WarmedH U.vm → va_Pc as (Wk G j E) as.toArray U := by
  obtain ⟨he, hb, ho, ht, hK, hX, hz0, -⟩ := hx
  intro U hU hW
  exact ⟨rfl, by rw [hU]; exact hP, va_K.moved hW.alike hK, by rw [hU]; exact (hX.kept hS.2.1).warm hW, by rw [hU]; exact hz, hA.moved hW.alike⟩
theorem Fw.ofRun {j' mc ms : Nat} {E' : ET} {x : Array Value} {rest st0 : List Value} {H : Heap} {locs : List Loc} {ls : Array Slot} (hS : va_S (Ar G) (cS C).heap H locs) (hL : lvO ls (cC C).maxLocals l)
    (hr : va_Run (cP C) G.1 (cE C) (cR C) (cS C) (cM C) (cA C) (cB C) (cMe C) (cC C) H locs a b mc ms (F0 (cM C) pc ls st0) rest (QK G j' E' x) (Ar G)) (kk : Fw G C j' E' (a + mc) (b + ms) (pc + 3) l rest) : W (cP C) G.1 (cE C) (cR C) (cS C) (cM C) (cA C) (cB C) (cMe C) (cC C) H locs a b (cQ C) (F0 (cM C) pc ls st0) := by
  intro T hT X
  obtain ⟨v, st₀, t, T', L, h0, X', hL2, e1, e2, ⟨⟨hv, hw⟩, hz, hk⟩, stp⟩ := hr T hT X
  cases hv
  rw [h0] at hz hk
  have hS1 : va_S (Ar G) (cS C).heap T'.heap (locs ++ L) := ⟨Nat.le_trans hS.1 (by rw [e1]; exact hz), fun q h1 h2 => by rw [e1, hk q (Nat.lt_of_lt_of_le h1 hS.1) h2]; exact hS.2.1 q h1 h2, fun q hq => by
      rcases List.mem_append.mp hq with h | h
      · exact hS.2.2 q h
      · exact hL2 q h⟩
  obtain ⟨t2, a1, b1⟩ := kk T'.heap (locs ++ L) ls (by rw [e1]; exact hw.1) hS1 (by rw [e1]; exact hw.2.2.2.1) hL T' rfl X'
  exact ⟨t2, stp t2 a1, b1⟩
theorem Fw.callI {y' : MT} {d' mc ms k n ix : Nat} {dfl : va_E} (hx : Cx G y d C) (hA : AOs (cS C)) (hd : Dc y.2.1 pc (.invokespecial ix) 3 npc) (hm : Cond.methodLink y.1.cls ix y'.1 ∈ Big) (cf : CFm y' 0) (ci : Cond.instanceMethod y'.1 ∈ Big) (hn : y'.1.name = "<init>") (hrn : y'.2.2.2 = none) (hc : Kt G y' d' mc ms k n dfl) (hE : E k = dfl) (hd' : d' + 1 ≤ d) (hml : y'.2.2.1 ≤ 17) (hca : a + mc ≤ cK C) (hsl : b + ms ≤ cN C) (hw : (st.map fun v => v.category).sum ≤ 8)
    (kk : Fw G C (k + n) (fin G k E) (a + mc) (b + ms) npc l st) : Fw G C (k + 1) E a b pc l (adr G k :: st) := by
  have hx0 := hx
  obtain ⟨he, hb, ho, ht, hK, hX, hz0, hlk, hr, hml0, hr1, hr2, hr3, hr4⟩ := hx; obtain ⟨hd, rfl⟩ := hd
  intro H locs ls hP hS hz hL
  refine Fw.ofRun hS hL (va_runI (As := []) (rest := st) (mc := mc) (ms := ms) ⟨he, hb, hL.1 ▸ rfl, ho, ht⟩ (hc E hE) (cwI 0 ht (ws := wsY y') (ws' := Big) (big_ws cf) (by unfold wsY; rw [hrn]) rfl rfl (ht _ cf.2.1) (ht _ hm) (ht _ ci) hn cf.2.2.1 ⟨?_, ?_⟩) ⟨wk_blind, wk_pre hx0 hA hP hS hz⟩ rfl rfl hL.1 rfl (lv_room hw) hd ⟨by omega, by omega⟩) kk
  · show d' + 1 ≤ _
    omega
  · show 8 + (y'.2.2.1 + 11) + 36 * d' ≤ _
    omega
theorem Fw.callIN {y' : MT} {d' mc ms k n ix : Nat} {host : String} {dfl : va_E} (hx : Cx G y d C) (hA : AOs (cS C)) (hd : Dc y.2.1 pc (.invokespecial ix) 3 npc) (hm : (y.1.cls, ix, y'.1, host) ∈ nwM) (cf : CFm y' 0) (ci : Cond.instanceMethod y'.1 ∈ Big) (hn : y'.1.name = "<init>") (hrn : y'.2.2.2 = none) (hc : Kt G y' d' mc ms k n dfl) (hE : E k = dfl) (hd' : d' + 1 ≤ d) (hml : y'.2.2.1 ≤ 17) (hca : a + mc ≤ cK C) (hsl : b + ms ≤ cN C) (hw : (st.map fun v => v.category).sum ≤ 8)
    (kk : Fw G C (k + n) (fin G k E) (a + mc) (b + ms) npc l st) : Fw G C (k + 1) E a b pc l (adr G k :: st) := by
  have hx0 := hx
  obtain ⟨he, hb, ho, ht, hK, hX, hz0, hlk, hr, hml0, hr1, hr2, hr3, hr4⟩ := hx; obtain ⟨hd, rfl⟩ := hd
  intro H locs ls hP hS hz hL
  refine Fw.ofRun hS hL (va_runIN (As := []) (rest := st) (mc := mc) (ms := ms) ⟨he, hb, hL.1 ▸ rfl, ho, ht⟩ (hc E hE) ⟨va_cnB 0 ht (ws := wsY y') (ws' := Big) (big_ws cf) (by unfold wsY; rw [hrn]) rfl rfl (hX.2.1 _ hm) (ht _ cf.2.1) cf.2.2.1 ⟨?_, ?_⟩, hn, ht _ ci⟩ ⟨wk_blind, wk_pre hx0 hA hP hS hz⟩ rfl rfl hL.1 rfl (lv_room hw) hd ⟨by omega, by omega⟩) kk
  · show d' + 1 ≤ _
    omega
  · show 8 + (y'.2.2.1 + 11) + 36 * d' ≤ _
    omega
theorem Fw.vret {j' mc ms : Nat} {E' : ET} (hx : Cx G y d C) (hA : AOs (cS C)) (hq : Kq G j' E' mc ms C) (hd : Dc y.2.1 pc (.return_) 1 npc) (hr : y.2.2.2 = none) (hj : j = j') (ha : a ≤ mc) (hb' : b ≤ ms) (hE : ∀ q, q < j → E q = E' q) : Fw G C j E a b pc l [] := by
  obtain ⟨he, hb, ho, ht, hK, hX, hz0, hlk, hrt, -⟩ := hx; obtain ⟨hd, rfl⟩ := hd
  obtain ⟨e1, e2, e3⟩ := hq
  subst hj
  intro H locs ls hP hS hz hL
  rw [wsE_c hE] at hP
  rw [e1]
  refine W.widen ha hb' ?_
  exact W.vret he hb (hrt.trans hr) (fun t ht' hW => ⟨⟨rfl, by rw [ht']; exact hP, va_K.moved hW.alike hK, by rw [ht']; exact (hX.kept hS.2.1).warm hW, by rw [ht']; exact hz, hA.moved hW.alike⟩, hS.F ht'⟩) hS.2.2 hd hlk
theorem Fw.toEw {V : Mm} (hE : ∀ q, q < 532 → E q = entF G q (V q)) (h : Ew G C V pc l st) (ha : a = cK C) (hb' : b = cN C) : Fw G C 532 E a b pc l st := by
  subst ha; subst hb'
  intro H locs ls hP hS hz hL
  have e : wsE G 532 E = wsOf G V := by rw [wsE_c hE]; rfl
  rw [e] at hP
  exact h H locs ls hP hS hL
end FR
