/-! The world: 532 cells from the address gB G on, in the order of their making; V k i is the number in slot i of cell k. -/
abbrev Mm : Type := Nat → Nat → Int32
abbrev XT : Type := Nat × Nat × (Nat → Int32)
abbrev GT : Type := Launch × va_G × Nat × (Nat → ClassId) × XT
abbrev gD (G : GT) : va_G := G.2.1
abbrev gB (G : GT) : Nat := G.2.2.1
abbrev gA (G : GT) : Nat → ClassId := G.2.2.2.1
abbrev gX (G : GT) : XT := G.2.2.2.2
abbrev adr (G : GT) (k : Nat) : Value := .ref (gB G + k)
def mup (V : Mm) (k i : Nat) (x : Int32) : Mm := fun a => if a = k then upd (V k) i x else V a
theorem mup_same (V : Mm) (k i : Nat) (x : Int32) : mup V k i x k = upd (V k) i x := by simp [mup]
theorem mup_ne (V : Mm) {k a : Nat} (i : Nat) (x : Int32) (h : a ≠ k) : mup V k i x a = V a := by simp [mup, h]
/-- what stands at a place of a season, of a state, of all -/
def kZ (j : Nat) : Nat := if j = 0 then 2 else if j = 1 then 3 else if j = 2 then 4 else if j = 3 then 5 else if j < 6 then 6 else if j = 6 then 7 else if j = 7 then 8 else if j < 12 then 9 else 10
def kS (j : Nat) : Nat := if j = 0 then 1 else if j < 25 then kZ (j - 1) else if j = 25 then 11 else if j = 26 then 12 else kZ ((j - 27) % 24)
def kT (j : Nat) : Nat := if j = 0 then 15 else if j = 1 then 16 else if j = 2 then 17 else 18
def kd (k : Nat) : Nat := if k < 532 then (if k < 528 then (if k = 0 then 0 else if k < 76 then kS (k - 1) else if k = 76 then 13 else if k = 77 then 14 else kS ((k - 78) % 75)) else kT (k - 528)) else 99
def okind (c : Nat) : Option (Nat × List (Option Nat)) := match c with
  | 0 => some (9, [some 1, some 76, some 528])
  | 1 => some (6, [some 1, some 25, some 26])
  | 2 => some (5, [some 1, some 3, some 6, some 7, none, none])
  | 3 => some (8, [none, none, some 1])
  | 5 => some (0, [some 1, some 2, none])
  | 9 => some (4, [none, none, none])
  | 10 => some (2, [none, none, none, none, none, none, none, none, none, none, none, none])
  | 13 => some (1, [some 1, none, none])
  | 15 => some (3, [some 1, some 3, none, none, none, none])
  | 16 => some (7, [some 1, none, none, none])
  | _ => none
def akind (c : Nat) : Option (Nat × Nat) := match c with
  | 4 => some (0, 26)
  | 6 => some (0, 3)
  | 12 => some (2, 2)
  | 17 => some (1, 140)
  | 18 => some (0, 4)
  | _ => none
def rkind (c : Nat) : Option (Nat × Nat × Nat × Nat) := match c with
  | 7 => some (4, 4, 2, 1)
  | 8 => some (5, 12, 5, 1)
  | 11 => some (3, 2, 2, 24)
  | 14 => some (6, 6, 1, 75)
  | _ => none
def fval (b k : Nat) (f : Nat → Int32) (q : Option Nat × Nat) : Value := match q.1 with
  | none => .int (f q.2)
  | some o => .ref (b + (k + o))
def ofl (b k : Nat) (f : Nat → Int32) (fs : List (Option Nat)) : List Value := fs.zipIdx.map (fval b k f)
def entF (G : GT) (k : Nat) (f : Nat → Int32) : va_E := match okind (kd k) with
  | some (ci, fs) => .inr (ci, ofl (gB G) k f fs)
  | none => match akind (kd k) with
    | some (t, n) => .inl (gA G t, (n, .inl f))
    | none => match rkind (kd k) with
      | some (t, n, o, sd) => .inl (gA G t, (n, .inr (.inr (.inr (.inr (fun i => some (gB G + (k + o + sd * i))))))))
      | none => .inl (gA G 0, (0, .inl f))
def wsOf (G : GT) (V : Mm) : va_W := (List.range 532).map (fun k => (gB G + k, entF G k (V k)))
abbrev tysOf (G : GT) : List (ClassId × FieldType) := [(gA G 0, .int), (gA G 1, .char), (gA G 2, .boolean), (gA G 3, .object "RampPermits$Season"), (gA G 4, .object "RampPermits$Ramp"), (gA G 5, .object "RampPermits$Permit"), (gA G 6, .object "RampPermits$State")]
def Ar (G : GT) : Nat → Prop := fun q => gB G ≤ q
theorem kd_lt {k c : Nat} (h : kd k = c) (hc : c ≠ 99) : k < 532 := by
  unfold kd at h
  by_cases hk : k < 532
  · exact hk
  · rw [if_neg hk] at h
    exact absurd h.symm hc
theorem ws_at {G : GT} {V : Mm} {k : Nat} (h : k < 532) : (wsOf G V)[k]? = some (gB G + k, entF G k (V k)) := by
  simp [wsOf, List.getElem?_range h]
theorem ws_len {G : GT} {V : Mm} : (wsOf G V).length = 532 := by simp [wsOf]
theorem ws_set {G : GT} {V V' : Mm} {k : Nat} {e : va_E} (he : entF G k (V' k) = e) (h2 : ∀ j, j ≠ k → V' j = V j) : (wsOf G V).set k (gB G + k, e) = wsOf G V' := by
  apply List.ext_getElem?
  intro j
  by_cases hj : j < 532
  · by_cases hjk : j = k
    · subst hjk
      rw [List.getElem?_set_self (by rw [ws_len]; exact hj), ws_at hj, he]
    · rw [List.getElem?_set_ne (Ne.symm hjk), ws_at hj, ws_at hj, h2 j hjk]
  · rw [List.getElem?_eq_none (by rw [List.length_set, ws_len]; omega), List.getElem?_eq_none (by rw [ws_len]; omega)]
theorem ws_D {G : GT} {V : Mm} : va_D (Ar G) (wsOf G V) := by
  have key : ∀ (k : Nat) (q : Nat × va_E), (wsOf G V)[k]? = some q → q.1 = gB G + k := by
    intro k q h
    have hk : k < 532 := by
      have := (List.getElem?_eq_some_iff.mp h).1
      rwa [ws_len] at this
    rw [ws_at hk] at h
    cases h
    rfl
  refine ⟨fun i j p q hi hj h => ?_, fun k q h => ?_⟩
  · have h1 := key i p hi
    have h2 := key j q hj
    omega
  · show gB G ≤ q.1
    rw [key k q h]
    omega
theorem ent_o {G : GT} {k c ci : Nat} {f : Nat → Int32} {fs : List (Option Nat)} (hk : kd k = c) (ho : okind c = some (ci, fs)) : entF G k f = .inr (ci, ofl (gB G) k f fs) := by
  unfold entF
  rw [hk, ho]
theorem ent_a {G : GT} {k c t n : Nat} {f : Nat → Int32} (hk : kd k = c) (ho : okind c = none) (ha : akind c = some (t, n)) : entF G k f = .inl (gA G t, (n, .inl f)) := by
  unfold entF
  rw [hk, ho, ha]
theorem ent_r {G : GT} {k c t n o sd : Nat} {f : Nat → Int32} (hk : kd k = c) (ho : okind c = none) (ha : akind c = none) (hr : rkind c = some (t, n, o, sd)) : entF G k f = .inl (gA G t, (n, .inr (.inr (.inr (.inr (fun i => some (gB G + (k + o + sd * i)))))))) := by
  unfold entF
  rw [hk, ho, ha, hr]
theorem ofl_at {b k i : Nat} {f : Nat → Int32} {fs : List (Option Nat)} {o : Option Nat} (h : fs[i]? = some o) : (ofl b k f fs)[i]? = some (fval b k f (o, i)) := by
  simp [ofl, List.getElem?_zipIdx, h]
theorem ofl_len {b k : Nat} {f : Nat → Int32} {fs : List (Option Nat)} : (ofl b k f fs).length = fs.length := by simp [ofl]
theorem ofl_set {b k i : Nat} {f : Nat → Int32} {fs : List (Option Nat)} (h : fs[i]? = some none) (x : Int32) : (ofl b k f fs).set i (.int x) = ofl b k (upd f i x) fs := by
  apply List.ext_getElem?
  intro j
  have hi : i < fs.length := (List.getElem?_eq_some_iff.mp h).1
  by_cases hij : j = i
  · subst hij
    rw [List.getElem?_set_self (by rw [ofl_len]; exact hi), ofl_at h]
    simp [fval, upd]
  · rw [List.getElem?_set_ne (Ne.symm hij)]
    cases hj : fs[j]? with
    | none =>
      have hl : fs.length ≤ j := by simpa using hj
      rw [List.getElem?_eq_none (by rw [ofl_len]; exact hl), List.getElem?_eq_none (by rw [ofl_len]; exact hl)]
    | some o =>
      rw [ofl_at hj, ofl_at hj]
      cases o <;> simp [fval, upd, hij]
/-! What lies outside and is never written: words on nest mates, the script. -/
abbrev xB (G : GT) : Nat := (gX G).1
abbrev xL (G : GT) : Nat := (gX G).2.1
abbrev xX (G : GT) : Nat → Int32 := (gX G).2.2
def nwM : List (String × Nat × MethodName × String) := [(RX7, 11, yX10_init, RX11), (RX7, 20, yX2_init, RX11), (RX7, 37, yX6_init, RX11), (RX7, 38, yX4_init, RX11), (RX11, 25, yX5_init, RX11), (RX5, 11, yX9_init, RX11), (RX7, 59, yX11_isWithin, RX11), (RX2, 28, yX11_isWithin, RX11), (RX7, 85, yX11_isPermitSpan, RX11), (RX8, 30, yX11_isWithin, RX11), (RX3, 30, yX11_isWithin, RX11)]
def Xt (G : GT) (U : State) (H : Heap) : Prop :=
  (va_X (xB G) (xL G) (xX G) U H ∧ xB G < H.size ∧ ¬ Ar G (xB G) ∧ xL G ≤ 260) ∧ (∀ w ∈ nwM, va_Nw (.methodLinkNest w.1 w.2.1 w.2.2.1 w.2.2.2) U) ∧ True
theorem Xt.warm {G : GT} {s U : State} {H : Heap} (hW : s.WarmedH U.vm) (h : Xt G s H) : Xt G U H :=
  ⟨⟨h.1.1.moved hW.alike, h.1.2⟩, fun w hw => (h.2.1 w hw).warmM hW, trivial⟩
theorem Xt.same {G : GT} {u U : State} {H : Heap} (hv : U.vm = u.vm) (h : Xt G u H) : Xt G U H :=
  ⟨⟨h.1.1.moved (hv ▸ Vm.Alike.refl u.vm), h.1.2⟩, fun w hw => (h.2.1 w hw).same rfl hv.symm, trivial⟩
theorem Xt.kept {G : GT} {U : State} {H H1 : Heap} (h : Xt G U H) (hq : ∀ a : Nat, a < H.size → ¬ Ar G a → H1[a]? = H[a]?) : Xt G U H1 := by
  obtain ⟨⟨h1, h2, h3, h4⟩, h5⟩ := h
  have e := hq _ h2 h3
  refine ⟨⟨h1.kept e, ?_, h3, h4⟩, h5⟩
  obtain ⟨scr, q, -⟩ := h1
  rw [q] at e
  exact (Array.getElem?_eq_some_iff.mp e).1
/-- the world at a state -/
def Wd (G : GT) (V : Mm) (U : State) : Prop := va_P (gD G) vwCl (wsOf G V) U.heap ∧ va_K (gD G) vwCl (tysOf G) U ∧ Xt G U U.heap ∧ gB G ≤ U.heap.size
/-- a walk's place: what a row of the kit speaks of, in one -/
abbrev CT : Type := Program × Env × Room × State × MethodId × Array Value × List Frame × Method × Code × (State → Prop) × Nat × Nat
abbrev cP (C : CT) : Program := C.1
abbrev cE (C : CT) : Env := C.2.1
abbrev cR (C : CT) : Room := C.2.2.1
abbrev cS (C : CT) : State := C.2.2.2.1
abbrev cM (C : CT) : MethodId := C.2.2.2.2.1
abbrev cA (C : CT) : Array Value := C.2.2.2.2.2.1
abbrev cB (C : CT) : List Frame := C.2.2.2.2.2.2.1
abbrev cMe (C : CT) : Method := C.2.2.2.2.2.2.2.1
abbrev cC (C : CT) : Code := C.2.2.2.2.2.2.2.2.1
abbrev cQ (C : CT) : State → Prop := C.2.2.2.2.2.2.2.2.2.1
abbrev cK (C : CT) : Nat := C.2.2.2.2.2.2.2.2.2.2.1
abbrev cN (C : CT) : Nat := C.2.2.2.2.2.2.2.2.2.2.2
def lvO (ls : Array Slot) (n : Nat) (l : List (Option Value)) : Prop := ls.size = n ∧ lv_wf ls ∧ ∀ (i : Nat) (v : Value), l[i]? = some (some v) → ls[i]? = some (.val v)
def Ew (G : GT) (C : CT) (V : Mm) (pc : Nat) (l : List (Option Value)) (st : List Value) : Prop :=
  ∀ (H : Heap) (locs : List Loc) (ls : Array Slot), va_P (gD G) vwCl (wsOf G V) H → va_S (Ar G) (cS C).heap H locs → lvO ls (cC C).maxLocals l → W (cP C) G.1 (cE C) (cR C) (cS C) (cM C) (cA C) (cB C) (cMe C) (cC C) H locs (cK C) (cN C) (cQ C) (F0 (cM C) pc ls st)
def Cx (G : GT) (y : MT) (d : Nat) (C : CT) : Prop :=
  (cP C).tables.exec = Jvm.exec ∧ (cC C).code = y.2.1 ∧ (cS C).vm.findClass y.1.cls = some (cM C).cls ∧ (∀ w ∈ Big, w.before (cA C) (cS C) = true) ∧ va_K (gD G) vwCl (tysOf G) (cS C) ∧ Xt G (cS C) (cS C).heap ∧ gB G ≤ (cS C).heap.size ∧ (cMe C).locks = false ∧ (cMe C).sig.returnType = y.2.2.2 ∧ (cC C).maxLocals = y.2.2.1 ∧ (d ≤ (cR C).frames ∧ 36 * d ≤ (cR C).locals ∧ cK C ≤ (cR C).cells ∧ cN C ≤ (cR C).slots)
def rmd (d : Nat) : Room := { frames := d, cells := 0, slots := 0, locals := 36 * d }
abbrev PT : Type := Option Value → Mm → Prop
def Qx (G : GT) (Post : PT) : Array Value → State → Outcome → State → Prop := fun _ st oc t => (∃ (v : Option Value) (V' : Mm), oc = .returned v ∧ Post v V' ∧ Wd G V' t) ∧ va_F (Ar G) st t
def Cq (G : GT) (Post : PT) (C : CT) : Prop := cQ C = MQ (cB C) (Qx G Post) (cA C) (cS C) 0 0 (Ar G) ∧ cK C = 0 ∧ cN C = 0
def wsY (y : MT) : List Cond := Cond.code y.1 y.2.1 y.2.2.1 y.2.2.2 :: Big
/-- a method's contract: from the world V it returns, its answer and the new world meet Post -/
def Ct (G : GT) (y : MT) (d : Nat) (as : List Value) (V : Mm) (Post : PT) : Prop := Met G.1 y.1 (wsY y) (rmd d) (va_Pc as (Wd G V)) (Qx G Post) 0 0 (Ar G)
def lvs (as : List Value) (n : Nat) : List (Option Value) := as.map some ++ List.replicate (n - as.length) none
theorem lg_sl1 : ∀ (as : List Value), (∀ v ∈ as, v.category = 1) → lg_sl as = as.map Slot.val
  | [], _ => rfl
  | a :: as, h => by
    have h1 := h a List.mem_cons_self
    have h2 := lg_sl1 as (fun v hv => h v (List.mem_cons_of_mem _ hv))
    show (if a.category = 2 then [Slot.val a, Slot.second] else [Slot.val a]) ++ lg_sl as = _
    rw [if_neg (by omega), h2]
    rfl
theorem lvO_entry (as : List Value) (n : Nat) (h : ∀ v ∈ as, v.category = 1) (hn : as.length ≤ n) : lvO ((lg_sl as ++ List.replicate (n - (lg_sl as).length) Slot.unset).toArray) n (lvs as n) := by
  have hl : (lg_sl as).length = as.length := by rw [lg_sl1 as h, List.length_map]
  have h1 := lv_entry as (n := n) (by omega)
  refine ⟨h1.1, h1.2.1, fun i v hv => ?_⟩
  rw [lg_sl1 as h]
  have hi : i < as.length := by
    by_cases q : i < as.length
    · exact q
    · exfalso
      unfold lvs at hv
      rw [List.getElem?_append_right (by simp; omega)] at hv
      have := List.mem_of_getElem? hv
      simp at this
  unfold lvs at hv
  rw [List.getElem?_append_left (by simpa using hi)] at hv
  rw [List.getElem?_toArray, List.getElem?_append_left (by simpa using hi)]
  simp only [List.getElem?_map] at hv ⊢
  cases hg : as[i]? with
  | none => rw [hg] at hv; cases hv
  | some w => rw [hg] at hv; cases hv; rfl
theorem Ct.of {G : GT} {y : MT} {d n : Nat} {as : List Value} {V : Mm} {Post : PT} {l0 : List (Option Value)} (cf : CFm y n) (hc : ∀ v ∈ as, v.category = 1) (hn : as.length ≤ y.2.2.1) (hl : lvs as y.2.2.1 = l0)
    (h : ∀ C : CT, Cx G y d C → Cq G Post C → Ew G C V 0 l0 []) : Ct G y d as V Post := by
  subst hl
  refine Met.ofW (cc := y.2.1) (maxL := y.2.2.1) (ret := y.2.2.2) cf.2.2.2 rfl ?_
  intro p e s m args below meth c s₁ B hml hv
  obtain ⟨rfl, hP, hK, hX, hz⟩ := hv
  have hts := atoms_spec (ws := wsY y) B.pre
  have h1 := h (p, e, (headSpec (wsY y) (rmd d)).room, s, m, as.toArray, below, meth, c, MQ below (Qx G Post) as.toArray s 0 0 (Ar G), 0, 0)
    ⟨B.exec, B.bytes, findClass_of_methodNamed B.named, fun w hw => hts w (List.mem_cons_of_mem _ hw), hK, hX, hz, B.notSynchronized, B.returns, hml, Nat.le_refl d, Nat.le_refl (36 * d), Nat.zero_le _, Nat.zero_le _⟩ ⟨rfl, rfl, rfl⟩
  rw [lg_entry_eq]
  refine h1 s.heap [] _ hP va_S.rf ?_
  show lvO _ c.maxLocals _
  rw [hml]
  exact lvO_entry as _ hc hn
theorem Ct.weaken {G : GT} {y : MT} {d : Nat} {as : List Value} {V : Mm} {Post Post' : PT} (h : Ct G y d as V Post) (hp : ∀ v V', Post v V' → Post' v V') : Ct G y d as V Post' := by
  intro p e ha hcas hclk s m args below hf happ hpre hk
  obtain ⟨k, o, h1, h2, h3, ⟨⟨⟨v, V', e1, e2, e3⟩, h5⟩, h6⟩⟩ := h p e ha hcas hclk s m args below hf happ hpre hk
  exact ⟨k, o, h1, h2, h3, ⟨⟨⟨v, V', e1, hp v V' e2, e3⟩, h5⟩, h6⟩⟩
