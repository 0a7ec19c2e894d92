section FL
variable {G : GT} {C : CT} {V : Mm} {y : MT} {d pc npc : Nat} {l : List (Option Value)} {st : List Value}
theorem Ew.i2f {x : Int32} (hx : Cx G y d C) (hd : Dc y.2.1 pc (.i2f) 1 npc) (kk : Ew G C V npc l (.float (FP.i2f x) :: st)) : Ew G C V pc l (.int x :: st) := by
  obtain ⟨he, hb, hown, ht, -⟩ := hx; obtain ⟨hd, rfl⟩ := hd
  intro H locs ls hP hS hL
  exact lv_i2f he hb hd (kk H locs ls hP hS hL)
theorem Ew.i2d {x : Int32} (hx : Cx G y d C) (hd : Dc y.2.1 pc (.i2d) 1 npc) (kk : Ew G C V npc l (.double (FP.i2d x) :: st)) : Ew G C V pc l (.int x :: st) := by
  obtain ⟨he, hb, hown, ht, -⟩ := hx; obtain ⟨hd, rfl⟩ := hd
  intro H locs ls hP hS hL
  exact lv_i2d he hb hd (kk H locs ls hP hS hL)
theorem Ew.f2i {x : UInt32} (hx : Cx G y d C) (hd : Dc y.2.1 pc (.f2i) 1 npc) (kk : Ew G C V npc l (.int (FP.f2i x) :: st)) : Ew G C V pc l (.float x :: st) := by
  obtain ⟨he, hb, hown, ht, -⟩ := hx; obtain ⟨hd, rfl⟩ := hd
  intro H locs ls hP hS hL
  exact lv_f2i he hb hd (kk H locs ls hP hS hL)
theorem Ew.d2i {x : UInt64} (hx : Cx G y d C) (hd : Dc y.2.1 pc (.d2i) 1 npc) (kk : Ew G C V npc l (.int (FP.d2i x) :: st)) : Ew G C V pc l (.double x :: st) := by
  obtain ⟨he, hb, hown, ht, -⟩ := hx; obtain ⟨hd, rfl⟩ := hd
  intro H locs ls hP hS hL
  exact lv_d2i he hb hd (kk H locs ls hP hS hL)
theorem Ew.fmul {x z : UInt32} (hx : Cx G y d C) (hd : Dc y.2.1 pc (.fmul) 1 npc) (hn : vf_n32 (FP.fmul x z)) (kk : Ew G C V npc l (.float (FP.fmul x z) :: st)) : Ew G C V pc l (.float z :: .float x :: st) := by
  obtain ⟨he, hb, hown, ht, -⟩ := hx; obtain ⟨hd, rfl⟩ := hd
  intro H locs ls hP hS hL
  exact lv_fmul he hb hd hn (kk H locs ls hP hS hL)
theorem Ew.fdiv {x z : UInt32} (hx : Cx G y d C) (hd : Dc y.2.1 pc (.fdiv) 1 npc) (hn : vf_n32 (FP.fdiv x z)) (kk : Ew G C V npc l (.float (FP.fdiv x z) :: st)) : Ew G C V pc l (.float z :: .float x :: st) := by
  obtain ⟨he, hb, hown, ht, -⟩ := hx; obtain ⟨hd, rfl⟩ := hd
  intro H locs ls hP hS hL
  exact lv_fdiv he hb hd hn (kk H locs ls hP hS hL)
theorem Ew.dmul {x z : UInt64} (hx : Cx G y d C) (hd : Dc y.2.1 pc (.dmul) 1 npc) (hn : vf_n64 (FP.dmul x z)) (kk : Ew G C V npc l (.double (FP.dmul x z) :: st)) : Ew G C V pc l (.double z :: .double x :: st) := by
  obtain ⟨he, hb, hown, ht, -⟩ := hx; obtain ⟨hd, rfl⟩ := hd
  intro H locs ls hP hS hL
  exact lv_dmul he hb hd hn (kk H locs ls hP hS hL)
theorem Ew.dadd {x z : UInt64} (hx : Cx G y d C) (hd : Dc y.2.1 pc (.dadd) 1 npc) (hn : vf_n64 (FP.dadd x z)) (kk : Ew G C V npc l (.double (FP.dadd x z) :: st)) : Ew G C V pc l (.double z :: .double x :: st) := by
  obtain ⟨he, hb, hown, ht, -⟩ := hx; obtain ⟨hd, rfl⟩ := hd
  intro H locs ls hP hS hL
  exact lv_dadd he hb hd hn (kk H locs ls hP hS hL)
theorem Ew.ldcf {ix : Nat} {v : UInt32} (hx : Cx G y d C) (hd : Dc y.2.1 pc (.ldc ix) 2 npc) (hm : Cond.constantFloat y.1.cls ix v ∈ Big) (kk : Ew G C V npc l (.float v :: st)) : Ew G C V pc l st := by
  obtain ⟨he, hb, hown, ht, -⟩ := hx; obtain ⟨hd, rfl⟩ := hd
  intro H locs ls hP hS hL
  exact lv_ldcf he hb hown (ht _ hm) hd (kk H locs ls hP hS hL)
theorem Ew.ldc2d {ix : Nat} {v : UInt64} (hx : Cx G y d C) (hd : Dc y.2.1 pc (.ldc2_w ix) 3 npc) (hm : Cond.constantDouble y.1.cls ix v ∈ Big) (kk : Ew G C V npc l (.double v :: st)) : Ew G C V pc l st := by
  obtain ⟨he, hb, hown, ht, -⟩ := hx; obtain ⟨hd, rfl⟩ := hd
  intro H locs ls hP hS hL
  exact lv_ldc2d he hb hown (ht _ hm) hd (kk H locs ls hP hS hL)
theorem Ew.dload_n {k : Fin 4} {x : UInt64} (hx : Cx G y d C) (hd : Dc y.2.1 pc (.dload_n k) 1 npc) (hl : l[(k : Nat)]? = some (some (.double x))) (kk : Ew G C V npc l (.double x :: st)) : Ew G C V pc l st := by
  obtain ⟨he, hb, -⟩ := hx; obtain ⟨hd, rfl⟩ := hd
  intro H locs ls hP hS hL
  exact lv_dload_n he hb hd rfl (hL.2.2 _ _ hl) (kk H locs ls hP hS hL)
theorem lvO_back2 {ls : Array Slot} {n i : Nat} {v : Value} {l : List (Option Value)} {lv : List (Nat × Value)} (hsub : ∀ q ∈ asc l, q ∈ lv) (hc : cat1 l = true) (h1 : l[i + 1]? = some none) (h : lv_has ls n ((i, v) :: lv.filter (fun q => !(q.1 == i) && (!(q.1 == i + 1) && !(q.1 + 1 == i && q.2.category == 2))))) : lvO ls n (l.set i (some v)) := by
  refine ⟨h.1, h.2.1, fun j u hj => ?_⟩
  by_cases hij : j = i
  · subst hij
    have hl : j < l.length := by
      have := (List.getElem?_eq_some_iff.mp hj).1
      simpa using this
    rw [List.getElem?_set_self hl] at hj
    have hvu := Option.some.inj (Option.some.inj hj)
    rw [← hvu]
    exact h.2.2 (j, v) List.mem_cons_self
  · rw [List.getElem?_set_ne (Ne.symm hij)] at hj
    have hi1 : j ≠ i + 1 := by
      intro e
      rw [e, h1] at hj
      cases hj
    refine h.2.2 (j, u) (List.mem_cons_of_mem _ (List.mem_filter.mpr ⟨hsub _ (asc_mem.mpr hj), ?_⟩))
    have h2 : u.category = 1 := by
      have := List.all_eq_true.mp hc _ (List.mem_of_getElem? hj)
      simpa using this
    simp [hij, hi1, h2]
theorem Ew.dstore_n {k : Fin 4} {x : UInt64} (hx : Cx G y d C) (hd : Dc y.2.1 pc (.dstore_n k) 1 npc) (hk : (k : Nat) + 1 < y.2.2.1) (hc : cat1 l = true) (h1 : l[(k : Nat) + 1]? = some none) (kk : Ew G C V npc (l.set (k : Nat) (some (.double x))) st) : Ew G C V pc l (.double x :: st) := by
  obtain ⟨he, hb, -, -, -, -, -, -, -, hm, -⟩ := hx; obtain ⟨hd, rfl⟩ := hd
  intro H locs ls hP hS hL
  exact lv_dstore_n he hb hd rfl (lvO_has hL) (by rw [hm]; exact hk) rfl (fun ls' h => kk H locs ls' hP hS (lvO_back2 (fun _ q => q) hc h1 h))
end FL
abbrev fK : UInt32 := 1148846080
abbrev dA : UInt64 := 4604930618986332160
abbrev dB : UInt64 := 4623226492472524800
theorem kf_RX4_50 : Cond.constantFloat RX4 50 fK ∈ Big := inB3 144 rfl rfl
theorem nn32 {r : UInt32} (h : FP.Core.val32 r ≠ .nan) : vf_n32 r := by
  unfold vf_n32
  apply Decidable.byContradiction
  intro q
  apply h
  have q2 := isNaN32_iff.mp (isNaN32_not.mpr q)
  rw [show (0x7fffffff : Nat) = 2 ^ 31 - 1 from rfl, Nat.and_two_pow_sub_one_eq_mod] at q2
  unfold FP.Core.val32 FP.Core.decode
  have e1 : FP.Core.fieldE FP.Core.b32 r.toNat = r.toNat / 8388608 % 256 := rfl
  have e2 : FP.Core.fieldT FP.Core.b32 r.toNat = r.toNat % 8388608 := rfl
  have e3 : FP.Core.b32.exps - 1 = 255 := rfl
  rw [e1, e2, e3, if_pos (by omega), if_neg (by omega)]
theorem nn64 {r : UInt64} (h : FP.Core.val64 r ≠ .nan) : vf_n64 r := by
  unfold vf_n64
  apply Decidable.byContradiction
  intro q
  apply h
  have q2 := isNaN64_iff.mp (isNaN64_not.mpr q)
  rw [show (0x7fffffffffffffff : Nat) = 2 ^ 63 - 1 from rfl, Nat.and_two_pow_sub_one_eq_mod] at q2
  unfold FP.Core.val64 FP.Core.decode
  have e1 : FP.Core.fieldE FP.Core.b64 r.toNat = r.toNat / 4503599627370496 % 2048 := rfl
  have e2 : FP.Core.fieldT FP.Core.b64 r.toNat = r.toNat % 4503599627370496 := rfl
  have e3 : FP.Core.b64.exps - 1 = 2047 := rfl
  rw [e1, e2, e3, if_pos (by omega), if_neg (by omega)]
/-- a number that is not negative, or the greatest infinity -/
def fPos (d : FP.Core.Datum) : Prop := d = .inf false ∨ ∃ c q, d = .fin false c q
theorem fPos.nn {d : FP.Core.Datum} (h : fPos d) : d ≠ .nan := by
  rcases h with rfl | ⟨c, q, rfl⟩ <;> exact fun e => by cases e
theorem fPos_rr (f : FP.Core.Fmt) (n d : Nat) (e : Int) : fPos (FP.Core.roundRatio f false n d e) := by
  unfold FP.Core.roundRatio FP.Core.roundAt FP.Core.settle FP.Core.bound
  split
  · exact Or.inr ⟨_, _, rfl⟩
  · split <;> split
    · exact Or.inr ⟨_, _, rfl⟩
    · exact Or.inl rfl
    · exact Or.inr ⟨_, _, rfl⟩
    · exact Or.inl rfl
def fFin (d : FP.Core.Datum) : Prop := ∃ c q, d = .fin false c q
theorem fFin.of {d : FP.Core.Datum} {i : Int} (h : fPos d) (hw : FP.Core.Whole i d) : fFin d := by
  rcases h with rfl | ⟨c, q, rfl⟩
  · exact absurd hw (fun z => z)
  · exact ⟨c, q, rfl⟩
theorem mul_pos {f : FP.Core.Fmt} {a b : FP.Core.Datum} (ha : fFin a) (hb : fFin b) : fPos (FP.Core.round f (FP.Core.exactProduct a b)) := by
  obtain ⟨c, q, rfl⟩ := ha
  obtain ⟨c', q', rfl⟩ := hb
  exact fPos_rr f _ _ _
theorem add_pos {f : FP.Core.Fmt} {a b : FP.Core.Datum} (ha : fPos a) (hb : fPos b) : (FP.Core.round f (FP.Core.exactSum a b)) ≠ .nan := by
  have rn : ∀ (s : Bool) (n d : Nat) (e : Int), FP.Core.roundRatio f s n d e ≠ .nan := by
    intro s n d e
    unfold FP.Core.roundRatio FP.Core.roundAt FP.Core.settle FP.Core.bound
    split
    · exact fun e => by cases e
    · split <;> split <;> exact fun e => by cases e
  rcases ha with rfl | ⟨c, q, rfl⟩ <;> rcases hb with rfl | ⟨c', q', rfl⟩
  · exact fun e => by cases e
  · exact fun e => by cases e
  · exact fun e => by cases e
  · exact rn _ _ _ _
theorem i2f_fin {n : Nat} (h : n < 2000) : fFin (FP.Core.val32 (FP.i2f (nI n))) ∧ FP.Core.FInt n (FP.i2f (nI n)) := by
  have e : (nI n).toInt = (n : Int) := tn (by omega)
  have q := FP.Core.i2f_int (a := nI n) (by rw [e]; omega)
  rw [e] at q
  refine ⟨fFin.of ?_ q, q⟩
  rw [FP.Core.val32_i2f, e]
  have z : FP.Core.ofInt (n : Int) = .fin false n 0 := by
    show FP.Core.Datum.fin (decide ((n : Int) < 0)) _ 0 = _
    rw [show decide ((n : Int) < 0) = false from decide_eq_false (by omega)]
    rfl
  rw [z]
  exact fPos_rr _ _ _ _
theorem i2d_fin {n : Nat} (h : n ≤ 5000) : fFin (FP.Core.val64 (FP.i2d (nI n))) ∧ FP.Core.DInt n (FP.i2d (nI n)) := by
  have e : (nI n).toInt = (n : Int) := tn (by omega)
  have q := FP.Core.i2d_int (nI n)
  rw [e] at q
  refine ⟨fFin.of ?_ q, q⟩
  rw [FP.Core.val64_i2d, e]
  have z : FP.Core.ofInt (n : Int) = .fin false n 0 := by
    show FP.Core.Datum.fin (decide ((n : Int) < 0)) _ 0 = _
    rw [show decide ((n : Int) < 0) = false from decide_eq_false (by omega)]
    rfl
  rw [z]
  exact fPos_rr _ _ _ _
theorem fK_fin : fFin (FP.Core.val32 fK) := ⟨16384000, -14, by decide +kernel⟩
theorem dA_fin : fFin (FP.Core.val64 dA) := ⟨6755399441055744, -53, by decide +kernel⟩
theorem dB_fin : fFin (FP.Core.val64 dB) := ⟨7036874417766400, -49, by decide +kernel⟩
theorem fp_1 {u : Nat} (h : u < 182) : fPos (FP.Core.val32 (FP.fmul fK (FP.i2f (nI u)))) := by
  rw [FP.Core.val32_fmul]
  exact mul_pos fK_fin (i2f_fin (by omega)).1
theorem fp_2 {t u : Nat} (ht : t < 182) (h1 : 1 ≤ t) (hu : u < 182) : vf_n32 (FP.fdiv (FP.fmul fK (FP.i2f (nI u))) (FP.i2f (nI t))) := by
  refine nn32 ?_
  rw [FP.Core.val32_fdiv]
  obtain ⟨⟨c, q, e⟩, hi⟩ := i2f_fin (n := t) (by omega)
  have hc : c ≠ 0 := by
    intro e0
    unfold FP.Core.FInt at hi
    rw [e, e0] at hi
    have hi2 : FP.Core.signed false (0 * 2 ^ q.toNat) = (t : Int) * ((2 ^ (-q).toNat : Nat) : Int) := hi
    rw [Nat.zero_mul] at hi2
    have h0 : (0 : Int) = (t : Int) * ((2 ^ (-q).toNat : Nat) : Int) := hi2
    have h2 : 0 < 2 ^ (-q).toNat := Nat.two_pow_pos _
    have h3 : (0 : Int) < (t : Int) * ((2 ^ (-q).toNat : Nat) : Int) := Int.mul_pos (by omega) (by omega)
    omega
  rw [e]
  rcases fp_1 hu with h | ⟨c', q', h⟩
  · rw [h]
    exact fun e => by cases e
  · rw [h]
    show (if c = 0 then _ else FP.Core.roundRatio _ _ _ _ _) ≠ _
    rw [if_neg hc]
    exact (fPos_rr _ _ _ _).nn
theorem fp_v {x : Nat} (h : x ≤ 5000) : vf_n64 (FP.dmul (FP.i2d (nI x)) (FP.i2d (nI x))) ∧ vf_n64 (FP.dmul (FP.dmul (FP.i2d (nI x)) (FP.i2d (nI x))) dA) ∧ vf_n64 (FP.dmul dB (FP.i2d (nI x))) ∧ vf_n64 (FP.dadd (FP.dmul (FP.dmul (FP.i2d (nI x)) (FP.i2d (nI x))) dA) (FP.dmul dB (FP.i2d (nI x)))) := by
  obtain ⟨h1, h2⟩ := i2d_fin h
  have hb : ((x : Int) * (x : Int)).natAbs ≤ 2 ^ 53 := by
    rw [Int.natAbs_mul]
    have := Nat.mul_le_mul h h
    simp only [Int.natAbs_natCast]
    omega
  have p1 : fPos (FP.Core.val64 (FP.dmul (FP.i2d (nI x)) (FP.i2d (nI x)))) := by
    rw [FP.Core.val64_dmul]; exact mul_pos h1 h1
  have f1 := fFin.of p1 (FP.Core.dmul_int h2 h2 hb)
  have p2 : fPos (FP.Core.val64 (FP.dmul (FP.dmul (FP.i2d (nI x)) (FP.i2d (nI x))) dA)) := by
    rw [FP.Core.val64_dmul]; exact mul_pos f1 dA_fin
  have p3 : fPos (FP.Core.val64 (FP.dmul dB (FP.i2d (nI x)))) := by
    rw [FP.Core.val64_dmul]; exact mul_pos dB_fin h1
  refine ⟨nn64 p1.nn, nn64 p2.nn, nn64 p3.nn, nn64 ?_⟩
  rw [FP.Core.val64_dadd]
  exact add_pos p2 p3
noncomputable def ptA (u l : Int32) : Int32 := cif (u + l = 0) (-100009) (FP.f2i (FP.fdiv (FP.fmul fK (FP.i2f u)) (FP.i2f (u + l))))
noncomputable def anVol (x : Int32) : Int32 := cif (0 ≤ x ∧ x ≤ 5000) (FP.d2i (FP.dadd (FP.dmul (FP.dmul (FP.i2d x) (FP.i2d x)) dA) (FP.dmul dB (FP.i2d x)))) (-100001)
noncomputable def anPart0 (s : Sv) (x : Int32) : Int32 := cif (0 ≤ x ∧ x < s 3) (ptA (pf s (nt x) 9) (pf s (nt x) 10)) (-100001)
set_option maxHeartbeats 4000000 in
set_option maxRecDepth 100000 in
theorem ct_X4_partUsed (G : GT) (V : Mm) (k : Nat) (hk : kd k = 10) {u l : Nat} (e1 : V k 9 = nI u) (e2 : V k 10 = nI l) (h : u + l ≤ 181) : Ct G mX4_partUsed 0 [adr G k] (V) (Ri (ptA (V k 9) (V k 10)) V) := by
  refine Ct.of cf_X4_partUsed (List.forall_mem_cons.mpr ⟨rfl, fun _ h => absurd h List.not_mem_nil⟩) (Nat.le_of_ble_eq_true rfl) (l0 := [some (adr G k), none]) rfl (fun C hx hq => ?_)
  refine Ew.aload_n hx dX4_partUsed_0 rfl ?_
  refine Ew.getI hx dX4_partUsed_1 fg_RX4_39 (hk) ?_
  refine Ew.aload_n hx dX4_partUsed_4 rfl ?_
  refine Ew.getI hx dX4_partUsed_5 fg_RX4_42 (hk) ?_
  refine Ew.iadd hx dX4_partUsed_8 ?_
  rw [e1, e2, nI_add]
  refine Ew.istore_n hx dX4_partUsed_9 (by decide) rfl ?_
  refine Ew.iload_n hx dX4_partUsed_10 rfl ?_
  refine Ew.if_gt hx (tgt := 17) dX4_partUsed_11 rfl (fun h11 => ?_) (fun h11 => ?_)
  · have h0 : 0 < u + l := by rw [il, tl_0, tn (by omega)] at h11; omega
    refine Ew.ldcf hx dX4_partUsed_17 kf_RX4_50 ?_
    refine Ew.aload_n hx dX4_partUsed_19 rfl ?_
    refine Ew.getI hx dX4_partUsed_20 fg_RX4_39 (hk) ?_
    rw [e1]
    refine Ew.i2f hx dX4_partUsed_23 ?_
    refine Ew.fmul hx dX4_partUsed_24 (nn32 (fp_1 (u := u) (by omega)).nn) ?_
    refine Ew.iload_n hx dX4_partUsed_25 rfl ?_
    refine Ew.i2f hx dX4_partUsed_26 ?_
    refine Ew.fdiv hx dX4_partUsed_27 (fp_2 (t := u + l) (u := u) (by omega) (by omega) (by omega)) ?_
    refine Ew.f2i hx dX4_partUsed_28 ?_
    refine Ew.iret hx hq dX4_partUsed_29 rfl ?_
    refine ⟨congrArg (fun z => some (Value.int z)) ?_, rfl⟩
    unfold ptA
    rw [e1, e2, nI_add]
    exact (cif_f (nI_ne0 h0 (by omega))).symm
  · have h0 : u + l = 0 := by rw [il, tl_0, tn (by omega)] at h11; omega
    refine Ew.ldc hx dX4_partUsed_14 kn_RX4_49 ?_
    refine Ew.iret hx hq dX4_partUsed_16 rfl ?_
    refine ⟨congrArg (fun z => some (Value.int z)) ?_, rfl⟩
    unfold ptA
    rw [e1, e2, nI_add]
    exact (cif_t (by rw [h0]; rfl)).symm
set_option maxHeartbeats 4000000 in
set_option maxRecDepth 100000 in
theorem ct_X11_part (G : GT) (V : Mm) {s : Sv} {n z : Nat} {h : Nat → Sv} {B : Int} (hC : CR V s n z h B) (x : Int32) : Ct G mX11_part 1 [adr G 0, .int x] (V) (Ri (anPart0 s x) V) := by
  refine Ct.of cf_X11_part (List.forall_mem_cons.mpr ⟨rfl, List.forall_mem_cons.mpr ⟨rfl, fun _ h => absurd h List.not_mem_nil⟩⟩) (Nat.le_of_ble_eq_true rfl) (l0 := [some (adr G 0), some (.int x)]) rfl (fun C hx hq => ?_)
  have hR := hC.2.2.2.2.1.1
  have hW := hC.2.2.2.2.2.1.1
  have hnp := hW.np
  refine Ew.aload_n hx dX11_part_0 rfl ?_
  refine Ew.getR (1) hx dX11_part_1 fg_RX11_10 rfl rfl ?_
  refine Ew.getR (2) hx dX11_part_4 fg_RX11_34 rfl rfl ?_
  refine Ew.iload_n hx dX11_part_7 rfl ?_
  refine Ew.callV2 (y' := mX7_hasPermit) hx dX11_part_8 ml_RX11_197 cf_X7_hasPermit cv_X7_hasPermit (ct_X7_hasPermit G V _ hR) rfl oc_2 rfl (by decide) (by decide) rfl (Nat.le_of_ble_eq_true rfl) ?_
  rintro _ V9 ⟨rfl, h9⟩; subst V9
  refine Ew.ifne_b hx (tgt := 17) dX11_part_11 rfl (fun h11 => ?_) (fun h11 => ?_)
  · obtain ⟨p, hxp, hp⟩ := hW.pix h11
    have hxn : nt x = p := by rw [hxp, nt_nI (by omega)]
    have ok : anPart0 s x = _ := cif_t h11
    rw [hxn] at ok
    have h9 := (hW.pm hp).2.2.2.2.2.1
    have h0 := hW.1
    refine Ew.aload_n hx dX11_part_17 rfl ?_
    refine Ew.getR (1) hx dX11_part_18 fg_RX11_10 rfl rfl ?_
    refine Ew.getR (2) hx dX11_part_21 fg_RX11_34 rfl rfl ?_
    refine Ew.getR (9) hx dX11_part_24 fg_RX11_200 rfl rfl ?_
    refine Ew.iload_n hx dX11_part_27 rfl ?_
    refine Ew.aldq (14 + p) hx dX11_part_28 rg_8 rfl (hxp) (by omega) (by omega) ?_
    refine Ew.callV2 (y' := mX4_partUsed) hx dX11_part_29 ml_RX11_243 cf_X4_partUsed cv_X4_partUsed (ct_X4_partUsed G V (14 + p) (kd_pm (by omega)) (by rw [hR.pm hp (by omega) (by decide)]; exact ofNI h9.1) (by rw [hR.pm hp (by omega) (by decide)]; exact ofNI h9.2.1) (by omega)) (kd_pm (by omega)) oc_10 rfl (by decide) (by decide) rfl (Nat.le_of_ble_eq_true rfl) ?_
    rintro _ V9 ⟨rfl, h9⟩; subst V9
    refine Ew.iret hx hq dX11_part_32 rfl ?_
    refine ⟨congrArg (fun z => some (Value.int z)) ?_, rfl⟩
    rw [hR.pm hp (by omega) (by decide), hR.pm hp (by omega) (by decide)]
    exact ok.symm
  · have ec : anPart0 s x = -100001 := cif_f h11
    refine Ew.ldc hx dX11_part_14 kn_RX11_111 ?_
    refine Ew.iret hx hq dX11_part_16 rfl ?_
    refine ⟨congrArg (fun z => some (Value.int z)) ?_, rfl⟩
    exact ec.symm
