section XR
variable {G : GT} {C : CT} {V : Mm} {y : MT} {d pc npc : Nat} {l : List (Option Value)} {st : List Value}
theorem Cx.xt (hx : Cx G y d C) : Xt G (cS C) (cS C).heap := hx.2.2.2.2.2.1
theorem Cx.str (hx : Cx G y d C) {q : Nat} (h9q : q < 9) : va_O RJ0 (xK G q) (Ar G) (cS C) (cS C).heap ∧ va_OF RJ0 "coder" "B" (.int 0) (xK G q) (Ar G) (cS C) (cS C).heap ∧ va_OF RJ0 "value" "[B" (.ref (xV G q)) (xK G q) (Ar G) (cS C) (cS C).heap ∧ va_T .byte (xV G q) (txN.getD q 0) (fun j => .int ((txB.getD q []).getD j 0)) (Ar G) (cS C) (cS C).heap := hx.xt.1.2.2.2.2.2.1.1 q h9q
theorem Cx.enm (hx : Cx G y d C) {i : Nat} (hi : i < 7) : va_O RX1 (xE G i) (Ar G) (cS C) (cS C).heap ∧ va_OF RX1 "word" "Ljava/lang/String;" (.ref (xK G (i + 2))) (xE G i) (Ar G) (cS C) (cS C).heap ∧ va_OF RX1 "numbers" "I" (.int (nmV.getD i 0)) (xE G i) (Ar G) (cS C) (cS C).heap ∧ va_OF RX1 "signed" "I" (.int (sgV.getD i 0)) (xE G i) (Ar G) (cS C) (cS C).heap ∧ va_OF RJx29ce0 "ordinal" "I" (.int (nI i)) (xE G i) (Ar G) (cS C) (cS C).heap := hx.xt.1.2.2.2.2.1 i hi
theorem Cx.cmp (hx : Cx G y d C) : va_Z RJ0 "COMPACT_STRINGS" "Z" (.int 1) (Ar G) (cS C) (cS C).heap := hx.xt.1.2.2.2.2.2.2.1
theorem Cx.fmt (hx : Cx G y d C) : va_Zq RJ3 "SIOOBE_FORMATTER" "Ljava/util/function/BiFunction;" (Ar G) (cS C) (cS C).heap := hx.xt.1.2.2.2.2.2.2.2
theorem Ew.xgetf {ix t : Nat} {o n d' : String} {v : Value} (hx : Cx G y d C) (hd : Dc y.2.1 pc (.getfield ix) 3 npc) (hm : Cond.fieldLink y.1.cls ix o n d' ∈ Big) (ho : va_OF o n d' v t (Ar G) (cS C) (cS C).heap) (kk : Ew G C V npc l (v :: st)) : Ew G C V pc l (.ref t :: st) := by
  obtain ⟨he, hb, hown, ht, -⟩ := hx; obtain ⟨hd, rfl⟩ := hd
  intro H locs ls hP hS hL
  obtain ⟨cf, k, fi, f, cell, h1, h2, h3, h4, h5, h6⟩ := ho.kept hS.2.1
  exact W.getf he hb hown (ht _ hm) h1 h2 h3 h4 (v := v) h5 rfl rfl hd (kk H locs ls hP hS hL)
theorem Ew.xlen {ty : FieldType} {t N : Nat} {f : Nat → Value} (hx : Cx G y d C) (hd : Dc y.2.1 pc (.arraylength) 1 npc) (hT : va_T ty t N f (Ar G) (cS C) (cS C).heap) (kk : Ew G C V npc l (.int (nI N) :: st)) : Ew G C V pc l (.ref t :: st) := by
  obtain ⟨he, hb, hown, ht, -⟩ := hx; obtain ⟨hd, rfl⟩ := hd
  intro H locs ls hP hS hL
  exact va_tlen he hb hT hS rfl hd (kk H locs ls hP hS hL)
theorem Ew.xbald {t N i : Nat} {f : Nat → Value} {v : Value} (hx : Cx G y d C) (hd : Dc y.2.1 pc (.baload) 1 npc) (hT : va_T .byte t N f (Ar G) (cS C) (cS C).heap) (hi : i < N) (hN : N < 2 ^ 31) (hv : f i = v) (kk : Ew G C V npc l (v :: st)) : Ew G C V pc l (.int (nI i) :: .ref t :: st) := by
  obtain ⟨he, hb, hown, ht, -⟩ := hx; obtain ⟨hd, rfl⟩ := hd
  intro H locs ls hP hS hL
  exact va_tb he hb hT hS (nI_in hi hN) (by rw [nI_clamp (by omega)]; exact hv) hd (kk H locs ls hP hS hL)
theorem Ew.xiald {t N i : Nat} {f : Nat → Value} {v : Value} (hx : Cx G y d C) (hd : Dc y.2.1 pc (.iaload) 1 npc) (hT : va_T .int t N f (Ar G) (cS C) (cS C).heap) (hi : i < N) (hN : N < 2 ^ 31) (hv : f i = v) (kk : Ew G C V npc l (v :: st)) : Ew G C V pc l (.int (nI i) :: .ref t :: st) := by
  obtain ⟨he, hb, hown, ht, -⟩ := hx; obtain ⟨hd, rfl⟩ := hd
  intro H locs ls hP hS hL
  exact va_ti he hb hT hS (nI_in hi hN) (by rw [nI_clamp (by omega)]; exact hv) hd (kk H locs ls hP hS hL)
theorem Ew.xaald {K : String} {t N i : Nat} {f : Nat → Value} {v : Value} (hx : Cx G y d C) (hd : Dc y.2.1 pc (.aaload) 1 npc) (hT : va_T (.object K) t N f (Ar G) (cS C) (cS C).heap) (hi : i < N) (hN : N < 2 ^ 31) (hv : f i = v) (kk : Ew G C V npc l (v :: st)) : Ew G C V pc l (.int (nI i) :: .ref t :: st) := by
  obtain ⟨he, hb, hown, ht, -⟩ := hx; obtain ⟨hd, rfl⟩ := hd
  intro H locs ls hP hS hL
  exact vb_tq he hb hT hS (nI_in hi hN) (by rw [nI_clamp (by omega)]; exact hv) hd (kk H locs ls hP hS hL)
theorem Ew.xgets {ix : Nat} {o n d' : String} {v : Value} (hx : Cx G y d C) (hd : Dc y.2.1 pc (.getstatic ix) 3 npc) (hm : Cond.fieldLink y.1.cls ix o n d' ∈ Big) (hZ : va_Z o n d' v (Ar G) (cS C) (cS C).heap) (kk : Ew G C V npc l (v :: st)) : Ew G C V pc l st := by
  obtain ⟨he, hb, hown, ht, -⟩ := hx; obtain ⟨hd, rfl⟩ := hd
  intro H locs ls hP hS hL
  exact va_gets he hb hZ hS hown (ht _ hm) (fun x h => h) hd (kk H locs ls hP hS hL)
theorem Ew.xgetsq {ix : Nat} {o n d' : String} (hx : Cx G y d C) (hd : Dc y.2.1 pc (.getstatic ix) 3 npc) (hm : Cond.fieldLink y.1.cls ix o n d' ∈ Big) (hZ : va_Zq o n d' (Ar G) (cS C) (cS C).heap) (kk : ∀ v : Value, v.category = 1 → Ew G C V npc l (v :: st)) : Ew G C V pc l st := by
  rcases hZ with h | ⟨t, h⟩
  · exact Ew.xgets hx hd hm h (kk _ rfl)
  · exact Ew.xgets hx hd hm h (kk _ rfl)
theorem Ew.xall (hx : Cx G y d C) (hy : y.1.cls = RX5) (hd : Dc y.2.1 pc (.getstatic 88) 3 npc) (kk : Ew G C V npc l (.ref (xAll G) :: st)) : Ew G C V pc l st := by
  have hX := hx.xt
  obtain ⟨he, hb, hown, ht, -⟩ := hx; obtain ⟨hd, rfl⟩ := hd
  intro H locs ls hP hS hL
  exact va_getsN he hb hX.1.1 hS (hy ▸ hown) (va_Nw.use (A := cA C) rfl hX.2.2.1) (fun x h => h) hd (kk H locs ls hP hS hL)
theorem Ew.xldcS {ix q : Nat} {tx : String} (hx : Cx G y d C) (hd : Dc y.2.1 pc (.ldc ix) 2 npc) (hZ : vk_R y.1.cls ix tx q (cS C)) (kk : Ew G C V npc l (.ref q :: st)) : Ew G C V pc l st := by
  obtain ⟨he, hb, hown, ht, -⟩ := hx; obtain ⟨hd, rfl⟩ := hd
  intro H locs ls hP hS hL
  exact va_ldcS he hb hown hZ hd (kk H locs ls hP hS hL)
theorem Ew.xcallV {y' : MT} {d' n b ix : Nat} {as' rest : List Value} {Post' : PT} (hx : Cx G y d C) (hd : Dc y.2.1 pc (.invokevirtual ix) 3 npc) (hm : Cond.methodLink y.1.cls ix y'.1 ∈ Big) (cf : CFm y' n) (cv : CFv y') (hc : Ct G y' d' (.ref b :: as') V Post') (hO : va_O y'.1.cls b (Ar G) (cS C) (cS C).heap) (hn : as'.length = n) (hd' : d' + 1 ≤ d) (hml : y'.2.2.1 ≤ 17) (hst : st = as'.reverse ++ .ref b :: rest) (hw : (rest.map fun v => v.category).sum ≤ 8)
    (kk : ∀ v V', Post' v V' → Ew G C V' npc l (v.toList ++ rest)) : Ew G C V pc l st := by
  have hx0 := hx
  obtain ⟨he, hb, ho, ht, hK, hX, hz, hlk, hr, hml0, hr1, hr2, hr3, hr4⟩ := hx; obtain ⟨hd, rfl⟩ := hd
  subst hst
  intro H locs ls hP hS hL
  refine Ew.ofRun hP hS hL (va_runV (As := as') (rest := rest) (mc := 0) (ms := 0) ⟨he, hb, hL.1 ▸ rfl, ho, ht⟩ hc (cwV n ht (ws := wsY y') (ws' := Big) ?_ rfl rfl rfl ⟨rfl, cf.2.2.1⟩ ⟨?_, ?_⟩) ⟨wd_blind, by obtain ⟨cell, h1, h2, h3, -⟩ := hO.kept hS.2.1; exact ⟨cell, h1, h2, h3⟩, wd_pre hx0 hP hS⟩ rfl hn hL.1 rfl (lv_room hw) hd ⟨by omega, by omega⟩) kk
  · intro w hw
    unfold wsV at hw
    rcases List.mem_append.mp hw with h | h
    · simp only [List.mem_cons, List.not_mem_nil, or_false] at h
      have hm2 : w ∈ Big := by rcases h with rfl | rfl | rfl | rfl <;> first | exact hm | exact cv.1 | exact cv.2 | exact cf.2.1
      exact ⟨hm2, good_of_word (big_good hm2)⟩
    · exact big_ws cf w h
  · show d' + 1 ≤ _
    omega
  · show 8 + (y'.2.2.1 + 11) + 36 * d' ≤ _
    omega
end XR
theorem tn9 {q : Nat} (h : q < 9) : txN.getD q 0 ≤ 6 ∧ 0 < txN.getD q 0 := (show ∀ q, q < 9 → txN.getD q 0 ≤ 6 ∧ 0 < txN.getD q 0 by decide) q h
abbrev lB (q i : Nat) : Int32 := (txB.getD q []).getD i 0
theorem lB_ok {q i : Nat} (h : q < 9) (hi : i < txN.getD q 0) : lB q i &&& 255 = lB q i ∧ ((lB q i).toUInt32 % 65536).toInt32 = lB q i ∧ vp_nar .char (lB q i) = lB q i := (show ∀ q, q < 9 → ∀ i, i < txN.getD q 0 → lB q i &&& 255 = lB q i ∧ ((lB q i).toUInt32 % 65536).toInt32 = lB q i ∧ vp_nar .char (lB q i) = lB q i by decide +kernel) q h i hi
theorem nar_ch {q i : Nat} (h : q < 9) (hi : i < txN.getD q 0) : narrow .char (.int (lB q i)) = .int (lB q i) := (show ∀ q, q < 9 → ∀ i, i < txN.getD q 0 → narrow .char (.int (lB q i)) = .int (lB q i) by decide +kernel) q h i hi
theorem sh_0 {q : Nat} (h : q < 9) : nI (txN.getD q 0) >>> ((0 : Int32) &&& 31) = nI (txN.getD q 0) := (show ∀ q, q < 9 → nI (txN.getD q 0) >>> ((0 : Int32) &&& 31) = nI (txN.getD q 0) by decide +kernel) q h
set_option maxHeartbeats 4000000 in
set_option maxRecDepth 100000 in
theorem ct_J0_coder_7d493 (G : GT) (V : Mm) {q : Nat} (h9q : q < 9) : Ct G mJ0_coder_7d493 0 [.ref (xK G q)] (V) (Ri 0 V) := by
  refine Ct.of cf_J0_coder_7d493 (List.forall_mem_cons.mpr ⟨rfl, fun _ h => absurd h List.not_mem_nil⟩) (Nat.le_of_ble_eq_true rfl) (l0 := [some (.ref (xK G q))]) rfl (fun C hx hq => ?_)
  refine Ew.xgets hx dJ0_coder_7d493_0 fl_RJ0_38 (Cx.cmp hx) ?_
  refine Ew.if_eq_f hx (tgt := 13) dJ0_coder_7d493_3 rfl (by decide) ?_
  refine Ew.aload_n hx dJ0_coder_7d493_6 rfl ?_
  refine Ew.xgetf hx dJ0_coder_7d493_7 fl_RJ0_15 (Cx.str hx h9q).2.1 ?_
  refine Ew.goto hx (tgt := 14) dJ0_coder_7d493_10 rfl ?_
  refine Ew.zret hx hq dJ0_coder_7d493_14 rfl (rfl) ?_
  exact ⟨rfl, rfl⟩
set_option maxHeartbeats 4000000 in
set_option maxRecDepth 100000 in
theorem ct_J0_length_8abf5 (G : GT) (V : Mm) {q : Nat} (h9q : q < 9) : Ct G mJ0_length_8abf5 1 [.ref (xK G q)] (V) (Ri (nI (txN.getD q 0)) V) := by
  refine Ct.of cf_J0_length_8abf5 (List.forall_mem_cons.mpr ⟨rfl, fun _ h => absurd h List.not_mem_nil⟩) (Nat.le_of_ble_eq_true rfl) (l0 := [some (.ref (xK G q))]) rfl (fun C hx hq => ?_)
  refine Ew.aload_n hx dJ0_length_8abf5_0 rfl ?_
  refine Ew.xgetf hx dJ0_length_8abf5_1 fl_RJ0_9 (Cx.str hx h9q).2.2.1 ?_
  refine Ew.xlen hx dJ0_length_8abf5_4 (Cx.str hx h9q).2.2.2 ?_
  refine Ew.aload_n hx dJ0_length_8abf5_5 rfl ?_
  refine Ew.xcallV (y' := mJ0_coder_7d493) hx dJ0_length_8abf5_6 ml_RJ0_335 cf_J0_coder_7d493 cv_J0_coder_7d493 (ct_J0_coder_7d493 G V h9q) (Cx.str hx h9q).1 rfl (by decide) (by decide) rfl (Nat.le_of_ble_eq_true rfl) ?_
  rintro _ V9 ⟨rfl, h9⟩; subst V9
  refine Ew.ishr' hx dJ0_length_8abf5_9 (sh_0 h9q) ?_
  refine Ew.iret hx hq dJ0_length_8abf5_10 rfl ?_
  exact ⟨rfl, rfl⟩
set_option maxHeartbeats 4000000 in
set_option maxRecDepth 100000 in
theorem ct_J0_isLatin1_aae02 (G : GT) (V : Mm) {q : Nat} (h9q : q < 9) : Ct G mJ0_isLatin1_aae02 0 [.ref (xK G q)] (V) (Ri 1 V) := by
  refine Ct.of cf_J0_isLatin1_aae02 (List.forall_mem_cons.mpr ⟨rfl, fun _ h => absurd h List.not_mem_nil⟩) (Nat.le_of_ble_eq_true rfl) (l0 := [some (.ref (xK G q))]) rfl (fun C hx hq => ?_)
  refine Ew.xgets hx dJ0_isLatin1_aae02_0 fl_RJ0_38 (Cx.cmp hx) ?_
  refine Ew.if_eq_f hx (tgt := 17) dJ0_isLatin1_aae02_3 rfl (by decide) ?_
  refine Ew.aload_n hx dJ0_isLatin1_aae02_6 rfl ?_
  refine Ew.xgetf hx dJ0_isLatin1_aae02_7 fl_RJ0_15 (Cx.str hx h9q).2.1 ?_
  refine Ew.if_ne_f hx (tgt := 17) dJ0_isLatin1_aae02_10 rfl (by decide) ?_
  refine Ew.iconst hx dJ0_isLatin1_aae02_13 k_iconst_1 ?_
  refine Ew.goto hx (tgt := 18) dJ0_isLatin1_aae02_14 rfl ?_
  refine Ew.bret hx hq dJ0_isLatin1_aae02_18 rfl (Or.inr rfl) ?_
  exact ⟨rfl, rfl⟩
set_option maxHeartbeats 4000000 in
set_option maxRecDepth 100000 in
theorem ct_J3_checkIndex_8e157 (G : GT) (V : Mm) {i n : Nat} (hi : i < n) (hn : n < 2 ^ 31) {v : Value} (hv : v.category = 1) : Ct G mJ3_checkIndex_8e157 0 [.int (nI i), .int (nI n), v] (V) (Ri (nI i) V) := by
  refine Ct.of cf_J3_checkIndex_8e157 (List.forall_mem_cons.mpr ⟨rfl, List.forall_mem_cons.mpr ⟨rfl, List.forall_mem_cons.mpr ⟨hv, fun _ h => absurd h List.not_mem_nil⟩⟩⟩) (Nat.le_of_ble_eq_true rfl) (l0 := [some (.int (nI i)), some (.int (nI n)), some (v)]) rfl (fun C hx hq => ?_)
  refine Ew.iload_n hx dJ3_checkIndex_8e157_0 rfl ?_
  refine Ew.if_lt_f hx (tgt := 9) dJ3_checkIndex_8e157_1 rfl (nI_pos (by omega)) ?_
  refine Ew.iload_n hx dJ3_checkIndex_8e157_4 rfl ?_
  refine Ew.iload_n hx dJ3_checkIndex_8e157_5 rfl ?_
  refine Ew.icmp_lt_t hx (tgt := 16) dJ3_checkIndex_8e157_6 rfl (nI_lt hi hn) ?_
  refine Ew.iload_n hx dJ3_checkIndex_8e157_16 rfl ?_
  refine Ew.iret hx hq dJ3_checkIndex_8e157_17 rfl ?_
  exact ⟨rfl, rfl⟩
set_option maxHeartbeats 4000000 in
set_option maxRecDepth 100000 in
theorem ct_J0_checkIndex_df160 (G : GT) (V : Mm) {i n : Nat} (hi : i < n) (hn : n < 2 ^ 31) : Ct G mJ0_checkIndex_df160 1 [.int (nI i), .int (nI n)] (V) (Rv V) := by
  refine Ct.of cf_J0_checkIndex_df160 (List.forall_mem_cons.mpr ⟨rfl, List.forall_mem_cons.mpr ⟨rfl, fun _ h => absurd h List.not_mem_nil⟩⟩) (Nat.le_of_ble_eq_true rfl) (l0 := [some (.int (nI i)), some (.int (nI n))]) rfl (fun C hx hq => ?_)
  refine Ew.iload_n hx dJ0_checkIndex_df160_0 rfl ?_
  refine Ew.iload_n hx dJ0_checkIndex_df160_1 rfl ?_
  refine Ew.xgetsq hx dJ0_checkIndex_df160_2 fl_RJ0_1053 (Cx.fmt hx) (fun v hv => ?_)
  refine Ew.callS (y' := mJ3_checkIndex_8e157) hx dJ0_checkIndex_df160_5 ml_RJ0_1059 cf_J3_checkIndex_8e157 cs_J3_checkIndex_8e157 (ct_J3_checkIndex_8e157 G V hi hn hv) rfl (by decide) (by decide) rfl (Nat.le_of_ble_eq_true rfl) ?_
  rintro _ V9 ⟨rfl, h9⟩; subst V9
  refine Ew.pop hx dJ0_checkIndex_df160_8 rfl ?_
  refine Ew.vret hx hq dJ0_checkIndex_df160_9 rfl ?_
  exact ⟨rfl, rfl⟩
set_option maxHeartbeats 4000000 in
set_option maxRecDepth 100000 in
theorem ct_J1_charAt_3b067 (G : GT) (V : Mm) {q : Nat} (h9q : q < 9) {i : Nat} (hi : i < txN.getD q 0) : Ct G mJ1_charAt_3b067 2 [.ref (xV G q), .int (nI i)] (V) (Ri (lB q i) V) := by
  refine Ct.of cf_J1_charAt_3b067 (List.forall_mem_cons.mpr ⟨rfl, List.forall_mem_cons.mpr ⟨rfl, fun _ h => absurd h List.not_mem_nil⟩⟩) (Nat.le_of_ble_eq_true rfl) (l0 := [some (.ref (xV G q)), some (.int (nI i))]) rfl (fun C hx hq => ?_)
  have h6 := tn9 h9q
  refine Ew.iload_n hx dJ1_charAt_3b067_0 rfl ?_
  refine Ew.aload_n hx dJ1_charAt_3b067_1 rfl ?_
  refine Ew.xlen hx dJ1_charAt_3b067_2 (Cx.str hx h9q).2.2.2 ?_
  refine Ew.callS (y' := mJ0_checkIndex_df160) hx dJ1_charAt_3b067_3 ml_RJ1_9 cf_J0_checkIndex_df160 cs_J0_checkIndex_df160 (ct_J0_checkIndex_df160 G V hi (by omega)) rfl (by decide) (by decide) rfl (Nat.le_of_ble_eq_true rfl) ?_
  rintro _ V9 ⟨rfl, h9⟩; subst V9
  refine Ew.aload_n hx dJ1_charAt_3b067_6 rfl ?_
  refine Ew.iload_n hx dJ1_charAt_3b067_7 rfl ?_
  refine Ew.xbald hx dJ1_charAt_3b067_8 (Cx.str hx h9q).2.2.2 hi (by omega) rfl ?_
  refine Ew.sipush hx dJ1_charAt_3b067_9 k_sipush_255 ?_
  refine Ew.iand' hx dJ1_charAt_3b067_12 ((lB_ok h9q hi).1) ?_
  refine Ew.i2c hx dJ1_charAt_3b067_13 ((lB_ok h9q hi).2.1) ?_
  refine Ew.zret hx hq dJ1_charAt_3b067_14 rfl (nar_ch h9q hi) ?_
  exact ⟨rfl, rfl⟩
set_option maxHeartbeats 4000000 in
set_option maxRecDepth 100000 in
theorem ct_J0_charAt_5068e (G : GT) (V : Mm) {q : Nat} (h9q : q < 9) {i : Nat} (hi : i < txN.getD q 0) : Ct G mJ0_charAt_5068e 3 [.ref (xK G q), .int (nI i)] (V) (Ri (lB q i) V) := by
  refine Ct.of cf_J0_charAt_5068e (List.forall_mem_cons.mpr ⟨rfl, List.forall_mem_cons.mpr ⟨rfl, fun _ h => absurd h List.not_mem_nil⟩⟩) (Nat.le_of_ble_eq_true rfl) (l0 := [some (.ref (xK G q)), some (.int (nI i))]) rfl (fun C hx hq => ?_)
  refine Ew.aload_n hx dJ0_charAt_5068e_0 rfl ?_
  refine Ew.xcallV (y' := mJ0_isLatin1_aae02) hx dJ0_charAt_5068e_1 ml_RJ0_492 cf_J0_isLatin1_aae02 cv_J0_isLatin1_aae02 (ct_J0_isLatin1_aae02 G V h9q) (Cx.str hx h9q).1 rfl (by decide) (by decide) rfl (Nat.le_of_ble_eq_true rfl) ?_
  rintro _ V9 ⟨rfl, h9⟩; subst V9
  refine Ew.if_eq_f hx (tgt := 16) dJ0_charAt_5068e_4 rfl (by decide) ?_
  refine Ew.aload_n hx dJ0_charAt_5068e_7 rfl ?_
  refine Ew.xgetf hx dJ0_charAt_5068e_8 fl_RJ0_9 (Cx.str hx h9q).2.2.1 ?_
  refine Ew.iload_n hx dJ0_charAt_5068e_11 rfl ?_
  refine Ew.callS (y' := mJ1_charAt_3b067) hx dJ0_charAt_5068e_12 ml_RJ0_495 cf_J1_charAt_3b067 cs_J1_charAt_3b067 (ct_J1_charAt_3b067 G V h9q hi) rfl (by decide) (by decide) rfl (Nat.le_of_ble_eq_true rfl) ?_
  rintro _ V9 ⟨rfl, h9⟩; subst V9
  refine Ew.zret hx hq dJ0_charAt_5068e_15 rfl (nar_ch h9q hi) ?_
  exact ⟨rfl, rfl⟩
def tkA (tx : Tx) (a q : Nat) : Prop := ∀ j, j < txN.getD q 0 → tx (a + j) = lB q j
def isTk (tx : Tx) (a b q : Nat) : Prop := b = a + txN.getD q 0 ∧ tkA tx a q
set_option maxHeartbeats 4000000 in
set_option maxRecDepth 100000 in
theorem lp_X9_tok {G : GT} {C : CT} {V : Mm} {tx : Tx} {ln : Nat} (hT : TX V tx ln) {a b : Nat} (ha : a ≤ b) (hb : b ≤ ln) {q : Nat} (h9q : q < 9) (e2 : V 529 2 = nI a) (eb : b = a + txN.getD q 0) (hx : Cx G mX9_isToken 4 C) (hq : Cq G (Ri (b2i (isTk tx a b q)) V) C) : ∀ (n i : Nat), i + n = txN.getD q 0 → (∀ j, j < i → tx (a + j) = lB q j) → Ew G C (V) 31 [some (adr G 529), some (.ref (xK G q)), some (.int (nI i))] [] := by
  intro n
  induction n with
  | zero =>
    intro i hi hs
    refine Ew.iload_n hx dX9_isToken_31 rfl ?_
    refine Ew.aload_n hx dX9_isToken_32 rfl ?_
    refine Ew.xcallV (y' := mJ0_length_8abf5) hx dX9_isToken_33 ml_RX9_33 cf_J0_length_8abf5 cv_J0_length_8abf5 (ct_J0_length_8abf5 G V h9q) (Cx.str hx h9q).1 rfl (by decide) (by decide) rfl (Nat.le_of_ble_eq_true rfl) ?_
    rintro _ V9 ⟨rfl, h9⟩; subst V9
    refine Ew.icmp_ge_t hx (tgt := 66) dX9_isToken_36 rfl (nI_le (by omega) (by have := tn9 h9q; omega)) ?_
    refine Ew.iconst hx dX9_isToken_66 k_iconst_1 ?_
    refine Ew.bret hx hq dX9_isToken_67 rfl (by first | exact b2i_01 _ | decide) ?_
    refine ⟨congrArg (fun z => some (Value.int z)) ?_, rfl⟩
    exact (b2i_t ⟨eb, fun j hj => hs j (by omega)⟩).symm
  | succ n ih =>
    intro i hi hs
    refine Ew.iload_n hx dX9_isToken_31 rfl ?_
    refine Ew.aload_n hx dX9_isToken_32 rfl ?_
    have h6 := tn9 h9q
    have hl := hT.2.1
    refine Ew.xcallV (y' := mJ0_length_8abf5) hx dX9_isToken_33 ml_RX9_33 cf_J0_length_8abf5 cv_J0_length_8abf5 (ct_J0_length_8abf5 G V h9q) (Cx.str hx h9q).1 rfl (by decide) (by decide) rfl (Nat.le_of_ble_eq_true rfl) ?_
    rintro _ V9 ⟨rfl, h9⟩; subst V9
    refine Ew.icmp_ge_f hx (tgt := 66) dX9_isToken_36 rfl (nI_ge (by omega) (by omega)) ?_
    refine Ew.aload_n hx dX9_isToken_39 rfl ?_
    refine Ew.getR (530) hx dX9_isToken_40 fg_RX9_9 rfl rfl ?_
    refine Ew.aload_n hx dX9_isToken_43 rfl ?_
    refine Ew.getI hx dX9_isToken_44 fg_RX9_26 rfl ?_
    rw [e2]
    refine Ew.iload_n hx dX9_isToken_47 rfl ?_
    refine Ew.iadd hx dX9_isToken_48 ?_
    rw [nI_add]
    refine Ew.cald (i := a + i) hx dX9_isToken_49 ag_17 rfl (rfl) (by omega) ?_
    rw [hT.2.2 (a + i) (by omega)]
    refine Ew.aload_n hx dX9_isToken_50 rfl ?_
    refine Ew.iload_n hx dX9_isToken_51 rfl ?_
    refine Ew.xcallV (y' := mJ0_charAt_5068e) hx dX9_isToken_52 ml_RX9_38 cf_J0_charAt_5068e cv_J0_charAt_5068e (ct_J0_charAt_5068e G V h9q (i := i) (by omega)) (Cx.str hx h9q).1 rfl (by decide) (by decide) rfl (Nat.le_of_ble_eq_true rfl) ?_
    rintro _ V9 ⟨rfl, h9⟩; subst V9
    refine Ew.icmp_eq hx (tgt := 60) dX9_isToken_55 rfl (fun h55 => ?_) (fun h55 => ?_)
    · refine Ew.iinc hx dX9_isToken_60 rfl (k_iinc_1 _) (by decide) rfl ?_
      refine Ew.goto hx (tgt := 31) dX9_isToken_63 rfl ?_
      rw [nI_1]
      exact ih (i + 1) (by omega) (fun j hj => by
        rcases Nat.lt_or_ge j i with q2 | q2
        · exact hs j q2
        · rw [show j = i by omega]; exact h55)
    · refine Ew.iconst hx dX9_isToken_58 k_iconst_0 ?_
      refine Ew.bret hx hq dX9_isToken_59 rfl (by first | exact b2i_01 _ | decide) ?_
      refine ⟨congrArg (fun z => some (Value.int z)) ?_, rfl⟩
      exact (b2i_f (fun q2 => h55 (q2.2 i (by omega)))).symm
set_option maxHeartbeats 4000000 in
set_option maxRecDepth 100000 in
theorem ct_X9_isToken (G : GT) (V : Mm) {tx : Tx} {ln : Nat} (hT : TX V tx ln) {a b : Nat} (ha : a ≤ b) (hb : b ≤ ln) {q : Nat} (h9q : q < 9) (e2 : V 529 2 = nI a) (e3 : V 529 3 = nI b) : Ct G mX9_isToken 4 [adr G 529, .ref (xK G q)] (V) (Ri (b2i (isTk tx a b q)) V) := by
  refine Ct.of cf_X9_isToken (List.forall_mem_cons.mpr ⟨rfl, List.forall_mem_cons.mpr ⟨rfl, fun _ h => absurd h List.not_mem_nil⟩⟩) (Nat.le_of_ble_eq_true rfl) (l0 := [some (adr G 529), some (.ref (xK G q)), none]) rfl (fun C hx hq => ?_)
  have h6 := tn9 h9q
  have hl := hT.2.1
  refine Ew.aload_n hx dX9_isToken_0 rfl ?_
  refine Ew.getI hx dX9_isToken_1 fg_RX9_20 rfl ?_
  refine Ew.aload_n hx dX9_isToken_4 rfl ?_
  refine Ew.getI hx dX9_isToken_5 fg_RX9_15 rfl ?_
  rw [e3, hT.1]
  refine Ew.icmp_gt_f hx (tgt := 27) dX9_isToken_8 rfl (fun q2 => by rw [il, tn (by omega), tn (by omega)] at q2; omega) ?_
  refine Ew.aload_n hx dX9_isToken_11 rfl ?_
  refine Ew.getI hx dX9_isToken_12 fg_RX9_20 rfl ?_
  refine Ew.aload_n hx dX9_isToken_15 rfl ?_
  refine Ew.getI hx dX9_isToken_16 fg_RX9_26 rfl ?_
  refine Ew.isub hx dX9_isToken_19 ?_
  rw [e2, e3, nI_sb ha]
  refine Ew.aload_n hx dX9_isToken_20 rfl ?_
  refine Ew.xcallV (y' := mJ0_length_8abf5) hx dX9_isToken_21 ml_RX9_33 cf_J0_length_8abf5 cv_J0_length_8abf5 (ct_J0_length_8abf5 G V h9q) (Cx.str hx h9q).1 rfl (by decide) (by decide) rfl (Nat.le_of_ble_eq_true rfl) ?_
  rintro _ V9 ⟨rfl, h9⟩; subst V9
  refine Ew.icmp_eq hx (tgt := 29) dX9_isToken_24 rfl (fun h24 => ?_) (fun h24 => ?_)
  · have eb : b = a + txN.getD q 0 := by
      have q2 := (nI_eq (by omega) (by omega)).mp h24
      omega
    refine Ew.iconst hx dX9_isToken_29 k_iconst_0 ?_
    refine Ew.istore_n hx dX9_isToken_30 (by decide) rfl ?_
    exact lp_X9_tok hT ha hb h9q e2 eb hx hq (txN.getD q 0) 0 (by omega) (fun j hj => absurd hj (Nat.not_lt_zero j))
  · refine Ew.iconst hx dX9_isToken_27 k_iconst_0 ?_
    refine Ew.bret hx hq dX9_isToken_28 rfl (by first | exact b2i_01 _ | decide) ?_
    refine ⟨congrArg (fun z => some (Value.int z)) ?_, rfl⟩
    exact (b2i_f (fun q2 => h24 (by rw [q2.1, Nat.add_sub_cancel_left]))).symm
