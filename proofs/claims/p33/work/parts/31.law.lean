def lowN (v : Int32) (n : Nat) : Nat := v.toBitVec.toNat % 2 ^ 31 % n
theorem lowN_lt (v : Int32) {n : Nat} (h : 0 < n) : lowN v n < n := Nat.mod_lt _ h
def lerr (x : Int32) : Prop := x ≤ -100001 ∧ ¬ x = -100009
set_option maxHeartbeats 4000000 in
set_option maxRecDepth 100000 in
theorem ct_L_cell (G : GT) (V : Mm) {k : Nat} (hk : k < 1000) : Ct G mL_cell 0 [.ref (xB G), .int (nI k)] (V) (fun v V9 => (∃ x, v = some (.int x)) ∧ V9 = V) := by
  refine Ct.of cf_L_cell (List.forall_mem_cons.mpr ⟨rfl, List.forall_mem_cons.mpr ⟨rfl, fun _ h => absurd h List.not_mem_nil⟩⟩) (Nat.le_of_ble_eq_true rfl) (l0 := [some (.ref (xB G)), some (.int (nI k))]) rfl (fun C hx hq => ?_)
  refine Ew.iload_n hx dL_cell_0 rfl ?_
  refine Ew.aload_n hx dL_cell_1 rfl ?_
  refine Ew.xslen hx dL_cell_2 ?_
  have hl := Cx.xlen hx
  refine Ew.icmp_ge hx (tgt := 12) dL_cell_3 rfl (fun h3 => ?_) (fun h3 => ?_)
  · refine Ew.sipush hx dL_cell_12 k_sipush_7919 ?_
    refine Ew.iload_n hx dL_cell_15 rfl ?_
    refine Ew.iconst hx dL_cell_16 k_iconst_3 ?_
    refine Ew.iadd hx dL_cell_17 ?_
    refine Ew.imul hx dL_cell_18 ?_
    refine Ew.iload_n hx dL_cell_19 rfl ?_
    refine Ew.bipush hx dL_cell_20 k_bipush_11 ?_
    refine Ew.iadd hx dL_cell_22 ?_
    refine Ew.imul hx dL_cell_23 ?_
    refine Ew.iret hx hq dL_cell_24 rfl ?_
    exact ⟨⟨_, rfl⟩, rfl⟩
  · have hkl : k < xL G := by rw [ie, tn (by omega), tn (by omega)] at h3; omega
    refine Ew.aload_n hx dL_cell_6 rfl ?_
    refine Ew.iload_n hx dL_cell_7 rfl ?_
    refine Ew.xsld hx dL_cell_8 rfl hkl ?_
    refine Ew.goto hx (tgt := 24) dL_cell_9 rfl ?_
    refine Ew.iret hx hq dL_cell_24 rfl ?_
    exact ⟨⟨_, rfl⟩, rfl⟩
set_option maxHeartbeats 4000000 in
set_option maxRecDepth 100000 in
theorem ct_L_low (G : GT) (V : Mm) (v : Int32) {n : Nat} (h0 : 0 < n) (hn : n < 2 ^ 31) : Ct G mL_low 0 [.int v, .int (nI n)] (V) (Ri (nI (lowN v n)) V) := by
  refine Ct.of cf_L_low (List.forall_mem_cons.mpr ⟨rfl, List.forall_mem_cons.mpr ⟨rfl, fun _ h => absurd h List.not_mem_nil⟩⟩) (Nat.le_of_ble_eq_true rfl) (l0 := [some (.int v), some (.int (nI n))]) rfl (fun C hx hq => ?_)
  refine Ew.iload_n hx dL_low_0 rfl ?_
  refine Ew.ldc hx dL_low_1 kn_RL_7 ?_
  refine Ew.iand hx dL_low_3 ?_
  rw [pk_and v 31 (by decide)]
  refine Ew.iload_n hx dL_low_4 rfl ?_
  refine Ew.irem hx dL_low_5 (nI_ne0 h0 (by omega)) ?_
  rw [pk_rem (Nat.mod_lt _ (by decide)) h0 hn]
  refine Ew.iret hx hq dL_low_6 rfl ?_
  exact ⟨rfl, rfl⟩
set_option maxHeartbeats 4000000 in
set_option maxRecDepth 100000 in
theorem ct_L_isError (G : GT) (V : Mm) (x : Int32) : Ct G mL_isError 0 [.int x] (V) (Ri (b2i (lerr x)) V) := by
  refine Ct.of cf_L_isError (List.forall_mem_cons.mpr ⟨rfl, fun _ h => absurd h List.not_mem_nil⟩) (Nat.le_of_ble_eq_true rfl) (l0 := [some (.int x)]) rfl (fun C hx hq => ?_)
  refine Ew.iload_n hx dL_isError_0 rfl ?_
  refine Ew.ldc hx dL_isError_1 kn_RL_73 ?_
  refine Ew.icmp_gt hx (tgt := 16) dL_isError_3 rfl (fun h3 => ?_) (fun h3 => ?_)
  · refine Ew.iconst hx dL_isError_16 k_iconst_0 ?_
    refine Ew.bret hx hq dL_isError_17 rfl (by first | exact b2i_01 _ | decide) ?_
    refine ⟨congrArg (fun z => some (Value.int z)) ?_, rfl⟩
    first | exact (b2i_t (by simp only [lerr, il, ie, iq, tl_m100001, tl_m100009] at *; omega)).symm | exact (b2i_f (by simp only [lerr, il, ie, iq, tl_m100001, tl_m100009] at *; omega)).symm
  · refine Ew.iload_n hx dL_isError_6 rfl ?_
    refine Ew.ldc hx dL_isError_7 kn_RL_74 ?_
    refine Ew.icmp_eq hx (tgt := 16) dL_isError_9 rfl (fun h9 => ?_) (fun h9 => ?_)
    · refine Ew.iconst hx dL_isError_16 k_iconst_0 ?_
      refine Ew.bret hx hq dL_isError_17 rfl (by first | exact b2i_01 _ | decide) ?_
      refine ⟨congrArg (fun z => some (Value.int z)) ?_, rfl⟩
      first | exact (b2i_t (by simp only [lerr, il, ie, iq, tl_m100001, tl_m100009] at *; omega)).symm | exact (b2i_f (by simp only [lerr, il, ie, iq, tl_m100001, tl_m100009] at *; omega)).symm
    · refine Ew.iconst hx dL_isError_12 k_iconst_1 ?_
      refine Ew.goto hx (tgt := 17) dL_isError_13 rfl ?_
      refine Ew.bret hx hq dL_isError_17 rfl (by first | exact b2i_01 _ | decide) ?_
      refine ⟨congrArg (fun z => some (Value.int z)) ?_, rfl⟩
      first | exact (b2i_t (by simp only [lerr, il, ie, iq, tl_m100001, tl_m100009] at *; omega)).symm | exact (b2i_f (by simp only [lerr, il, ie, iq, tl_m100001, tl_m100009] at *; omega)).symm
theorem cn_0 (s : Sv) (a b : Int32) : anCount s a b 0 = s 0 := (cif_f (by decide)).trans (cif_t (by decide))
theorem cn_1 (s : Sv) (a b : Int32) : anCount s a b 1 = s 1 := (cif_f (by decide)).trans (cif_t (by decide))
theorem cn_2 (s : Sv) (a b : Int32) : anCount s a b 2 = s 2 := (cif_f (by decide)).trans (cif_t (by decide))
theorem cn_3 (s : Sv) (a b : Int32) : anCount s a b 3 = s 3 := (cif_f (by decide)).trans (cif_t (by decide))
theorem cn_4 (s : Sv) (a b : Int32) : anCount s a b 4 = nI (cDt s (npN s)) := (cif_f (by decide)).trans ((cif_f (by decide)).trans (cif_t rfl))
theorem cn_5 (s : Sv) (a b : Int32) : anCount s a b 5 = s 193 + s 387 := (cif_f (by decide)).trans ((cif_f (by decide)).trans ((cif_f (by decide)).trans (cif_t rfl)))
noncomputable def cnt (s : Sv) (i : Nat) : Int32 := anCount s 0 0 (nI i)
theorem cnt_of (s : Sv) (a b : Int32) {i : Nat} (h : i < 6 ∨ (8 ≤ i ∧ i < 14)) : anCount s a b (nI i) = cnt s i := by
  unfold cnt anCount
  by_cases h1 : 8 ≤ nI i ∧ nI i ≤ 13
  · rw [cif_t h1, cif_t h1]
  · rw [cif_f h1, cif_f h1]
    have h6 : ¬ nI i = 6 := fun q => by
      rw [iq, tn (by omega), tl_6] at q
      omega
    have h7 : ¬ nI i = 7 := fun q => by
      rw [iq, tn (by omega), tl_7] at q
      omega
    rw [cif_f h6, cif_f h7, cif_f h6, cif_f h7]
def itr (f : Nat → Int64 → Int64) : Nat → Nat → Int64 → Int64
  | 0, _, h => h
  | n + 1, i, h => itr f n (i + 1) (f i h)
noncomputable def dg1 (s : Sv) (i : Nat) (h : Int64) : Int64 := 31 * h + (cnt s i).toInt64 + 7 * (anMoney s (nI i)).toInt64
noncomputable def dg2 (s : Sv) (i : Nat) (h : Int64) : Int64 := 31 * h + (cnt s i).toInt64
noncomputable def dg3 (s : Sv) (i : Nat) (h : Int64) : Int64 := 31 * h + (anRamp s (nI (i / 6)) (nI (i % 6))).toInt64
noncomputable def dg4 (s : Sv) (i : Nat) (h : Int64) : Int64 := 31 * h + (anPermit s (nI (i / 13)) (nI (i % 13))).toInt64
noncomputable def dg5 (s : Sv) (i : Nat) (h : Int64) : Int64 := 31 * h + (anRate s (nI i)).toInt64
/-- the digest: a function of the state alone -/
noncomputable def dgS (s : Sv) : Int64 := itr (dg5 s) 26 0 (itr (dg4 s) (13 * npN s) 0 (itr (dg3 s) (6 * nrN s) 0 (itr (dg2 s) 6 8 (itr (dg1 s) 6 0 3))))
set_option maxHeartbeats 4000000 in
set_option maxRecDepth 100000 in
theorem lp_dg1 {G : GT} {C : CT} {V : Mm} {s : Sv} {m z : Nat} {hh : Nat → Sv} {B : Int} (hC : CR V s m z hh B) {Post : PT} {r : Int64} (kk : Ew G C V 42 [some (adr G 0), some (.long r), none, some (.int (nI (6)))] []) (hx : Cx G mL_digest 5 C) (hq : Cq G (Post) C) : ∀ (n i : Nat), i + n = 6 → ∀ v, itr (dg1 s) n i v = r → Ew G C (V) 6 [some (adr G 0), some (.long v), none, some (.int (nI i))] [] := by
  intro n
  induction n with
  | zero =>
    intro i hi v hv
    refine Ew.iload_n hx dL_digest_6 rfl ?_
    refine Ew.bipush hx dL_digest_7 k_bipush_6 ?_
    rw [show (6 : Int32) = nI 6 from rfl]
    refine Ew.icmp_ge_t hx (tgt := 42) dL_digest_9 rfl (nI_le (by omega) (by omega)) ?_
    rw [show i = 6 by omega, show v = r from hv]
    exact kk
  | succ n ih =>
    intro i hi v hv
    refine Ew.iload_n hx dL_digest_6 rfl ?_
    refine Ew.bipush hx dL_digest_7 k_bipush_6 ?_
    rw [show (6 : Int32) = nI 6 from rfl]
    refine Ew.icmp_ge_f hx (tgt := 42) dL_digest_9 rfl (nI_ge (by omega) (by omega)) ?_
    refine Ew.ldc2 hx dL_digest_12 kL_RL_10 ?_
    refine Ew.lload_n hx dL_digest_15 rfl ?_
    refine Ew.lmul hx dL_digest_16 ?_
    refine Ew.aload_n hx dL_digest_17 rfl ?_
    refine Ew.iload_n hx dL_digest_18 rfl ?_
    refine Ew.callV2 (y' := mX11_count) hx dL_digest_19 ml_RL_12 cf_X11_count cv_X11_count (ct_X11_count G V hC _) rfl oc_0 rfl (by decide) (by decide) rfl (Nat.le_of_ble_eq_true rfl) ?_
    rintro _ V9 ⟨rfl, h9⟩; subst V9
    rw [cnt_of s _ _ (i := i) (by omega)]
    refine Ew.i2l hx dL_digest_22 ?_
    refine Ew.ladd hx dL_digest_23 ?_
    refine Ew.ldc2 hx dL_digest_24 kL_RL_18 ?_
    refine Ew.aload_n hx dL_digest_27 rfl ?_
    refine Ew.iload_n hx dL_digest_28 rfl ?_
    refine Ew.callV2 (y' := mX11_money) hx dL_digest_29 ml_RL_20 cf_X11_money cv_X11_money (ct_X11_money G V hC _) rfl oc_0 rfl (by decide) (by decide) rfl (Nat.le_of_ble_eq_true rfl) ?_
    rintro _ V9 ⟨rfl, h9⟩; subst V9
    refine Ew.i2l hx dL_digest_32 ?_
    refine Ew.lmul hx dL_digest_33 ?_
    refine Ew.ladd hx dL_digest_34 ?_
    refine Ew.lstore_n hx dL_digest_35 (by decide) rfl rfl ?_
    refine Ew.iincL hx dL_digest_36 rfl (k_iinc_1 _) (by decide) rfl ?_
    refine Ew.goto hx (tgt := 6) dL_digest_39 rfl ?_
    rw [nI_1]
    exact ih (i + 1) (by omega) _ hv
set_option maxHeartbeats 4000000 in
set_option maxRecDepth 100000 in
theorem lp_dg2 {G : GT} {C : CT} {V : Mm} {s : Sv} {m z : Nat} {hh : Nat → Sv} {B : Int} (hC : CR V s m z hh B) {Post : PT} {r : Int64} (kk : Ew G C V 70 [some (adr G 0), some (.long r), none, some (.int (nI (14)))] []) (hx : Cx G mL_digest 5 C) (hq : Cq G (Post) C) : ∀ (n i : Nat), i + n = 14 → 8 ≤ i → ∀ v, itr (dg2 s) n i v = r → Ew G C (V) 45 [some (adr G 0), some (.long v), none, some (.int (nI i))] [] := by
  intro n
  induction n with
  | zero =>
    intro i hi hlo v hv
    refine Ew.iload_n hx dL_digest_45 rfl ?_
    refine Ew.bipush hx dL_digest_46 k_bipush_14 ?_
    rw [show (14 : Int32) = nI 14 from rfl]
    refine Ew.icmp_ge_t hx (tgt := 70) dL_digest_48 rfl (nI_le (by omega) (by omega)) ?_
    rw [show i = 14 by omega, show v = r from hv]
    exact kk
  | succ n ih =>
    intro i hi hlo v hv
    refine Ew.iload_n hx dL_digest_45 rfl ?_
    refine Ew.bipush hx dL_digest_46 k_bipush_14 ?_
    rw [show (14 : Int32) = nI 14 from rfl]
    refine Ew.icmp_ge_f hx (tgt := 70) dL_digest_48 rfl (nI_ge (by omega) (by omega)) ?_
    refine Ew.ldc2 hx dL_digest_51 kL_RL_10 ?_
    refine Ew.lload_n hx dL_digest_54 rfl ?_
    refine Ew.lmul hx dL_digest_55 ?_
    refine Ew.aload_n hx dL_digest_56 rfl ?_
    refine Ew.iload_n hx dL_digest_57 rfl ?_
    refine Ew.callV2 (y' := mX11_count) hx dL_digest_58 ml_RL_12 cf_X11_count cv_X11_count (ct_X11_count G V hC _) rfl oc_0 rfl (by decide) (by decide) rfl (Nat.le_of_ble_eq_true rfl) ?_
    rintro _ V9 ⟨rfl, h9⟩; subst V9
    rw [cnt_of s _ _ (i := i) (by omega)]
    refine Ew.i2l hx dL_digest_61 ?_
    refine Ew.ladd hx dL_digest_62 ?_
    refine Ew.lstore_n hx dL_digest_63 (by decide) rfl rfl ?_
    refine Ew.iincL hx dL_digest_64 rfl (k_iinc_1 _) (by decide) rfl ?_
    refine Ew.goto hx (tgt := 45) dL_digest_67 rfl ?_
    rw [nI_1]
    exact ih (i + 1) (by omega) (by omega) _ hv
set_option maxHeartbeats 4000000 in
set_option maxRecDepth 100000 in
theorem lp_dg3 {G : GT} {C : CT} {V : Mm} {s : Sv} {m z : Nat} {hh : Nat → Sv} {B : Int} (hC : CR V s m z hh B) {Post : PT} {r : Int64} (kk : Ew G C V 110 [some (adr G 0), some (.long r), none, some (.int (nI (6 * nrN s)))] []) (hx : Cx G mL_digest 5 C) (hq : Cq G (Post) C) : ∀ (n i : Nat), i + n = 6 * nrN s → ∀ v, itr (dg3 s) n i v = r → Ew G C (V) 72 [some (adr G 0), some (.long v), none, some (.int (nI i))] [] := by
  intro n
  induction n with
  | zero =>
    intro i hi v hv
    refine Ew.iload_n hx dL_digest_72 rfl ?_
    have hnr := hC.2.2.2.2.2.1.1.nr
    have hnp := hC.2.2.2.2.2.1.1.np
    
    refine Ew.bipush hx dL_digest_73 k_bipush_6 ?_
    refine Ew.aload_n hx dL_digest_75 rfl ?_
    refine Ew.iconst hx dL_digest_76 k_iconst_2 ?_
    refine Ew.callV2 (y' := mX11_count) hx dL_digest_77 ml_RL_12 cf_X11_count cv_X11_count (ct_X11_count G V hC _) rfl oc_0 rfl (by decide) (by decide) rfl (Nat.le_of_ble_eq_true rfl) ?_
    rintro _ V9 ⟨rfl, h9⟩; subst V9
    rw [cn_2]
    refine Ew.imul hx dL_digest_80 ?_
    rw [hnr.1, show (6 : Int32) * nI (nrN s) = nI (6 * nrN s) from pk_mul 6 (nrN s)]
    refine Ew.icmp_ge_t hx (tgt := 110) dL_digest_81 rfl (nI_le (by omega) (by omega)) ?_
    rw [show i = 6 * nrN s by omega, show v = r from hv]
    exact kk
  | succ n ih =>
    intro i hi v hv
    refine Ew.iload_n hx dL_digest_72 rfl ?_
    have hnr := hC.2.2.2.2.2.1.1.nr
    have hnp := hC.2.2.2.2.2.1.1.np
    
    refine Ew.bipush hx dL_digest_73 k_bipush_6 ?_
    refine Ew.aload_n hx dL_digest_75 rfl ?_
    refine Ew.iconst hx dL_digest_76 k_iconst_2 ?_
    refine Ew.callV2 (y' := mX11_count) hx dL_digest_77 ml_RL_12 cf_X11_count cv_X11_count (ct_X11_count G V hC _) rfl oc_0 rfl (by decide) (by decide) rfl (Nat.le_of_ble_eq_true rfl) ?_
    rintro _ V9 ⟨rfl, h9⟩; subst V9
    rw [cn_2]
    refine Ew.imul hx dL_digest_80 ?_
    rw [hnr.1, show (6 : Int32) * nI (nrN s) = nI (6 * nrN s) from pk_mul 6 (nrN s)]
    refine Ew.icmp_ge_f hx (tgt := 110) dL_digest_81 rfl (nI_ge (by omega) (by omega)) ?_
    refine Ew.ldc2 hx dL_digest_84 kL_RL_10 ?_
    refine Ew.lload_n hx dL_digest_87 rfl ?_
    refine Ew.lmul hx dL_digest_88 ?_
    refine Ew.aload_n hx dL_digest_89 rfl ?_
    refine Ew.iload_n hx dL_digest_90 rfl ?_
    refine Ew.bipush hx dL_digest_91 k_bipush_6 ?_
    refine Ew.idiv hx dL_digest_93 (by decide) ?_
    refine Ew.iload_n hx dL_digest_94 rfl ?_
    refine Ew.bipush hx dL_digest_95 k_bipush_6 ?_
    refine Ew.irem hx dL_digest_97 (by decide) ?_
    rw [show nI i - nI i / 6 * 6 = nI (i % 6) from pk_rem (by omega) (by decide) (by decide), show nI i / 6 = nI (i / 6) from pk_div (by omega) (by decide) (by decide)]
    refine Ew.callV2 (y' := mX11_ramp) hx dL_digest_98 ml_RL_23 cf_X11_ramp cv_X11_ramp (ct_X11_ramp G V hC _ _) rfl oc_0 rfl (by decide) (by decide) rfl (Nat.le_of_ble_eq_true rfl) ?_
    rintro _ V9 ⟨rfl, h9⟩; subst V9
    refine Ew.i2l hx dL_digest_101 ?_
    refine Ew.ladd hx dL_digest_102 ?_
    refine Ew.lstore_n hx dL_digest_103 (by decide) rfl rfl ?_
    refine Ew.iincL hx dL_digest_104 rfl (k_iinc_1 _) (by decide) rfl ?_
    refine Ew.goto hx (tgt := 72) dL_digest_107 rfl ?_
    rw [nI_1]
    exact ih (i + 1) (by omega) _ hv
set_option maxHeartbeats 4000000 in
set_option maxRecDepth 100000 in
theorem lp_dg4 {G : GT} {C : CT} {V : Mm} {s : Sv} {m z : Nat} {hh : Nat → Sv} {B : Int} (hC : CR V s m z hh B) {Post : PT} {r : Int64} (kk : Ew G C V 150 [some (adr G 0), some (.long r), none, some (.int (nI (13 * npN s)))] []) (hx : Cx G mL_digest 5 C) (hq : Cq G (Post) C) : ∀ (n i : Nat), i + n = 13 * npN s → ∀ v, itr (dg4 s) n i v = r → Ew G C (V) 112 [some (adr G 0), some (.long v), none, some (.int (nI i))] [] := by
  intro n
  induction n with
  | zero =>
    intro i hi v hv
    refine Ew.iload_n hx dL_digest_112 rfl ?_
    have hnr := hC.2.2.2.2.2.1.1.nr
    have hnp := hC.2.2.2.2.2.1.1.np
    
    refine Ew.bipush hx dL_digest_113 k_bipush_13 ?_
    refine Ew.aload_n hx dL_digest_115 rfl ?_
    refine Ew.iconst hx dL_digest_116 k_iconst_3 ?_
    refine Ew.callV2 (y' := mX11_count) hx dL_digest_117 ml_RL_12 cf_X11_count cv_X11_count (ct_X11_count G V hC _) rfl oc_0 rfl (by decide) (by decide) rfl (Nat.le_of_ble_eq_true rfl) ?_
    rintro _ V9 ⟨rfl, h9⟩; subst V9
    rw [cn_3]
    refine Ew.imul hx dL_digest_120 ?_
    rw [hnp.1, show (13 : Int32) * nI (npN s) = nI (13 * npN s) from pk_mul 13 (npN s)]
    refine Ew.icmp_ge_t hx (tgt := 150) dL_digest_121 rfl (nI_le (by omega) (by omega)) ?_
    rw [show i = 13 * npN s by omega, show v = r from hv]
    exact kk
  | succ n ih =>
    intro i hi v hv
    refine Ew.iload_n hx dL_digest_112 rfl ?_
    have hnr := hC.2.2.2.2.2.1.1.nr
    have hnp := hC.2.2.2.2.2.1.1.np
    
    refine Ew.bipush hx dL_digest_113 k_bipush_13 ?_
    refine Ew.aload_n hx dL_digest_115 rfl ?_
    refine Ew.iconst hx dL_digest_116 k_iconst_3 ?_
    refine Ew.callV2 (y' := mX11_count) hx dL_digest_117 ml_RL_12 cf_X11_count cv_X11_count (ct_X11_count G V hC _) rfl oc_0 rfl (by decide) (by decide) rfl (Nat.le_of_ble_eq_true rfl) ?_
    rintro _ V9 ⟨rfl, h9⟩; subst V9
    rw [cn_3]
    refine Ew.imul hx dL_digest_120 ?_
    rw [hnp.1, show (13 : Int32) * nI (npN s) = nI (13 * npN s) from pk_mul 13 (npN s)]
    refine Ew.icmp_ge_f hx (tgt := 150) dL_digest_121 rfl (nI_ge (by omega) (by omega)) ?_
    refine Ew.ldc2 hx dL_digest_124 kL_RL_10 ?_
    refine Ew.lload_n hx dL_digest_127 rfl ?_
    refine Ew.lmul hx dL_digest_128 ?_
    refine Ew.aload_n hx dL_digest_129 rfl ?_
    refine Ew.iload_n hx dL_digest_130 rfl ?_
    refine Ew.bipush hx dL_digest_131 k_bipush_13 ?_
    refine Ew.idiv hx dL_digest_133 (by decide) ?_
    refine Ew.iload_n hx dL_digest_134 rfl ?_
    refine Ew.bipush hx dL_digest_135 k_bipush_13 ?_
    refine Ew.irem hx dL_digest_137 (by decide) ?_
    rw [show nI i - nI i / 13 * 13 = nI (i % 13) from pk_rem (by omega) (by decide) (by decide), show nI i / 13 = nI (i / 13) from pk_div (by omega) (by decide) (by decide)]
    refine Ew.callV2 (y' := mX11_permit) hx dL_digest_138 ml_RL_27 cf_X11_permit cv_X11_permit (ct_X11_permit G V hC _ _) rfl oc_0 rfl (by decide) (by decide) rfl (Nat.le_of_ble_eq_true rfl) ?_
    rintro _ V9 ⟨rfl, h9⟩; subst V9
    refine Ew.i2l hx dL_digest_141 ?_
    refine Ew.ladd hx dL_digest_142 ?_
    refine Ew.lstore_n hx dL_digest_143 (by decide) rfl rfl ?_
    refine Ew.iincL hx dL_digest_144 rfl (k_iinc_1 _) (by decide) rfl ?_
    refine Ew.goto hx (tgt := 112) dL_digest_147 rfl ?_
    rw [nI_1]
    exact ih (i + 1) (by omega) _ hv
set_option maxHeartbeats 4000000 in
set_option maxRecDepth 100000 in
theorem lp_dg5 {G : GT} {C : CT} {V : Mm} {s : Sv} {m z : Nat} {hh : Nat → Sv} {B : Int} (hC : CR V s m z hh B) {Post : PT} {r : Int64} (kk : Ew G C V 177 [some (adr G 0), some (.long r), none, some (.int (nI (26)))] []) (hx : Cx G mL_digest 5 C) (hq : Cq G (Post) C) : ∀ (n i : Nat), i + n = 26 → ∀ v, itr (dg5 s) n i v = r → Ew G C (V) 152 [some (adr G 0), some (.long v), none, some (.int (nI i))] [] := by
  intro n
  induction n with
  | zero =>
    intro i hi v hv
    refine Ew.iload_n hx dL_digest_152 rfl ?_
    refine Ew.bipush hx dL_digest_153 k_bipush_26 ?_
    rw [show (26 : Int32) = nI 26 from rfl]
    refine Ew.icmp_ge_t hx (tgt := 177) dL_digest_155 rfl (nI_le (by omega) (by omega)) ?_
    rw [show i = 26 by omega, show v = r from hv]
    exact kk
  | succ n ih =>
    intro i hi v hv
    refine Ew.iload_n hx dL_digest_152 rfl ?_
    refine Ew.bipush hx dL_digest_153 k_bipush_26 ?_
    rw [show (26 : Int32) = nI 26 from rfl]
    refine Ew.icmp_ge_f hx (tgt := 177) dL_digest_155 rfl (nI_ge (by omega) (by omega)) ?_
    refine Ew.ldc2 hx dL_digest_158 kL_RL_10 ?_
    refine Ew.lload_n hx dL_digest_161 rfl ?_
    refine Ew.lmul hx dL_digest_162 ?_
    refine Ew.aload_n hx dL_digest_163 rfl ?_
    refine Ew.iload_n hx dL_digest_164 rfl ?_
    refine Ew.callV2 (y' := mX11_rate) hx dL_digest_165 ml_RL_30 cf_X11_rate cv_X11_rate (ct_X11_rate G V hC _) rfl oc_0 rfl (by decide) (by decide) rfl (Nat.le_of_ble_eq_true rfl) ?_
    rintro _ V9 ⟨rfl, h9⟩; subst V9
    refine Ew.i2l hx dL_digest_168 ?_
    refine Ew.ladd hx dL_digest_169 ?_
    refine Ew.lstore_n hx dL_digest_170 (by decide) rfl rfl ?_
    refine Ew.iincL hx dL_digest_171 rfl (k_iinc_1 _) (by decide) rfl ?_
    refine Ew.goto hx (tgt := 152) dL_digest_174 rfl ?_
    rw [nI_1]
    exact ih (i + 1) (by omega) _ hv
set_option maxHeartbeats 4000000 in
set_option maxRecDepth 100000 in
theorem ct_L_digest (G : GT) (V : Mm) {s : Sv} {m z : Nat} {hh : Nat → Sv} {B : Int} (hC : CR V s m z hh B) : Ct G mL_digest 5 [adr G 0] (V) (fun v V9 => v = some (.long (dgS s)) ∧ V9 = V) := by
  refine Ct.of cf_L_digest (List.forall_mem_cons.mpr ⟨rfl, fun _ h => absurd h List.not_mem_nil⟩) (Nat.le_of_ble_eq_true rfl) (l0 := [some (adr G 0), none, none, none]) rfl (fun C hx hq => ?_)
  refine Ew.ldc2 hx dL_digest_0 kL_RL_8 ?_
  refine Ew.lstore_n hx dL_digest_3 (by decide) rfl rfl ?_
  refine Ew.iconst hx dL_digest_4 k_iconst_0 ?_
  refine Ew.istoreL_n hx dL_digest_5 (by decide) rfl ?_
  refine lp_dg1 hC (r := itr (dg1 s) 6 0 3) ?_ hx hq 6 0 rfl _ rfl
  refine Ew.bipush hx dL_digest_42 k_bipush_8 ?_
  refine Ew.istoreL_n hx dL_digest_44 (by decide) rfl ?_
  refine lp_dg2 hC (r := itr (dg2 s) 6 8 (itr (dg1 s) 6 0 3)) ?_ hx hq 6 8 rfl (Nat.le_refl 8) _ rfl
  refine Ew.iconst hx dL_digest_70 k_iconst_0 ?_
  refine Ew.istoreL_n hx dL_digest_71 (by decide) rfl ?_
  refine lp_dg3 hC (r := itr (dg3 s) (6 * nrN s) 0 (itr (dg2 s) 6 8 (itr (dg1 s) 6 0 3))) ?_ hx hq (6 * nrN s) 0 (Nat.zero_add _) _ rfl
  refine Ew.iconst hx dL_digest_110 k_iconst_0 ?_
  refine Ew.istoreL_n hx dL_digest_111 (by decide) rfl ?_
  refine lp_dg4 hC (r := itr (dg4 s) (13 * npN s) 0 (itr (dg3 s) (6 * nrN s) 0 (itr (dg2 s) 6 8 (itr (dg1 s) 6 0 3)))) ?_ hx hq (13 * npN s) 0 (Nat.zero_add _) _ rfl
  refine Ew.iconst hx dL_digest_150 k_iconst_0 ?_
  refine Ew.istoreL_n hx dL_digest_151 (by decide) rfl ?_
  refine lp_dg5 hC (r := dgS s) ?_ hx hq 26 0 rfl _ rfl
  refine Ew.lload_n hx dL_digest_177 rfl ?_
  refine Ew.lret hx hq dL_digest_178 rfl ?_
  exact ⟨rfl, rfl⟩
