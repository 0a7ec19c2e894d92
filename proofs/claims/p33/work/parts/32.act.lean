theorem CR.mono {V : Mm} {s : Sv} {n z : Nat} {h : Nat → Sv} {B B' : Int} (hC : CR V s n z h B) (hB : B ≤ B') : CR V s n z h B' := by
  obtain ⟨e1, hn, e2, hz, hR, hW, hH⟩ := hC
  exact ⟨e1, hn, e2, hz, hR, hW.mono hB, fun j hj => ⟨(hH j hj).1, (hH j hj).2.mono hB⟩⟩
theorem Act.up {V V9 : Mm} {s s' : Sv} {n z : Nat} {h : Nat → Sv} {B B1 B2 : Int} {c a : Int32} {v : Option Value} (hA : Act V s n z h B B1 c a s' v V9) (hb : B1 ≤ B2) : Act V s n z h B B2 c a s' v V9 := by
  obtain ⟨h1, h2 | ⟨h2, h3, h4⟩⟩ := hA
  · exact ⟨h1, Or.inl h2⟩
  · exact ⟨h1, Or.inr ⟨h2, h3, h4.mono hb⟩⟩
theorem act_i {V V9 : Mm} {s s' : Sv} {n z : Nat} {h : Nat → Sv} {B B1 : Int} {c a : Int32} {v : Option Value} (hA : Act V s n z h B B1 c a s' v V9) : ∃ x, v = some (.int x) := by
  rcases hA.2 with ⟨-, h2, -⟩ | ⟨-, h2, -⟩ <;> exact ⟨_, h2⟩
abbrev shI (v k : Int32) : Int32 := v >>> (k &&& 31)
def kiN (v : Int32) : Nat := v.toBitVec.toNat % 2 ^ 4
theorem kin (v : Int32) : v &&& 15 = nI (kiN v) := pk_and v 4 (by decide)
theorem kiN_16 (v : Int32) : kiN v = 0 ∨ kiN v = 1 ∨ kiN v = 2 ∨ kiN v = 3 ∨ kiN v = 4 ∨ kiN v = 5 ∨ kiN v = 6 ∨ kiN v = 7 ∨ kiN v = 8 ∨ kiN v = 9 ∨ kiN v = 10 ∨ kiN v = 11 ∨ kiN v = 12 ∨ kiN v = 13 ∨ kiN v = 14 ∨ kiN v = 15 := by
  have h : kiN v < 2 ^ 4 := Nat.mod_lt _ (by decide)
  omega
def raI (s : Sv) (v : Int32) : Int32 := nI (lowN (shI v 4) (nrN s))
def peI (s : Sv) (v : Int32) : Int32 := nI (lowN (shI v 7) (npN s + 1))
def fiI (s : Sv) (v : Int32) : Int32 := s 0 + nI (lowN (shI v 10) 6)
def a0I (s : Sv) (v : Int32) : Int32 := s 1 + nI (lowN (shI v 4) 81) - 40
def a1I (v : Int32) : Int32 := nI (lowN (shI v 4) 6)
def a1J (v : Int32) : Int32 := nI (lowN (shI v 8) 101) - 50
def a2I (v : Int32) : Int32 := 1 + nI (lowN (shI v 7) 99)
def a3I (v : Int32) : Int32 := 1500 + nI (lowN (shI v 4) 600)
def a3J (v : Int32) : Int32 := 1 + nI (lowN (shI v 14) 3)
def a3K (v : Int32) : Int32 := 1 + nI (lowN (shI v 16) 90)
def a4J (s : Sv) (v : Int32) : Int32 := fiI s v + nI (lowN (shI v 13) 9)
def a4K (v : Int32) : Int32 := nI (lowN (shI v 16) 200)
def b1I (v : Int32) : Int32 := nI (lowN (shI v 16) 301)
def b1J (s : Sv) (v : Int32) : Int32 := peI s v - 1
def b2I (v : Int32) : Int32 := 1 + nI (lowN (shI v 4) 3)
def b2J (v : Int32) : Int32 := nI (lowN (shI v 6) 501)
def b3I (v : Int32) : Int32 := nI (lowN (shI v 4) 141) - 70
/-- what the law's act does at a state: code, answer, next state -/
noncomputable def actA (s : Sv) (v : Int32) : Int32 × Int32 × Sv :=
  match kiN v with
  | 0 => (cdLevel (a0I s v), s 1, upd s 1 (a0I s v))
  | 1 => (cdRate (a1I v) (a1J v), s (11 + nt (a1I v)), upd s (11 + nt (a1I v)) (a1J v))
  | 2 => (cdFee s (raI s v) (a2I v), rf s (nt (raI s v)) 2, upd s (37 + 3 * nt (raI s v) + 2) (a2I v))
  | 3 => (cdRamp s (a3I v) (a3J v) (a3K v), s 2, nxRamp s (a3I v) (a3J v) (a3K v))
  | 4 => (cdBuy s (raI s v) (fiI s v) (a4J s v) (a4K v), s 3, nxBuy s (raI s v) (fiI s v) (a4J s v) (a4K v))
  | 5 => (cdBuy s (raI s v) (fiI s v) (a4J s v) (a4K v), s 3, nxBuy s (raI s v) (fiI s v) (a4J s v) (a4K v))
  | 6 => (cdBuy s (raI s v) (fiI s v) (a4J s v) (a4K v), s 3, nxBuy s (raI s v) (fiI s v) (a4J s v) (a4K v))
  | 7 => (cdMove s (peI s v) (raI s v), mvD s (peI s v) (raI s v), nxMove s (peI s v) (raI s v))
  | 8 => (cdMove s (peI s v) (raI s v), mvD s (peI s v) (raI s v), nxMove s (peI s v) (raI s v))
  | 9 => (cdCancel s (peI s v), anCancel s (peI s v), nxCancel s (peI s v))
  | 10 => (cdRefund s (peI s v), pf s (nt (peI s v)) 7, nxRefund s (peI s v))
  | 11 => (cdLaunch s (raI s v) (b1I v) (b1J s v), anLaunch s (raI s v) (b1I v) (b1J s v), nxLaunch s (raI s v) (b1I v) (b1J s v))
  | 12 => (cdFine (b2I v) (b2J v), s (4 + (nt (b2I v) - 1)), upd s (4 + (nt (b2I v) - 1)) (b2J v))
  | _ => (cdPass s (b3I v), nI (lsN s (npN s)), nxPass s (b3I v))
set_option maxHeartbeats 4000000 in
set_option maxRecDepth 100000 in
theorem ct_L_act (G : GT) (V : Mm) {s : Sv} {m z : Nat} {hh : Nat → Sv} {B : Int} (hC : CR V s m z hh B) (hB0 : 0 ≤ B) (hB : B + 15000 < 2147483648) (h0 : 0 < nrN s) (v : Int32) : Ct G mL_act 6 [adr G 0, .int v] (V) (Act V s m z hh B (B + 15000) (actA s v).1 (actA s v).2.1 (actA s v).2.2) := by
  refine Ct.of cf_L_act (List.forall_mem_cons.mpr ⟨rfl, List.forall_mem_cons.mpr ⟨rfl, fun _ h => absurd h List.not_mem_nil⟩⟩) (Nat.le_of_ble_eq_true rfl) (l0 := [some (adr G 0), some (.int v), none, none, none, none]) rfl (fun C hx hq => ?_)
  have hnr := hC.2.2.2.2.2.1.1.nr
  have hnp := hC.2.2.2.2.2.1.1.np
  refine Ew.aload_n hx dL_act_0 rfl ?_
  refine Ew.iconst hx dL_act_1 k_iconst_0 ?_
  refine Ew.callV2 (y' := mX11_count) hx dL_act_2 ml_RL_12 cf_X11_count cv_X11_count (ct_X11_count G V hC _) rfl oc_0 rfl (by decide) (by decide) rfl (Nat.le_of_ble_eq_true rfl) ?_
  rintro _ V9 ⟨rfl, h9⟩; subst V9
  rw [cn_0]
  refine Ew.istoreL_n hx dL_act_5 (by decide) rfl ?_
  refine Ew.iload_n hx dL_act_6 rfl ?_
  refine Ew.iconst hx dL_act_7 k_iconst_4 ?_
  refine Ew.ishr hx dL_act_8 ?_
  refine Ew.aload_n hx dL_act_9 rfl ?_
  refine Ew.iconst hx dL_act_10 k_iconst_2 ?_
  refine Ew.callV2 (y' := mX11_count) hx dL_act_11 ml_RL_12 cf_X11_count cv_X11_count (ct_X11_count G V hC _) rfl oc_0 rfl (by decide) (by decide) rfl (Nat.le_of_ble_eq_true rfl) ?_
  rintro _ V9 ⟨rfl, h9⟩; subst V9
  rw [cn_2]
  rw [hnr.1]
  refine Ew.callS (y' := mL_low) hx dL_act_14 ml_RL_33 cf_L_low cs_L_low (ct_L_low G V _ (n := nrN s) h0 (by omega)) rfl (by decide) (by decide) rfl (Nat.le_of_ble_eq_true rfl) ?_
  rintro _ V9 ⟨rfl, h9⟩; subst V9
  refine Ew.istoreL_n hx dL_act_17 (by decide) rfl ?_
  refine Ew.iload_n hx dL_act_18 rfl ?_
  refine Ew.bipush hx dL_act_19 k_bipush_7 ?_
  refine Ew.ishr hx dL_act_21 ?_
  refine Ew.aload_n hx dL_act_22 rfl ?_
  refine Ew.iconst hx dL_act_23 k_iconst_3 ?_
  refine Ew.callV2 (y' := mX11_count) hx dL_act_24 ml_RL_12 cf_X11_count cv_X11_count (ct_X11_count G V hC _) rfl oc_0 rfl (by decide) (by decide) rfl (Nat.le_of_ble_eq_true rfl) ?_
  rintro _ V9 ⟨rfl, h9⟩; subst V9
  rw [cn_3]
  refine Ew.iconst hx dL_act_27 k_iconst_1 ?_
  rw [hnp.1]
  refine Ew.iadd hx dL_act_28 ?_
  rw [nI_1]
  refine Ew.callS (y' := mL_low) hx dL_act_29 ml_RL_33 cf_L_low cs_L_low (ct_L_low G V _ (n := npN s + 1) (Nat.succ_pos _) (by omega)) rfl (by decide) (by decide) rfl (Nat.le_of_ble_eq_true rfl) ?_
  rintro _ V9 ⟨rfl, h9⟩; subst V9
  refine Ew.istoreL hx dL_act_32 (by decide) rfl ?_
  refine Ew.iload_n hx dL_act_34 rfl ?_
  refine Ew.iload_n hx dL_act_35 rfl ?_
  refine Ew.bipush hx dL_act_36 k_bipush_10 ?_
  refine Ew.ishr hx dL_act_38 ?_
  refine Ew.bipush hx dL_act_39 k_bipush_6 ?_
  refine Ew.callS (y' := mL_low) hx dL_act_41 ml_RL_33 cf_L_low cs_L_low (ct_L_low G V _ (n := 6) (by decide) (by decide)) rfl (by decide) (by decide) rfl (Nat.le_of_ble_eq_true rfl) ?_
  rintro _ V9 ⟨rfl, h9⟩; subst V9
  refine Ew.iadd hx dL_act_44 ?_
  refine Ew.istoreL hx dL_act_45 (by decide) rfl ?_
  refine Ew.iload_n hx dL_act_47 rfl ?_
  refine Ew.bipush hx dL_act_48 k_bipush_15 ?_
  refine Ew.iand hx dL_act_50 ?_
  rw [kin v]
  rcases kiN_16 v with h | h | h | h | h | h | h | h | h | h | h | h | h | h | h | h
  · refine Ew.tswIn hx dL_act_51 (by rw [h]; decide) (i := 0) (tgt := 116) rfl rfl ?_
    have e0 : actA s v = (cdLevel (a0I s v), s 1, upd s 1 (a0I s v)) := by
      unfold actA
      rw [h]
      try rfl
    refine Ew.aload_n hx dL_act_116 rfl ?_
    refine Ew.aload_n hx dL_act_117 rfl ?_
    refine Ew.iconst hx dL_act_118 k_iconst_1 ?_
    refine Ew.callV2 (y' := mX11_count) hx dL_act_119 ml_RL_12 cf_X11_count cv_X11_count (ct_X11_count G V hC _) rfl oc_0 rfl (by decide) (by decide) rfl (Nat.le_of_ble_eq_true rfl) ?_
    rintro _ V9 ⟨rfl, h9⟩; subst V9
    rw [cn_1]
    refine Ew.iload_n hx dL_act_122 rfl ?_
    refine Ew.iconst hx dL_act_123 k_iconst_4 ?_
    refine Ew.ishr hx dL_act_124 ?_
    refine Ew.bipush hx dL_act_125 k_bipush_81 ?_
    refine Ew.callS (y' := mL_low) hx dL_act_127 ml_RL_33 cf_L_low cs_L_low (ct_L_low G V _ (n := 81) (by decide) (by decide)) rfl (by decide) (by decide) rfl (Nat.le_of_ble_eq_true rfl) ?_
    rintro _ V9 ⟨rfl, h9⟩; subst V9
    refine Ew.iadd hx dL_act_130 ?_
    refine Ew.bipush hx dL_act_131 k_bipush_40 ?_
    refine Ew.isub hx dL_act_133 ?_
    refine Ew.callV2 (y' := mX11_setLevel) hx dL_act_134 ml_RL_38 cf_X11_setLevel cv_X11_setLevel (ct_X11_setLevel G V hC hB0 hB (a0I s v)) rfl oc_0 rfl (by decide) (by decide) rfl (Nat.le_of_ble_eq_true rfl) ?_
    rintro v9 V9 hA; obtain ⟨x9, rfl⟩ := act_i hA
    refine Ew.iret hx hq dL_act_137 rfl ?_
    rw [e0]
    exact hA.up (by omega)
  · refine Ew.tswIn hx dL_act_51 (by rw [h]; decide) (i := 1) (tgt := 138) rfl rfl ?_
    have e0 : actA s v = (cdRate (a1I v) (a1J v), s (11 + nt (a1I v)), upd s (11 + nt (a1I v)) (a1J v)) := by
      unfold actA
      rw [h]
      try rfl
    refine Ew.aload_n hx dL_act_138 rfl ?_
    refine Ew.iload_n hx dL_act_139 rfl ?_
    refine Ew.iconst hx dL_act_140 k_iconst_4 ?_
    refine Ew.ishr hx dL_act_141 ?_
    refine Ew.bipush hx dL_act_142 k_bipush_6 ?_
    refine Ew.callS (y' := mL_low) hx dL_act_144 ml_RL_33 cf_L_low cs_L_low (ct_L_low G V _ (n := 6) (by decide) (by decide)) rfl (by decide) (by decide) rfl (Nat.le_of_ble_eq_true rfl) ?_
    rintro _ V9 ⟨rfl, h9⟩; subst V9
    refine Ew.iload_n hx dL_act_147 rfl ?_
    refine Ew.bipush hx dL_act_148 k_bipush_8 ?_
    refine Ew.ishr hx dL_act_150 ?_
    refine Ew.bipush hx dL_act_151 k_bipush_101 ?_
    refine Ew.callS (y' := mL_low) hx dL_act_153 ml_RL_33 cf_L_low cs_L_low (ct_L_low G V _ (n := 101) (by decide) (by decide)) rfl (by decide) (by decide) rfl (Nat.le_of_ble_eq_true rfl) ?_
    rintro _ V9 ⟨rfl, h9⟩; subst V9
    refine Ew.bipush hx dL_act_156 k_bipush_50 ?_
    refine Ew.isub hx dL_act_158 ?_
    refine Ew.callV2 (y' := mX11_setRate) hx dL_act_159 ml_RL_41 cf_X11_setRate cv_X11_setRate (ct_X11_setRate G V hC hB0 hB (a1I v) (a1J v)) rfl oc_0 rfl (by decide) (by decide) rfl (Nat.le_of_ble_eq_true rfl) ?_
    rintro v9 V9 hA; obtain ⟨x9, rfl⟩ := act_i hA
    refine Ew.iret hx hq dL_act_162 rfl ?_
    rw [e0]
    exact hA.up (by omega)
  · refine Ew.tswIn hx dL_act_51 (by rw [h]; decide) (i := 2) (tgt := 163) rfl rfl ?_
    have e0 : actA s v = (cdFee s (raI s v) (a2I v), rf s (nt (raI s v)) 2, upd s (37 + 3 * nt (raI s v) + 2) (a2I v)) := by
      unfold actA
      rw [h]
      try rfl
    refine Ew.aload_n hx dL_act_163 rfl ?_
    refine Ew.iload_n hx dL_act_164 rfl ?_
    refine Ew.iconst hx dL_act_165 k_iconst_1 ?_
    refine Ew.iload_n hx dL_act_166 rfl ?_
    refine Ew.bipush hx dL_act_167 k_bipush_7 ?_
    refine Ew.ishr hx dL_act_169 ?_
    refine Ew.bipush hx dL_act_170 k_bipush_99 ?_
    refine Ew.callS (y' := mL_low) hx dL_act_172 ml_RL_33 cf_L_low cs_L_low (ct_L_low G V _ (n := 99) (by decide) (by decide)) rfl (by decide) (by decide) rfl (Nat.le_of_ble_eq_true rfl) ?_
    rintro _ V9 ⟨rfl, h9⟩; subst V9
    refine Ew.iadd hx dL_act_175 ?_
    refine Ew.callV2 (y' := mX11_setFee) hx dL_act_176 ml_RL_44 cf_X11_setFee cv_X11_setFee (ct_X11_setFee G V hC hB0 hB (raI s v) (a2I v)) rfl oc_0 rfl (by decide) (by decide) rfl (Nat.le_of_ble_eq_true rfl) ?_
    rintro v9 V9 hA; obtain ⟨x9, rfl⟩ := act_i hA
    refine Ew.iret hx hq dL_act_179 rfl ?_
    rw [e0]
    exact hA.up (by omega)
  · refine Ew.tswIn hx dL_act_51 (by rw [h]; decide) (i := 3) (tgt := 180) rfl rfl ?_
    have e0 : actA s v = (cdRamp s (a3I v) (a3J v) (a3K v), s 2, nxRamp s (a3I v) (a3J v) (a3K v)) := by
      unfold actA
      rw [h]
      try rfl
    refine Ew.aload_n hx dL_act_180 rfl ?_
    refine Ew.sipush hx dL_act_181 k_sipush_1500 ?_
    refine Ew.iload_n hx dL_act_184 rfl ?_
    refine Ew.iconst hx dL_act_185 k_iconst_4 ?_
    refine Ew.ishr hx dL_act_186 ?_
    refine Ew.sipush hx dL_act_187 k_sipush_600 ?_
    refine Ew.callS (y' := mL_low) hx dL_act_190 ml_RL_33 cf_L_low cs_L_low (ct_L_low G V _ (n := 600) (by decide) (by decide)) rfl (by decide) (by decide) rfl (Nat.le_of_ble_eq_true rfl) ?_
    rintro _ V9 ⟨rfl, h9⟩; subst V9
    refine Ew.iadd hx dL_act_193 ?_
    refine Ew.iconst hx dL_act_194 k_iconst_1 ?_
    refine Ew.iload_n hx dL_act_195 rfl ?_
    refine Ew.bipush hx dL_act_196 k_bipush_14 ?_
    refine Ew.ishr hx dL_act_198 ?_
    refine Ew.iconst hx dL_act_199 k_iconst_3 ?_
    refine Ew.callS (y' := mL_low) hx dL_act_200 ml_RL_33 cf_L_low cs_L_low (ct_L_low G V _ (n := 3) (by decide) (by decide)) rfl (by decide) (by decide) rfl (Nat.le_of_ble_eq_true rfl) ?_
    rintro _ V9 ⟨rfl, h9⟩; subst V9
    refine Ew.iadd hx dL_act_203 ?_
    refine Ew.iconst hx dL_act_204 k_iconst_1 ?_
    refine Ew.iload_n hx dL_act_205 rfl ?_
    refine Ew.bipush hx dL_act_206 k_bipush_16 ?_
    refine Ew.ishr hx dL_act_208 ?_
    refine Ew.bipush hx dL_act_209 k_bipush_90 ?_
    refine Ew.callS (y' := mL_low) hx dL_act_211 ml_RL_33 cf_L_low cs_L_low (ct_L_low G V _ (n := 90) (by decide) (by decide)) rfl (by decide) (by decide) rfl (Nat.le_of_ble_eq_true rfl) ?_
    rintro _ V9 ⟨rfl, h9⟩; subst V9
    refine Ew.iadd hx dL_act_214 ?_
    refine Ew.callV2 (y' := mX11_addRamp) hx dL_act_215 ml_RL_47 cf_X11_addRamp cv_X11_addRamp (ct_X11_addRamp G V hC hB0 hB (a3I v) (a3J v) (a3K v)) rfl oc_0 rfl (by decide) (by decide) rfl (Nat.le_of_ble_eq_true rfl) ?_
    rintro v9 V9 hA; obtain ⟨x9, rfl⟩ := act_i hA
    refine Ew.iret hx hq dL_act_218 rfl ?_
    rw [e0]
    exact hA.up (by omega)
  · refine Ew.tswIn hx dL_act_51 (by rw [h]; decide) (i := 4) (tgt := 219) rfl rfl ?_
    have e0 : actA s v = (cdBuy s (raI s v) (fiI s v) (a4J s v) (a4K v), s 3, nxBuy s (raI s v) (fiI s v) (a4J s v) (a4K v)) := by
      unfold actA
      rw [h]
      try rfl
    refine Ew.aload_n hx dL_act_219 rfl ?_
    refine Ew.iload_n hx dL_act_220 rfl ?_
    refine Ew.iload hx dL_act_221 rfl ?_
    refine Ew.iload hx dL_act_223 rfl ?_
    refine Ew.iload_n hx dL_act_225 rfl ?_
    refine Ew.bipush hx dL_act_226 k_bipush_13 ?_
    refine Ew.ishr hx dL_act_228 ?_
    refine Ew.bipush hx dL_act_229 k_bipush_9 ?_
    refine Ew.callS (y' := mL_low) hx dL_act_231 ml_RL_33 cf_L_low cs_L_low (ct_L_low G V _ (n := 9) (by decide) (by decide)) rfl (by decide) (by decide) rfl (Nat.le_of_ble_eq_true rfl) ?_
    rintro _ V9 ⟨rfl, h9⟩; subst V9
    refine Ew.iadd hx dL_act_234 ?_
    refine Ew.iload_n hx dL_act_235 rfl ?_
    refine Ew.bipush hx dL_act_236 k_bipush_16 ?_
    refine Ew.ishr hx dL_act_238 ?_
    refine Ew.sipush hx dL_act_239 k_sipush_200 ?_
    refine Ew.callS (y' := mL_low) hx dL_act_242 ml_RL_33 cf_L_low cs_L_low (ct_L_low G V _ (n := 200) (by decide) (by decide)) rfl (by decide) (by decide) rfl (Nat.le_of_ble_eq_true rfl) ?_
    rintro _ V9 ⟨rfl, h9⟩; subst V9
    refine Ew.callV2 (y' := mX11_buy) hx dL_act_245 ml_RL_51 cf_X11_buy cv_X11_buy (ct_X11_buy G V hC hB0 hB (raI s v) (fiI s v) (a4J s v) (a4K v)) rfl oc_0 rfl (by decide) (by decide) rfl (Nat.le_of_ble_eq_true rfl) ?_
    rintro v9 V9 hA; obtain ⟨x9, rfl⟩ := act_i hA
    refine Ew.iret hx hq dL_act_248 rfl ?_
    rw [e0]
    exact hA.up (by omega)
  · refine Ew.tswIn hx dL_act_51 (by rw [h]; decide) (i := 5) (tgt := 219) rfl rfl ?_
    have e0 : actA s v = (cdBuy s (raI s v) (fiI s v) (a4J s v) (a4K v), s 3, nxBuy s (raI s v) (fiI s v) (a4J s v) (a4K v)) := by
      unfold actA
      rw [h]
      try rfl
    refine Ew.aload_n hx dL_act_219 rfl ?_
    refine Ew.iload_n hx dL_act_220 rfl ?_
    refine Ew.iload hx dL_act_221 rfl ?_
    refine Ew.iload hx dL_act_223 rfl ?_
    refine Ew.iload_n hx dL_act_225 rfl ?_
    refine Ew.bipush hx dL_act_226 k_bipush_13 ?_
    refine Ew.ishr hx dL_act_228 ?_
    refine Ew.bipush hx dL_act_229 k_bipush_9 ?_
    refine Ew.callS (y' := mL_low) hx dL_act_231 ml_RL_33 cf_L_low cs_L_low (ct_L_low G V _ (n := 9) (by decide) (by decide)) rfl (by decide) (by decide) rfl (Nat.le_of_ble_eq_true rfl) ?_
    rintro _ V9 ⟨rfl, h9⟩; subst V9
    refine Ew.iadd hx dL_act_234 ?_
    refine Ew.iload_n hx dL_act_235 rfl ?_
    refine Ew.bipush hx dL_act_236 k_bipush_16 ?_
    refine Ew.ishr hx dL_act_238 ?_
    refine Ew.sipush hx dL_act_239 k_sipush_200 ?_
    refine Ew.callS (y' := mL_low) hx dL_act_242 ml_RL_33 cf_L_low cs_L_low (ct_L_low G V _ (n := 200) (by decide) (by decide)) rfl (by decide) (by decide) rfl (Nat.le_of_ble_eq_true rfl) ?_
    rintro _ V9 ⟨rfl, h9⟩; subst V9
    refine Ew.callV2 (y' := mX11_buy) hx dL_act_245 ml_RL_51 cf_X11_buy cv_X11_buy (ct_X11_buy G V hC hB0 hB (raI s v) (fiI s v) (a4J s v) (a4K v)) rfl oc_0 rfl (by decide) (by decide) rfl (Nat.le_of_ble_eq_true rfl) ?_
    rintro v9 V9 hA; obtain ⟨x9, rfl⟩ := act_i hA
    refine Ew.iret hx hq dL_act_248 rfl ?_
    rw [e0]
    exact hA.up (by omega)
  · refine Ew.tswIn hx dL_act_51 (by rw [h]; decide) (i := 6) (tgt := 219) rfl rfl ?_
    have e0 : actA s v = (cdBuy s (raI s v) (fiI s v) (a4J s v) (a4K v), s 3, nxBuy s (raI s v) (fiI s v) (a4J s v) (a4K v)) := by
      unfold actA
      rw [h]
      try rfl
    refine Ew.aload_n hx dL_act_219 rfl ?_
    refine Ew.iload_n hx dL_act_220 rfl ?_
    refine Ew.iload hx dL_act_221 rfl ?_
    refine Ew.iload hx dL_act_223 rfl ?_
    refine Ew.iload_n hx dL_act_225 rfl ?_
    refine Ew.bipush hx dL_act_226 k_bipush_13 ?_
    refine Ew.ishr hx dL_act_228 ?_
    refine Ew.bipush hx dL_act_229 k_bipush_9 ?_
    refine Ew.callS (y' := mL_low) hx dL_act_231 ml_RL_33 cf_L_low cs_L_low (ct_L_low G V _ (n := 9) (by decide) (by decide)) rfl (by decide) (by decide) rfl (Nat.le_of_ble_eq_true rfl) ?_
    rintro _ V9 ⟨rfl, h9⟩; subst V9
    refine Ew.iadd hx dL_act_234 ?_
    refine Ew.iload_n hx dL_act_235 rfl ?_
    refine Ew.bipush hx dL_act_236 k_bipush_16 ?_
    refine Ew.ishr hx dL_act_238 ?_
    refine Ew.sipush hx dL_act_239 k_sipush_200 ?_
    refine Ew.callS (y' := mL_low) hx dL_act_242 ml_RL_33 cf_L_low cs_L_low (ct_L_low G V _ (n := 200) (by decide) (by decide)) rfl (by decide) (by decide) rfl (Nat.le_of_ble_eq_true rfl) ?_
    rintro _ V9 ⟨rfl, h9⟩; subst V9
    refine Ew.callV2 (y' := mX11_buy) hx dL_act_245 ml_RL_51 cf_X11_buy cv_X11_buy (ct_X11_buy G V hC hB0 hB (raI s v) (fiI s v) (a4J s v) (a4K v)) rfl oc_0 rfl (by decide) (by decide) rfl (Nat.le_of_ble_eq_true rfl) ?_
    rintro v9 V9 hA; obtain ⟨x9, rfl⟩ := act_i hA
    refine Ew.iret hx hq dL_act_248 rfl ?_
    rw [e0]
    exact hA.up (by omega)
  · refine Ew.tswIn hx dL_act_51 (by rw [h]; decide) (i := 7) (tgt := 249) rfl rfl ?_
    have e0 : actA s v = (cdMove s (peI s v) (raI s v), mvD s (peI s v) (raI s v), nxMove s (peI s v) (raI s v)) := by
      unfold actA
      rw [h]
      try rfl
    refine Ew.aload_n hx dL_act_249 rfl ?_
    refine Ew.iload hx dL_act_250 rfl ?_
    refine Ew.iload_n hx dL_act_252 rfl ?_
    refine Ew.callV2 (y' := mX11_move) hx dL_act_253 ml_RL_55 cf_X11_move cv_X11_move (ct_X11_move G V hC hB0 hB (peI s v) (raI s v)) rfl oc_0 rfl (by decide) (by decide) rfl (Nat.le_of_ble_eq_true rfl) ?_
    rintro v9 V9 hA; obtain ⟨x9, rfl⟩ := act_i hA
    refine Ew.iret hx hq dL_act_256 rfl ?_
    rw [e0]
    exact hA.up (by omega)
  · refine Ew.tswIn hx dL_act_51 (by rw [h]; decide) (i := 8) (tgt := 249) rfl rfl ?_
    have e0 : actA s v = (cdMove s (peI s v) (raI s v), mvD s (peI s v) (raI s v), nxMove s (peI s v) (raI s v)) := by
      unfold actA
      rw [h]
      try rfl
    refine Ew.aload_n hx dL_act_249 rfl ?_
    refine Ew.iload hx dL_act_250 rfl ?_
    refine Ew.iload_n hx dL_act_252 rfl ?_
    refine Ew.callV2 (y' := mX11_move) hx dL_act_253 ml_RL_55 cf_X11_move cv_X11_move (ct_X11_move G V hC hB0 hB (peI s v) (raI s v)) rfl oc_0 rfl (by decide) (by decide) rfl (Nat.le_of_ble_eq_true rfl) ?_
    rintro v9 V9 hA; obtain ⟨x9, rfl⟩ := act_i hA
    refine Ew.iret hx hq dL_act_256 rfl ?_
    rw [e0]
    exact hA.up (by omega)
  · refine Ew.tswIn hx dL_act_51 (by rw [h]; decide) (i := 9) (tgt := 257) rfl rfl ?_
    have e0 : actA s v = (cdCancel s (peI s v), anCancel s (peI s v), nxCancel s (peI s v)) := by
      unfold actA
      rw [h]
      try rfl
    refine Ew.aload_n hx dL_act_257 rfl ?_
    refine Ew.iload hx dL_act_258 rfl ?_
    refine Ew.callV2 (y' := mX11_cancel) hx dL_act_260 ml_RL_58 cf_X11_cancel cv_X11_cancel (ct_X11_cancel G V hC hB0 hB (peI s v)) rfl oc_0 rfl (by decide) (by decide) rfl (Nat.le_of_ble_eq_true rfl) ?_
    rintro v9 V9 hA; obtain ⟨x9, rfl⟩ := act_i hA
    refine Ew.iret hx hq dL_act_263 rfl ?_
    rw [e0]
    exact hA.up (by omega)
  · refine Ew.tswIn hx dL_act_51 (by rw [h]; decide) (i := 10) (tgt := 264) rfl rfl ?_
    have e0 : actA s v = (cdRefund s (peI s v), pf s (nt (peI s v)) 7, nxRefund s (peI s v)) := by
      unfold actA
      rw [h]
      try rfl
    refine Ew.aload_n hx dL_act_264 rfl ?_
    refine Ew.iload hx dL_act_265 rfl ?_
    refine Ew.callV2 (y' := mX11_refund) hx dL_act_267 ml_RL_61 cf_X11_refund cv_X11_refund (ct_X11_refund G V hC hB0 hB (peI s v)) rfl oc_0 rfl (by decide) (by decide) rfl (Nat.le_of_ble_eq_true rfl) ?_
    rintro v9 V9 hA; obtain ⟨x9, rfl⟩ := act_i hA
    refine Ew.iret hx hq dL_act_270 rfl ?_
    rw [e0]
    exact hA.up (by omega)
  · refine Ew.tswIn hx dL_act_51 (by rw [h]; decide) (i := 11) (tgt := 271) rfl rfl ?_
    have e0 : actA s v = (cdLaunch s (raI s v) (b1I v) (b1J s v), anLaunch s (raI s v) (b1I v) (b1J s v), nxLaunch s (raI s v) (b1I v) (b1J s v)) := by
      unfold actA
      rw [h]
      try rfl
    refine Ew.aload_n hx dL_act_271 rfl ?_
    refine Ew.iload_n hx dL_act_272 rfl ?_
    refine Ew.iload_n hx dL_act_273 rfl ?_
    refine Ew.bipush hx dL_act_274 k_bipush_16 ?_
    refine Ew.ishr hx dL_act_276 ?_
    refine Ew.sipush hx dL_act_277 k_sipush_301 ?_
    refine Ew.callS (y' := mL_low) hx dL_act_280 ml_RL_33 cf_L_low cs_L_low (ct_L_low G V _ (n := 301) (by decide) (by decide)) rfl (by decide) (by decide) rfl (Nat.le_of_ble_eq_true rfl) ?_
    rintro _ V9 ⟨rfl, h9⟩; subst V9
    refine Ew.iload hx dL_act_283 rfl ?_
    refine Ew.iconst hx dL_act_285 k_iconst_1 ?_
    refine Ew.isub hx dL_act_286 ?_
    refine Ew.callV2 (y' := mX11_launch) hx dL_act_287 ml_RL_64 cf_X11_launch cv_X11_launch (ct_X11_launch G V hC hB0 hB (raI s v) (b1I v) (b1J s v)) rfl oc_0 rfl (by decide) (by decide) rfl (Nat.le_of_ble_eq_true rfl) ?_
    rintro v9 V9 hA; obtain ⟨x9, rfl⟩ := act_i hA
    refine Ew.iret hx hq dL_act_290 rfl ?_
    rw [e0]
    exact hA.up (by omega)
  · refine Ew.tswIn hx dL_act_51 (by rw [h]; decide) (i := 12) (tgt := 291) rfl rfl ?_
    have e0 : actA s v = (cdFine (b2I v) (b2J v), s (4 + (nt (b2I v) - 1)), upd s (4 + (nt (b2I v) - 1)) (b2J v)) := by
      unfold actA
      rw [h]
      try rfl
    refine Ew.aload_n hx dL_act_291 rfl ?_
    refine Ew.iconst hx dL_act_292 k_iconst_1 ?_
    refine Ew.iload_n hx dL_act_293 rfl ?_
    refine Ew.iconst hx dL_act_294 k_iconst_4 ?_
    refine Ew.ishr hx dL_act_295 ?_
    refine Ew.iconst hx dL_act_296 k_iconst_3 ?_
    refine Ew.callS (y' := mL_low) hx dL_act_297 ml_RL_33 cf_L_low cs_L_low (ct_L_low G V _ (n := 3) (by decide) (by decide)) rfl (by decide) (by decide) rfl (Nat.le_of_ble_eq_true rfl) ?_
    rintro _ V9 ⟨rfl, h9⟩; subst V9
    refine Ew.iadd hx dL_act_300 ?_
    refine Ew.iload_n hx dL_act_301 rfl ?_
    refine Ew.bipush hx dL_act_302 k_bipush_6 ?_
    refine Ew.ishr hx dL_act_304 ?_
    refine Ew.sipush hx dL_act_305 k_sipush_501 ?_
    refine Ew.callS (y' := mL_low) hx dL_act_308 ml_RL_33 cf_L_low cs_L_low (ct_L_low G V _ (n := 501) (by decide) (by decide)) rfl (by decide) (by decide) rfl (Nat.le_of_ble_eq_true rfl) ?_
    rintro _ V9 ⟨rfl, h9⟩; subst V9
    refine Ew.callV2 (y' := mX11_setFine) hx dL_act_311 ml_RL_67 cf_X11_setFine cv_X11_setFine (ct_X11_setFine G V hC hB0 hB (b2I v) (b2J v)) rfl oc_0 rfl (by decide) (by decide) rfl (Nat.le_of_ble_eq_true rfl) ?_
    rintro v9 V9 hA; obtain ⟨x9, rfl⟩ := act_i hA
    refine Ew.iret hx hq dL_act_314 rfl ?_
    rw [e0]
    exact hA.up (by omega)
  · refine Ew.tswOut hx dL_act_51 (Or.inr (by rw [h]; decide)) (tgt := 315) rfl ?_
    have e0 : actA s v = (cdPass s (b3I v), nI (lsN s (npN s)), nxPass s (b3I v)) := by
      unfold actA
      rw [h]
      try rfl
    refine Ew.aload_n hx dL_act_315 rfl ?_
    refine Ew.iload_n hx dL_act_316 rfl ?_
    refine Ew.iconst hx dL_act_317 k_iconst_4 ?_
    refine Ew.ishr hx dL_act_318 ?_
    refine Ew.sipush hx dL_act_319 k_sipush_141 ?_
    refine Ew.callS (y' := mL_low) hx dL_act_322 ml_RL_33 cf_L_low cs_L_low (ct_L_low G V _ (n := 141) (by decide) (by decide)) rfl (by decide) (by decide) rfl (Nat.le_of_ble_eq_true rfl) ?_
    rintro _ V9 ⟨rfl, h9⟩; subst V9
    refine Ew.bipush hx dL_act_325 k_bipush_70 ?_
    refine Ew.isub hx dL_act_327 ?_
    refine Ew.callV2 (y' := mX11_pass) hx dL_act_328 ml_RL_70 cf_X11_pass cv_X11_pass (ct_X11_pass G V hC hB0 hB (b3I v)) rfl oc_0 rfl (by decide) (by decide) rfl (Nat.le_of_ble_eq_true rfl) ?_
    rintro v9 V9 hA; obtain ⟨x9, rfl⟩ := act_i hA
    refine Ew.iret hx hq dL_act_331 rfl ?_
    rw [e0]
    exact hA.up (by omega)
  · refine Ew.tswOut hx dL_act_51 (Or.inr (by rw [h]; decide)) (tgt := 315) rfl ?_
    have e0 : actA s v = (cdPass s (b3I v), nI (lsN s (npN s)), nxPass s (b3I v)) := by
      unfold actA
      rw [h]
      try rfl
    refine Ew.aload_n hx dL_act_315 rfl ?_
    refine Ew.iload_n hx dL_act_316 rfl ?_
    refine Ew.iconst hx dL_act_317 k_iconst_4 ?_
    refine Ew.ishr hx dL_act_318 ?_
    refine Ew.sipush hx dL_act_319 k_sipush_141 ?_
    refine Ew.callS (y' := mL_low) hx dL_act_322 ml_RL_33 cf_L_low cs_L_low (ct_L_low G V _ (n := 141) (by decide) (by decide)) rfl (by decide) (by decide) rfl (Nat.le_of_ble_eq_true rfl) ?_
    rintro _ V9 ⟨rfl, h9⟩; subst V9
    refine Ew.bipush hx dL_act_325 k_bipush_70 ?_
    refine Ew.isub hx dL_act_327 ?_
    refine Ew.callV2 (y' := mX11_pass) hx dL_act_328 ml_RL_70 cf_X11_pass cv_X11_pass (ct_X11_pass G V hC hB0 hB (b3I v)) rfl oc_0 rfl (by decide) (by decide) rfl (Nat.le_of_ble_eq_true rfl) ?_
    rintro v9 V9 hA; obtain ⟨x9, rfl⟩ := act_i hA
    refine Ew.iret hx hq dL_act_331 rfl ?_
    rw [e0]
    exact hA.up (by omega)
  · refine Ew.tswOut hx dL_act_51 (Or.inr (by rw [h]; decide)) (tgt := 315) rfl ?_
    have e0 : actA s v = (cdPass s (b3I v), nI (lsN s (npN s)), nxPass s (b3I v)) := by
      unfold actA
      rw [h]
      try rfl
    refine Ew.aload_n hx dL_act_315 rfl ?_
    refine Ew.iload_n hx dL_act_316 rfl ?_
    refine Ew.iconst hx dL_act_317 k_iconst_4 ?_
    refine Ew.ishr hx dL_act_318 ?_
    refine Ew.sipush hx dL_act_319 k_sipush_141 ?_
    refine Ew.callS (y' := mL_low) hx dL_act_322 ml_RL_33 cf_L_low cs_L_low (ct_L_low G V _ (n := 141) (by decide) (by decide)) rfl (by decide) (by decide) rfl (Nat.le_of_ble_eq_true rfl) ?_
    rintro _ V9 ⟨rfl, h9⟩; subst V9
    refine Ew.bipush hx dL_act_325 k_bipush_70 ?_
    refine Ew.isub hx dL_act_327 ?_
    refine Ew.callV2 (y' := mX11_pass) hx dL_act_328 ml_RL_70 cf_X11_pass cv_X11_pass (ct_X11_pass G V hC hB0 hB (b3I v)) rfl oc_0 rfl (by decide) (by decide) rfl (Nat.le_of_ble_eq_true rfl) ?_
    rintro v9 V9 hA; obtain ⟨x9, rfl⟩ := act_i hA
    refine Ew.iret hx hq dL_act_331 rfl ?_
    rw [e0]
    exact hA.up (by omega)
