set_option maxHeartbeats 4000000 in
set_option maxRecDepth 100000 in
theorem ct_Jx29ce0_ordinal_8abf5 (G : GT) (V : Mm) {i : Nat} (hi : i < 7) : Ct G mJx29ce0_ordinal_8abf5 0 [.ref (xE G i)] (V) (Ri (nI i) V) := by
  refine Ct.of cf_Jx29ce0_ordinal_8abf5 (List.forall_mem_cons.mpr ⟨rfl, fun _ h => absurd h List.not_mem_nil⟩) (Nat.le_of_ble_eq_true rfl) (l0 := [some (.ref (xE G i))]) rfl (fun C hx hq => ?_)
  refine Ew.aload_n hx dJx29ce0_ordinal_8abf5_0 rfl ?_
  refine Ew.xgetf hx dJx29ce0_ordinal_8abf5_1 fl_RJx29ce0_7 (Cx.enm hx hi).2.2.2.2 ?_
  refine Ew.iret hx hq dJx29ce0_ordinal_8abf5_4 rfl ?_
  exact ⟨rfl, rfl⟩
theorem ow_1 : Cond.methodLink RX5 101 ⟨"RampPermits$Command", "ordinal", "()I"⟩ ∈ Big := inB3 178 rfl rfl
theorem ow_2 : Cond.sameMethod "RampPermits$Command" "java/lang/Enum" "ordinal" "()I" ∈ Big := inB3 179 rfl rfl
theorem ow_3 : Cond.selects RX1 ⟨"RampPermits$Command", "ordinal", "()I"⟩ yJx29ce0_ordinal_8abf5 ∈ Big := inB3 181 rfl rfl
theorem ow_4 : Cond.instanceMethod yJx29ce0_ordinal_8abf5 ∈ Big := inB3 182 rfl rfl
theorem Ew.xord {G : GT} {C : CT} {V : Mm} {y : MT} {d pc npc i : Nat} {l : List (Option Value)} {rest : List Value} (hx : Cx G y d C) (hy : y.1.cls = RX5) (hd : Dc y.2.1 pc (.invokevirtual 101) 3 npc) (hi : i < 7) (hd' : 1 ≤ d) (hw : (rest.map fun v => v.category).sum ≤ 8) (kk : Ew G C V npc l (.int (nI i) :: rest)) : Ew G C V pc l (.ref (xE G i) :: rest) := by
  have hx0 := hx
  have hO := (Cx.enm hx hi).1
  obtain ⟨he, hb, ho, ht, hK, hX, hz, hlk, hr, hml0, hr1, hr2, hr3, hr4⟩ := hx; obtain ⟨hd, rfl⟩ := hd
  rw [hy] at ho
  intro H locs ls hP hS hL
  refine Ew.ofRun (Post' := Ri (nI i) V) hP hS hL (va_runU (As := []) (rest := rest) (mc := 0) (ms := 0) ⟨he, hb, hL.1 ▸ rfl, ho, ht⟩ (ct_Jx29ce0_ordinal_8abf5 G V hi) (va_cwU (C := RX1) (owner := "java/lang/Enum") (x := ⟨"RampPermits$Command", "ordinal", "()I"⟩) 0 ht (ws := wsY mJx29ce0_ordinal_8abf5) (ws' := Big) ?_ rfl rfl rfl rfl cf_Jx29ce0_ordinal_8abf5.2.2.1 ⟨?_, ?_⟩) ⟨wd_blind, by obtain ⟨cell, h1, h2, h3, -⟩ := hO.kept hS.2.1; exact ⟨cell, h1, h2, h3⟩, wd_pre hx0 hP hS⟩ rfl rfl hL.1 rfl (lv_room hw) hd ⟨by omega, by omega⟩) (fun v V' h => by obtain ⟨rfl, rfl⟩ := h; exact kk)
  · intro w hw
    unfold va_wsU at hw
    rcases List.mem_append.mp hw with h | h
    · simp only [List.mem_cons, List.not_mem_nil, or_false] at h
      have hm2 : w ∈ Big := by rcases h with rfl | rfl | rfl | rfl | rfl <;> first | exact ow_1 | exact ow_2 | exact ow_3 | exact ow_4 | exact cf_Jx29ce0_ordinal_8abf5.2.1
      exact ⟨hm2, good_of_word (big_good hm2)⟩
    · exact big_ws cf_Jx29ce0_ordinal_8abf5 w h
  · show 0 + 1 ≤ _
    omega
  · show 8 + (1 + 11) + 36 * 0 ≤ _
    omega
noncomputable def cdW (s : Sv) (N : Nat → Int32) : Nat → Int32
  | 0 => cdRamp s (N 0) (N 1) (N 2)
  | 1 => cdRate (N 0) (N 1)
  | 2 => cdBuy s (N 0) (N 1) (N 2) (N 3)
  | 3 => cdMove s (N 0) (N 1)
  | 4 => cdCancel s (N 0)
  | 5 => cdRefund s (N 0)
  | _ => cdPass s (N 0)
noncomputable def anW (s : Sv) (N : Nat → Int32) : Nat → Int32
  | 0 => s 2
  | 1 => s (11 + nt (N 0))
  | 2 => s 3
  | 3 => mvD s (N 0) (N 1)
  | 4 => anCancel s (N 0)
  | 5 => pf s (nt (N 0)) 7
  | _ => nI (lsN s (npN s))
noncomputable def nxW (s : Sv) (N : Nat → Int32) : Nat → Sv
  | 0 => nxRamp s (N 0) (N 1) (N 2)
  | 1 => upd s (11 + nt (N 0)) (N 1)
  | 2 => nxBuy s (N 0) (N 1) (N 2) (N 3)
  | 3 => nxMove s (N 0) (N 1)
  | 4 => nxCancel s (N 0)
  | 5 => nxRefund s (N 0)
  | _ => nxPass s (N 0)
theorem sp7 {w : Nat} (h : w < 7) : w = 0 ∨ w = 1 ∨ w = 2 ∨ w = 3 ∨ w = 4 ∨ w = 5 ∨ w = 6 := by omega
theorem cdW_e (s : Sv) (N : Nat → Int32) {w : Nat} (h : w < 7) : cdE (cdW s N w) := by
  rcases sp7 h with rfl | rfl | rfl | rfl | rfl | rfl | rfl
  · exact cdRamp_e s _ _ _
  · exact cdRate_e _ _
  · exact cdBuy_e s _ _ _ _
  · exact cdMove_e s _ _
  · exact cdCancel_e s _
  · exact cdRefund_e s _
  · exact cdPass_e s _
theorem ok_W {s : Sv} {B : Int} (hB0 : 0 ≤ B) (hB : B + 15000 < 2147483648) (hW : WF s B) (N : Nat → Int32) {w : Nat} (h : w < 7) : (cdW s N w = 0 → ¬ errP (anW s N w)) ∧ (cdW s N w = 0 → WF (nxW s N w) (B + 15000)) ∧ (cdW s N w = 0 → ∀ m, 193 ≤ m → nxW s N w m = s m) := by
  have up : ∀ {t : Sv}, WF t B → WF t (B + 15000) := fun q => q.mono (by omega)
  rcases sp7 h with rfl | rfl | rfl | rfl | rfl | rfl | rfl
  · have q := ok_ramp hW (N 0) (N 1) (N 2); exact ⟨q.1, fun z => up (q.2.1 z), q.2.2⟩
  · have q := ok_rate hW (N 0) (N 1); exact ⟨q.1, fun z => up (q.2.1 z), q.2.2⟩
  · have q := ok_buy hB0 hW (N 0) (N 1) (N 2) (N 3); exact ⟨q.1, fun z => up (q.2.1 z), q.2.2⟩
  · exact ok_move hB0 hB hW (N 0) (N 1)
  · exact ok_cancel hB hW (N 0)
  · have q := ok_refund hB0 hW (N 0); exact ⟨q.1, fun z => up (q.2.1 z), q.2.2⟩
  · exact ok_pass hB0 hB hW (N 0)
theorem Pst.int {V V' : Mm} {c a : Int32} {s : Sv} {v : Option Value} (h : Pst V c a s v V') : ∃ r, v = some (Value.int r) := by
  rcases h with ⟨-, h, -⟩ | ⟨-, h, -⟩
  · exact ⟨_, h⟩
  · exact ⟨_, h⟩
set_option maxHeartbeats 4000000 in
set_option maxRecDepth 100000 in
theorem ct_X5_perform (G : GT) (V : Mm) {s : Sv} {B : Int} (hR : Rep V 2 s) (hW : WF s B) {w : Nat} (hw : w < 7) : Ct G mX5_perform 4 [adr G 528, .ref (xE G w), adr G 2] (V) (Pst V (cdW s (V 531) w) (anW s (V 531) w) (nxW s (V 531) w)) := by
  refine Ct.of cf_X5_perform (List.forall_mem_cons.mpr ⟨rfl, List.forall_mem_cons.mpr ⟨rfl, List.forall_mem_cons.mpr ⟨rfl, fun _ h => absurd h List.not_mem_nil⟩⟩⟩) (Nat.le_of_ble_eq_true rfl) (l0 := [some (adr G 528), some (.ref (xE G w)), some (adr G 2)]) rfl (fun C hx hq => ?_)
  refine Ew.xgets hx dX5_perform_0 fl_RX5_96 hx.xt.1.2.2.1 ?_
  refine Ew.aload_n hx dX5_perform_3 rfl ?_
  refine Ew.xord hx rfl dX5_perform_4 hw (by decide) (Nat.le_of_ble_eq_true rfl) ?_
  refine Ew.xiald hx dX5_perform_7 hx.xt.1.2.2.2.1 hw (by decide) rfl ?_
  rcases sp7 hw with rfl | rfl | rfl | rfl | rfl | rfl | rfl
  · refine Ew.tswIn hx dX5_perform_8 (by decide) (i := 0) (tgt := 48) rfl rfl ?_
    refine Ew.aload_n hx dX5_perform_48 rfl ?_
    refine Ew.aload_n hx dX5_perform_49 rfl ?_
    refine Ew.getR (531) hx dX5_perform_50 fg_RX5_18 rfl rfl ?_
    refine Ew.iconst hx dX5_perform_53 k_iconst_0 ?_
    refine Ew.iald (i := 0) hx dX5_perform_54 ag_18 rfl (rfl) (by decide) ?_
    refine Ew.aload_n hx dX5_perform_55 rfl ?_
    refine Ew.getR (531) hx dX5_perform_56 fg_RX5_18 rfl rfl ?_
    refine Ew.iconst hx dX5_perform_59 k_iconst_1 ?_
    refine Ew.iald (i := 1) hx dX5_perform_60 ag_18 rfl (rfl) (by decide) ?_
    refine Ew.aload_n hx dX5_perform_61 rfl ?_
    refine Ew.getR (531) hx dX5_perform_62 fg_RX5_18 rfl rfl ?_
    refine Ew.iconst hx dX5_perform_65 k_iconst_2 ?_
    refine Ew.iald (i := 2) hx dX5_perform_66 ag_18 rfl (rfl) (by decide) ?_
    refine Ew.callV2 (y' := mX7_openRamp) hx dX5_perform_67 ml_RX5_104 cf_X7_openRamp cv_X7_openRamp (ct_X7_openRamp G V hR hW _ _ _) rfl oc_2 rfl (by decide) (by decide) rfl (Nat.le_of_ble_eq_true rfl) ?_
    rintro v V9 h9; obtain ⟨r, rfl⟩ := h9.int
    refine Ew.iret hx hq dX5_perform_70 rfl ?_
    exact h9
  · refine Ew.tswIn hx dX5_perform_8 (by decide) (i := 1) (tgt := 71) rfl rfl ?_
    refine Ew.aload_n hx dX5_perform_71 rfl ?_
    refine Ew.aload_n hx dX5_perform_72 rfl ?_
    refine Ew.getR (531) hx dX5_perform_73 fg_RX5_18 rfl rfl ?_
    refine Ew.iconst hx dX5_perform_76 k_iconst_0 ?_
    refine Ew.iald (i := 0) hx dX5_perform_77 ag_18 rfl (rfl) (by decide) ?_
    refine Ew.aload_n hx dX5_perform_78 rfl ?_
    refine Ew.getR (531) hx dX5_perform_79 fg_RX5_18 rfl rfl ?_
    refine Ew.iconst hx dX5_perform_82 k_iconst_1 ?_
    refine Ew.iald (i := 1) hx dX5_perform_83 ag_18 rfl (rfl) (by decide) ?_
    refine Ew.callV2 (y' := mX7_changeRate) hx dX5_perform_84 ml_RX5_110 cf_X7_changeRate cv_X7_changeRate (ct_X7_changeRate G V hR _ _) rfl oc_2 rfl (by decide) (by decide) rfl (Nat.le_of_ble_eq_true rfl) ?_
    rintro v V9 h9; obtain ⟨r, rfl⟩ := h9.int
    refine Ew.iret hx hq dX5_perform_87 rfl ?_
    exact h9
  · refine Ew.tswIn hx dX5_perform_8 (by decide) (i := 2) (tgt := 88) rfl rfl ?_
    refine Ew.aload_n hx dX5_perform_88 rfl ?_
    refine Ew.aload_n hx dX5_perform_89 rfl ?_
    refine Ew.getR (531) hx dX5_perform_90 fg_RX5_18 rfl rfl ?_
    refine Ew.iconst hx dX5_perform_93 k_iconst_0 ?_
    refine Ew.iald (i := 0) hx dX5_perform_94 ag_18 rfl (rfl) (by decide) ?_
    refine Ew.aload_n hx dX5_perform_95 rfl ?_
    refine Ew.getR (531) hx dX5_perform_96 fg_RX5_18 rfl rfl ?_
    refine Ew.iconst hx dX5_perform_99 k_iconst_1 ?_
    refine Ew.iald (i := 1) hx dX5_perform_100 ag_18 rfl (rfl) (by decide) ?_
    refine Ew.aload_n hx dX5_perform_101 rfl ?_
    refine Ew.getR (531) hx dX5_perform_102 fg_RX5_18 rfl rfl ?_
    refine Ew.iconst hx dX5_perform_105 k_iconst_2 ?_
    refine Ew.iald (i := 2) hx dX5_perform_106 ag_18 rfl (rfl) (by decide) ?_
    refine Ew.aload_n hx dX5_perform_107 rfl ?_
    refine Ew.getR (531) hx dX5_perform_108 fg_RX5_18 rfl rfl ?_
    refine Ew.iconst hx dX5_perform_111 k_iconst_3 ?_
    refine Ew.iald (i := 3) hx dX5_perform_112 ag_18 rfl (rfl) (by decide) ?_
    refine Ew.callV2 (y' := mX7_sellPermit) hx dX5_perform_113 ml_RX5_114 cf_X7_sellPermit cv_X7_sellPermit (ct_X7_sellPermit G V hR hW _ _ _ _) rfl oc_2 rfl (by decide) (by decide) rfl (Nat.le_of_ble_eq_true rfl) ?_
    rintro v V9 h9; obtain ⟨r, rfl⟩ := h9.int
    refine Ew.iret hx hq dX5_perform_116 rfl ?_
    exact h9
  · refine Ew.tswIn hx dX5_perform_8 (by decide) (i := 3) (tgt := 117) rfl rfl ?_
    refine Ew.aload_n hx dX5_perform_117 rfl ?_
    refine Ew.aload_n hx dX5_perform_118 rfl ?_
    refine Ew.getR (531) hx dX5_perform_119 fg_RX5_18 rfl rfl ?_
    refine Ew.iconst hx dX5_perform_122 k_iconst_0 ?_
    refine Ew.iald (i := 0) hx dX5_perform_123 ag_18 rfl (rfl) (by decide) ?_
    refine Ew.aload_n hx dX5_perform_124 rfl ?_
    refine Ew.getR (531) hx dX5_perform_125 fg_RX5_18 rfl rfl ?_
    refine Ew.iconst hx dX5_perform_128 k_iconst_1 ?_
    refine Ew.iald (i := 1) hx dX5_perform_129 ag_18 rfl (rfl) (by decide) ?_
    refine Ew.callV2 (y' := mX7_movePermit) hx dX5_perform_130 ml_RX5_117 cf_X7_movePermit cv_X7_movePermit (ct_X7_movePermit G V hR hW _ _) rfl oc_2 rfl (by decide) (by decide) rfl (Nat.le_of_ble_eq_true rfl) ?_
    rintro v V9 h9; obtain ⟨r, rfl⟩ := h9.int
    refine Ew.iret hx hq dX5_perform_133 rfl ?_
    exact h9
  · refine Ew.tswIn hx dX5_perform_8 (by decide) (i := 4) (tgt := 134) rfl rfl ?_
    refine Ew.aload_n hx dX5_perform_134 rfl ?_
    refine Ew.aload_n hx dX5_perform_135 rfl ?_
    refine Ew.getR (531) hx dX5_perform_136 fg_RX5_18 rfl rfl ?_
    refine Ew.iconst hx dX5_perform_139 k_iconst_0 ?_
    refine Ew.iald (i := 0) hx dX5_perform_140 ag_18 rfl (rfl) (by decide) ?_
    refine Ew.callV2 (y' := mX7_cancelPermit) hx dX5_perform_141 ml_RX5_120 cf_X7_cancelPermit cv_X7_cancelPermit (ct_X7_cancelPermit G V hR hW _) rfl oc_2 rfl (by decide) (by decide) rfl (Nat.le_of_ble_eq_true rfl) ?_
    rintro v V9 h9; obtain ⟨r, rfl⟩ := h9.int
    refine Ew.iret hx hq dX5_perform_144 rfl ?_
    exact h9
  · refine Ew.tswIn hx dX5_perform_8 (by decide) (i := 5) (tgt := 145) rfl rfl ?_
    refine Ew.aload_n hx dX5_perform_145 rfl ?_
    refine Ew.aload_n hx dX5_perform_146 rfl ?_
    refine Ew.getR (531) hx dX5_perform_147 fg_RX5_18 rfl rfl ?_
    refine Ew.iconst hx dX5_perform_150 k_iconst_0 ?_
    refine Ew.iald (i := 0) hx dX5_perform_151 ag_18 rfl (rfl) (by decide) ?_
    refine Ew.callV2 (y' := mX7_refundPermit) hx dX5_perform_152 ml_RX5_124 cf_X7_refundPermit cv_X7_refundPermit (ct_X7_refundPermit G V hR hW _) rfl oc_2 rfl (by decide) (by decide) rfl (Nat.le_of_ble_eq_true rfl) ?_
    rintro v V9 h9; obtain ⟨r, rfl⟩ := h9.int
    refine Ew.iret hx hq dX5_perform_155 rfl ?_
    exact h9
  · refine Ew.tswOut hx dX5_perform_8 (by decide) (tgt := 156) rfl ?_
    refine Ew.aload_n hx dX5_perform_156 rfl ?_
    refine Ew.aload_n hx dX5_perform_157 rfl ?_
    refine Ew.getR (531) hx dX5_perform_158 fg_RX5_18 rfl rfl ?_
    refine Ew.iconst hx dX5_perform_161 k_iconst_0 ?_
    refine Ew.iald (i := 0) hx dX5_perform_162 ag_18 rfl (rfl) (by decide) ?_
    refine Ew.callV2 (y' := mX7_passDay) hx dX5_perform_163 ml_RX5_127 cf_X7_passDay cv_X7_passDay (ct_X7_passDay G V hR hW _) rfl oc_2 rfl (by decide) (by decide) rfl (Nat.le_of_ble_eq_true rfl) ?_
    rintro v V9 h9; obtain ⟨r, rfl⟩ := h9.int
    refine Ew.iret hx hq dX5_perform_166 rfl ?_
    exact h9
