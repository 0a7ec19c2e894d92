theorem pn_RX10_9 : PN RX10 9 8 1 false .int := ⟨RX10, TX10, 3, tyX10, rfl, fw_RX10, by decide, fl_RX10_9, rfl, rfl, tyX10_ok, nmX10, rfl, by decide +kernel⟩
theorem pn_RX10_15 : PN RX10 15 8 2 true (.array .int) := ⟨RX10, TX10, 3, tyX10, rfl, fw_RX10, by decide, fl_RX10_15, rfl, rfl, tyX10_ok, nmX10, rfl, by decide +kernel⟩
theorem pn_RX2_9 : PN RX2 9 0 0 true (.array .int) := ⟨RX2, TX2, 3, tyX2, rfl, fw_RX2, by decide, fl_RX2_9, rfl, rfl, tyX2_ok, nmX2, rfl, by decide +kernel⟩
theorem pn_RX2_15 : PN RX2 15 0 1 true (.array .int) := ⟨RX2, TX2, 3, tyX2, rfl, fw_RX2, by decide, fl_RX2_15, rfl, rfl, tyX2_ok, nmX2, rfl, by decide +kernel⟩
theorem pn_RX7_12 : PN RX7 12 5 0 true (.object "RampPermits$Water") := ⟨RX7, TX7, 6, tyX7, rfl, fw_RX7, by decide, fl_RX7_12, rfl, rfl, tyX7_ok, nmX7, rfl, by decide +kernel⟩
theorem pn_RX7_21 : PN RX7 21 5 1 true (.object "RampPermits$Fines") := ⟨RX7, TX7, 6, tyX7, rfl, fw_RX7, by decide, fl_RX7_21, rfl, rfl, tyX7_ok, nmX7, rfl, by decide +kernel⟩
theorem pn_RX7_27 : PN RX7 27 5 2 true (.array (.object "RampPermits$Ramp")) := ⟨RX7, TX7, 6, tyX7, rfl, fw_RX7, by decide, fl_RX7_27, rfl, rfl, tyX7_ok, nmX7, rfl, by decide +kernel⟩
theorem pn_RX7_33 : PN RX7 33 5 3 true (.array (.object "RampPermits$Permit")) := ⟨RX7, TX7, 6, tyX7, rfl, fw_RX7, by decide, fl_RX7_33, rfl, rfl, tyX7_ok, nmX7, rfl, by decide +kernel⟩
theorem pn_RX8_12 : PN RX8 12 6 0 true (.object "RampPermits$Season") := ⟨RX8, TX8, 3, tyX8, rfl, fw_RX8, by decide, fl_RX8_12, rfl, rfl, tyX8_ok, nmX8, rfl, by decide +kernel⟩
theorem pn_RX8_18 : PN RX8 18 6 1 true (.array (.object "RampPermits$Season")) := ⟨RX8, TX8, 3, tyX8, rfl, fw_RX8, by decide, fl_RX8_18, rfl, rfl, tyX8_ok, nmX8, rfl, by decide +kernel⟩
theorem pn_RX8_22 : PN RX8 22 6 2 true (.array .boolean) := ⟨RX8, TX8, 3, tyX8, rfl, fw_RX8, by decide, fl_RX8_22, rfl, rfl, tyX8_ok, nmX8, rfl, by decide +kernel⟩
theorem pn_RX3_11 : PN RX3 11 1 0 true (.array (.object "RampPermits$State")) := ⟨RX3, TX3, 3, tyX3, rfl, fw_RX3, by decide, fl_RX3_11, rfl, rfl, tyX3_ok, nmX3, rfl, by decide +kernel⟩
theorem pn_RX5_12 : PN RX5 12 3 0 true (.object "RampPermits$Text") := ⟨RX5, TX5, 6, tyX5, rfl, fw_RX5, by decide, fl_RX5_12, rfl, rfl, tyX5_ok, nmX5, rfl, by decide +kernel⟩
theorem pn_RX5_18 : PN RX5 18 3 1 true (.array .int) := ⟨RX5, TX5, 6, tyX5, rfl, fw_RX5, by decide, fl_RX5_18, rfl, rfl, tyX5_ok, nmX5, rfl, by decide +kernel⟩
theorem pn_RX5_22 : PN RX5 22 3 2 false .int := ⟨RX5, TX5, 6, tyX5, rfl, fw_RX5, by decide, fl_RX5_22, rfl, rfl, tyX5_ok, nmX5, rfl, by decide +kernel⟩
theorem pn_RX9_9 : PN RX9 9 7 0 true (.array .char) := ⟨RX9, TX9, 4, tyX9, rfl, fw_RX9, by decide, fl_RX9_9, rfl, rfl, tyX9_ok, nmX9, rfl, by decide +kernel⟩
theorem pn_RX11_10 : PN RX11 10 9 0 true (.object "RampPermits$State") := ⟨RX11, TX11, 3, tyX11, rfl, fw_RX11, by decide, fl_RX11_10, rfl, rfl, tyX11_ok, nmX11, rfl, by decide +kernel⟩
theorem pn_RX11_19 : PN RX11 19 9 1 true (.object "RampPermits$History") := ⟨RX11, TX11, 3, tyX11, rfl, fw_RX11, by decide, fl_RX11_19, rfl, rfl, tyX11_ok, nmX11, rfl, by decide +kernel⟩
theorem pn_RX11_26 : PN RX11 26 9 2 true (.object "RampPermits$Program") := ⟨RX11, TX11, 3, tyX11, rfl, fw_RX11, by decide, fl_RX11_26, rfl, rfl, tyX11_ok, nmX11, rfl, by decide +kernel⟩
theorem df_RX2 : ∀ j, j < 3 → defaultValue (tyX2 j) = vp_V ([.null, .null, .int 0]) j := fun j hj => by
  rcases (show j = 0 ∨ j = 1 ∨ j = 2 by omega) with rfl | rfl | rfl <;> rfl
theorem df_RX3 : ∀ j, j < 3 → defaultValue (tyX3 j) = vp_V ([.null, .int 0, .int 0]) j := fun j hj => by
  rcases (show j = 0 ∨ j = 1 ∨ j = 2 by omega) with rfl | rfl | rfl <;> rfl
theorem df_RX4 : ∀ j, j < 12 → defaultValue (tyX4 j) = vp_V ([.int 0, .int 0, .int 0, .int 0, .int 0, .int 0, .int 0, .int 0, .int 0, .int 0, .int 0, .int 0]) j := fun j hj => by
  rcases (show j = 0 ∨ j = 1 ∨ j = 2 ∨ j = 3 ∨ j = 4 ∨ j = 5 ∨ j = 6 ∨ j = 7 ∨ j = 8 ∨ j = 9 ∨ j = 10 ∨ j = 11 by omega) with rfl | rfl | rfl | rfl | rfl | rfl | rfl | rfl | rfl | rfl | rfl | rfl <;> rfl
theorem df_RX5 : ∀ j, j < 6 → defaultValue (tyX5 j) = vp_V ([.null, .null, .int 0, .int 0, .int 0, .int 0]) j := fun j hj => by
  rcases (show j = 0 ∨ j = 1 ∨ j = 2 ∨ j = 3 ∨ j = 4 ∨ j = 5 by omega) with rfl | rfl | rfl | rfl | rfl | rfl <;> rfl
theorem df_RX6 : ∀ j, j < 3 → defaultValue (tyX6 j) = vp_V ([.int 0, .int 0, .int 0]) j := fun j hj => by
  rcases (show j = 0 ∨ j = 1 ∨ j = 2 by omega) with rfl | rfl | rfl <;> rfl
theorem df_RX7 : ∀ j, j < 6 → defaultValue (tyX7 j) = vp_V ([.null, .null, .null, .null, .int 0, .int 0]) j := fun j hj => by
  rcases (show j = 0 ∨ j = 1 ∨ j = 2 ∨ j = 3 ∨ j = 4 ∨ j = 5 by omega) with rfl | rfl | rfl | rfl | rfl | rfl <;> rfl
theorem df_RX8 : ∀ j, j < 3 → defaultValue (tyX8 j) = vp_V ([.null, .null, .null]) j := fun j hj => by
  rcases (show j = 0 ∨ j = 1 ∨ j = 2 by omega) with rfl | rfl | rfl <;> rfl
theorem df_RX9 : ∀ j, j < 4 → defaultValue (tyX9 j) = vp_V ([.null, .int 0, .int 0, .int 0]) j := fun j hj => by
  rcases (show j = 0 ∨ j = 1 ∨ j = 2 ∨ j = 3 by omega) with rfl | rfl | rfl | rfl <;> rfl
theorem df_RX10 : ∀ j, j < 3 → defaultValue (tyX10 j) = vp_V ([.int 0, .int 0, .null]) j := fun j hj => by
  rcases (show j = 0 ∨ j = 1 ∨ j = 2 by omega) with rfl | rfl | rfl <;> rfl
theorem df_RX11 : ∀ j, j < 3 → defaultValue (tyX11 j) = vp_V ([.null, .null, .null]) j := fun j hj => by
  rcases (show j = 0 ∨ j = 1 ∨ j = 2 by omega) with rfl | rfl | rfl <;> rfl
theorem V0_0 {k c : Nat} (hk : kd k = c) (h3 : c ≠ 3) (h6 : c ≠ 6) (h20 : c ≠ 20) : V0 k = fun _ => 0 := by
  funext i
  unfold V0
  rw [hk, if_neg h3, if_neg (fun q => h6 q.1)]
theorem V0_3 {k : Nat} (hk : kd k = 3) (i : Nat) : V0 k i = if i = 1 then 2000 else 0 := by
  unfold V0
  rw [if_pos hk]
theorem V0_6 {k : Nat} (hk : kd k = 6) (i : Nat) : V0 k i = if kd (k + 1) = 6 then am0 i else 0 := by
  unfold V0
  rw [hk, if_neg (by decide)]
  by_cases h : kd (k + 1) = 6
  · rw [if_pos h, if_pos ⟨rfl, h⟩]
  · rw [if_neg h, if_neg (fun q => h q.2)]
theorem vup_s (g : Nat → Nat) (i : Nat) : va_up (fun x => if x < i then some (g x) else none) i (some (g i)) = fun x => if x < i + 1 then some (g x) else none := by
  funext x
  unfold va_up
  by_cases h : x = i
  · subst h
    rw [if_pos rfl, if_pos (by omega)]
  · rw [if_neg h]
    show (if x < i then some (g x) else none) = _
    by_cases h2 : x < i
    · rw [if_pos h2, if_pos (by omega)]
    · rw [if_neg h2, if_neg (by omega)]
theorem rfn {cA : ClassId} {n : Nat} {f g : Nat → Option Nat} (h : f = g) : (.inl (cA, (n, .inr (.inr (.inr (.inr f))))) : va_E) = .inl (cA, (n, .inr (.inr (.inr (.inr g))))) := by rw [h]
theorem inl_f {cA : ClassId} {n : Nat} {f g : Nat → Int32} (h : f = g) : (.inl (cA, (n, .inl f)) : va_E) = .inl (cA, (n, .inl g)) := by rw [h]
theorem arI (G : GT) (U : State) (h : va_RA U (gA G 0) .int) : U.vm.findClass ("[" ++ (FieldType.int).toString) = some (gA G 0) := h
theorem arC (G : GT) (U : State) (h : va_RA U (gA G 1) .char) : U.vm.findClass ("[" ++ (FieldType.char).toString) = some (gA G 1) := h
theorem arZ (G : GT) (U : State) (h : va_RA U (gA G 2) .boolean) : U.vm.findClass ("[" ++ (FieldType.boolean).toString) = some (gA G 2) := h
set_option maxHeartbeats 4000000 in
set_option maxRecDepth 100000 in
theorem kt_X6 (G : GT) {k : Nat} (h9 : kd k = 9) : Kt G mX6_init 1 0 0 k 1 (.inr (4, [.int 0, .int 0, .int 0])) := by
  refine Kt.of cf_X6_init rfl (by decide) (l0 := [some (adr G k)]) rfl (fun E C hE hx hA hn hq hs0 => ?_)
  obtain ⟨hs, hcK, hcN⟩ := hs0
  refine Fw.aload_n hx dX6_init_0 rfl ?_
  refine Fw.objInit hx dX6_init_1 ml_RX6_3 (by decide) (by decide) ?_
  refine Fw.vret hx hA hq dX6_init_4 rfl (by omega) (by omega) (by omega) (fun q hq2 => ?_)
  by_cases h0 : q < k
  · exact rfl.trans (fin_lo _ _ h0).symm
  · rw [fin_hi _ _ (by omega)]
    rcases (show q = k by omega) with e0
    · rw [e0]
      exact (hE).trans (by rw [ent_o h9 rfl, V0_0 h9 (by decide) (by decide) (by decide)]; rfl)
set_option maxHeartbeats 4000000 in
set_option maxRecDepth 100000 in
theorem kt_X4 (G : GT) {k : Nat} (h10 : kd k = 10) : Kt G mX4_init 1 0 0 k 1 (.inr (2, [.int 0, .int 0, .int 0, .int 0, .int 0, .int 0, .int 0, .int 0, .int 0, .int 0, .int 0, .int 0])) := by
  refine Kt.of cf_X4_init rfl (by decide) (l0 := [some (adr G k)]) rfl (fun E C hE hx hA hn hq hs0 => ?_)
  obtain ⟨hs, hcK, hcN⟩ := hs0
  refine Fw.aload_n hx dX4_init_0 rfl ?_
  refine Fw.objInit hx dX4_init_1 ml_RX4_3 (by decide) (by decide) ?_
  refine Fw.vret hx hA hq dX4_init_4 rfl (by omega) (by omega) (by omega) (fun q hq2 => ?_)
  by_cases h0 : q < k
  · exact rfl.trans (fin_lo _ _ h0).symm
  · rw [fin_hi _ _ (by omega)]
    rcases (show q = k by omega) with e0
    · rw [e0]
      exact (hE).trans (by rw [ent_o h10 rfl, V0_0 h10 (by decide) (by decide) (by decide)]; rfl)
set_option maxHeartbeats 4000000 in
set_option maxRecDepth 100000 in
theorem kt_X10 (G : GT) {k : Nat} (h3 : kd k = 3) (h4 : kd (k + 1) = 4) : Kt G mX10_init 1 1 26 k 2 (.inr (8, [.int 0, .int 0, .null])) := by
  refine Kt.of cf_X10_init rfl (by decide) (l0 := [some (adr G k)]) rfl (fun E C hE hx hA hn hq hs0 => ?_)
  obtain ⟨hs, hcK, hcN⟩ := hs0
  refine Fw.aload_n hx dX10_init_0 rfl ?_
  refine Fw.objInit hx dX10_init_1 ml_RX10_3 (by decide) (by decide) ?_
  refine Fw.aload_n hx dX10_init_4 rfl ?_
  refine Fw.sipush hx dX10_init_5 k_sipush_2000 ?_
  refine Fw.put hx (by omega) hn dX10_init_8 pn_RX10_9 (by omega) (hE) ⟨rfl, rfl⟩ (Nat.le_of_ble_eq_true rfl) ?_
  refine Fw.aload_n hx dX10_init_11 rfl ?_
  refine Fw.bipush hx dX10_init_12 k_bipush_26 ?_
  refine Fw.newa hx dX10_init_14 ka_int (t := 0) rfl (n := 26) rfl (by decide) (by decide) (fun _ => rfl) (arI G) (by omega) (by omega) ?_
  refine Fw.put hx (by omega) hn dX10_init_16 pn_RX10_15 (by omega) ((upE_n _ _ (by omega)).trans (upE_s _ _ _)) ⟨rfl, rfl⟩ (Nat.le_of_ble_eq_true rfl) ?_
  refine Fw.vret hx hA hq dX10_init_19 rfl (by omega) (by omega) (by omega) (fun q hq2 => ?_)
  by_cases h0 : q < k
  · exact ((upE_n _ _ (by omega)).trans ((upE_n _ _ (by omega)).trans (upE_n _ _ (by omega)))).trans (fin_lo _ _ h0).symm
  · rw [fin_hi _ _ (by omega)]
    rcases (show q = k ∨ q = k + 1 by omega) with e0 | e0
    · rw [e0]
      exact (upE_s _ _ _).trans (by rw [ent_o h3 rfl, show V0 k = fun i => if i = 1 then 2000 else 0 from funext (V0_3 h3)]; rfl)
    · rw [e0]
      exact ((upE_n _ _ (by omega)).trans (upE_s _ _ _)).trans (by rw [ent_a h4 rfl rfl, V0_0 h4 (by decide) (by decide) (by decide)])
theorem am_eq {k : Nat} (h : kd k = 6) (h2 : kd (k + 1) = 6) : upd (upd (upd (fun _ => (0 : Int32)) 0 40) 1 60) 2 20 = V0 k := by
  funext i
  rw [V0_6 h, if_pos h2]
  unfold am0
  by_cases q2 : i = 2
  · subst q2; rfl
  · rw [upd_n _ _ q2]
    by_cases q1 : i = 1
    · subst q1; rfl
    · rw [upd_n _ _ q1]
      by_cases q0 : i = 0
      · subst q0; rfl
      · rw [upd_n _ _ q0, if_neg q0, if_neg q1, if_neg q2]
theorem am_z {k : Nat} (h : kd k = 6) (h2 : ¬ kd (k + 1) = 6) : V0 k = fun _ => 0 := by
  funext i
  rw [V0_6 h, if_neg h2]
set_option maxHeartbeats 4000000 in
set_option maxRecDepth 100000 in
theorem kt_X2 (G : GT) {k : Nat} (h5 : kd k = 5) (h6 : kd (k + 1) = 6) (h6b : kd (k + 2) = 6) (h7 : kd (k + 3) = 7) : Kt G mX2_init 1 2 6 k 3 (.inr (0, [.null, .null, .int 0])) := by
  refine Kt.of cf_X2_init rfl (by decide) (l0 := [some (adr G k)]) rfl (fun E C hE hx hA hn hq hs0 => ?_)
  obtain ⟨hs, hcK, hcN⟩ := hs0
  refine Fw.aload_n hx dX2_init_0 rfl ?_
  refine Fw.objInit hx dX2_init_1 ml_RX2_3 (by decide) (by decide) ?_
  refine Fw.aload_n hx dX2_init_4 rfl ?_
  refine Fw.iconst hx dX2_init_5 k_iconst_3 ?_
  refine Fw.newa hx dX2_init_6 ka_int (t := 0) rfl (n := 3) rfl (by decide) (by decide) (fun _ => rfl) (arI G) (by omega) (by omega) ?_
  refine Fw.dup hx dX2_init_8 rfl ?_
  refine Fw.iconst hx dX2_init_9 k_iconst_0 ?_
  refine Fw.bipush hx dX2_init_10 k_bipush_40 ?_
  refine Fw.iast hx (by omega) dX2_init_12 (t := 0) rfl (by omega) (upE_s _ _ _) (i := 0) rfl (by decide) (by decide) ?_
  refine Fw.dup hx dX2_init_13 rfl ?_
  refine Fw.iconst hx dX2_init_14 k_iconst_1 ?_
  refine Fw.bipush hx dX2_init_15 k_bipush_60 ?_
  refine Fw.iast hx (by omega) dX2_init_17 (t := 0) rfl (by omega) (upE_s _ _ _) (i := 1) rfl (by decide) (by decide) ?_
  refine Fw.dup hx dX2_init_18 rfl ?_
  refine Fw.iconst hx dX2_init_19 k_iconst_2 ?_
  refine Fw.bipush hx dX2_init_20 k_bipush_20 ?_
  refine Fw.iast hx (by omega) dX2_init_22 (t := 0) rfl (by omega) (upE_s _ _ _) (i := 2) rfl (by decide) (by decide) ?_
  refine Fw.put hx (by omega) hn dX2_init_23 pn_RX2_9 (by omega) ((upE_n _ _ (by omega)).trans ((upE_n _ _ (by omega)).trans ((upE_n _ _ (by omega)).trans ((upE_n _ _ (by omega)).trans (hE))))) ⟨rfl, rfl⟩ (Nat.le_of_ble_eq_true rfl) ?_
  refine Fw.aload_n hx dX2_init_26 rfl ?_
  refine Fw.iconst hx dX2_init_27 k_iconst_3 ?_
  refine Fw.newa hx dX2_init_28 ka_int (t := 0) rfl (n := 3) rfl (by decide) (by decide) (fun _ => rfl) (arI G) (by omega) (by omega) ?_
  refine Fw.put hx (by omega) hn dX2_init_30 pn_RX2_15 (by omega) ((upE_n _ _ (by omega)).trans (upE_s _ _ _)) ⟨rfl, rfl⟩ (Nat.le_of_ble_eq_true rfl) ?_
  refine Fw.vret hx hA hq dX2_init_33 rfl (by omega) (by omega) (by omega) (fun q hq2 => ?_)
  by_cases h0 : q < k
  · exact ((upE_n _ _ (by omega)).trans ((upE_n _ _ (by omega)).trans ((upE_n _ _ (by omega)).trans ((upE_n _ _ (by omega)).trans ((upE_n _ _ (by omega)).trans ((upE_n _ _ (by omega)).trans (upE_n _ _ (by omega)))))))).trans (fin_lo _ _ h0).symm
  · rw [fin_hi _ _ (by omega)]
    rcases (show q = k ∨ q = k + 1 ∨ q = k + 2 by omega) with e0 | e0 | e0
    · rw [e0]
      exact (upE_s _ _ _).trans (by rw [ent_o h5 rfl, V0_0 h5 (by decide) (by decide) (by decide)]; rfl)
    · rw [e0]
      exact ((upE_n _ _ (by omega)).trans ((upE_n _ _ (by omega)).trans ((upE_n _ _ (by omega)).trans (upE_s _ _ _)))).trans (by rw [ent_a h6 rfl rfl]; exact inl_f (am_eq h6 h6b))
    · rw [e0]
      exact ((upE_n _ _ (by omega)).trans (upE_s _ _ _)).trans (by rw [ent_a h6b rfl rfl, am_z h6b (by rw [h7]; decide)])
set_option maxHeartbeats 4000000 in
set_option maxRecDepth 100000 in
theorem kt_X9 (G : GT) {k : Nat} (h16 : kd k = 16) (h17 : kd (k + 1) = 17) : Kt G mX9_init 1 1 140 k 2 (.inr (7, [.null, .int 0, .int 0, .int 0])) := by
  refine Kt.of cf_X9_init rfl (by decide) (l0 := [some (adr G k)]) rfl (fun E C hE hx hA hn hq hs0 => ?_)
  obtain ⟨hs, hcK, hcN⟩ := hs0
  refine Fw.aload_n hx dX9_init_0 rfl ?_
  refine Fw.objInit hx dX9_init_1 ml_RX9_3 (by decide) (by decide) ?_
  refine Fw.aload_n hx dX9_init_4 rfl ?_
  refine Fw.sipush hx dX9_init_5 k_sipush_140 ?_
  refine Fw.newa hx dX9_init_8 ka_char (t := 1) rfl (n := 140) rfl (by decide) (by decide) (fun _ => rfl) (arC G) (by omega) (by omega) ?_
  refine Fw.put hx (by omega) hn dX9_init_10 pn_RX9_9 (by omega) ((upE_n _ _ (by omega)).trans (hE)) ⟨rfl, rfl⟩ (Nat.le_of_ble_eq_true rfl) ?_
  refine Fw.vret hx hA hq dX9_init_13 rfl (by omega) (by omega) (by omega) (fun q hq2 => ?_)
  by_cases h0 : q < k
  · exact ((upE_n _ _ (by omega)).trans (upE_n _ _ (by omega))).trans (fin_lo _ _ h0).symm
  · rw [fin_hi _ _ (by omega)]
    rcases (show q = k ∨ q = k + 1 by omega) with e0 | e0
    · rw [e0]
      exact (upE_s _ _ _).trans (by rw [ent_o h16 rfl, V0_0 h16 (by decide) (by decide) (by decide)]; rfl)
    · rw [e0]
      exact ((upE_n _ _ (by omega)).trans (upE_s _ _ _)).trans (by rw [ent_a h17 rfl rfl, V0_0 h17 (by decide) (by decide) (by decide)])
set_option maxHeartbeats 4000000 in
set_option maxRecDepth 100000 in
theorem kt_X5 (G : GT) {k : Nat} (h15 : kd k = 15) (h16 : kd (k + 1) = 16) (h17 : kd (k + 2) = 17) (h18 : kd (k + 3) = 18) : Kt G mX5_init 2 3 148 k 4 (.inr (3, [.null, .null, .int 0, .int 0, .int 0, .int 0])) := by
  refine Kt.of cf_X5_init rfl (by decide) (l0 := [some (adr G k)]) rfl (fun E C hE hx hA hn hq hs0 => ?_)
  obtain ⟨hs, hcK, hcN⟩ := hs0
  refine Fw.aload_n hx dX5_init_0 rfl ?_
  refine Fw.objInit hx dX5_init_1 ml_RX5_3 (by decide) (by decide) ?_
  refine Fw.aload_n hx dX5_init_4 rfl ?_
  refine Fw.new hx dX5_init_5 kl_RX5_9 kj_RX9 kz_RX9 (ci := 7) rfl fw_RX9 tyX9 tyX9_ok df_RX9 (by omega) (by omega) ?_
  refine Fw.dup hx dX5_init_8 rfl ?_
  refine Fw.callIN (y' := mX9_init) hx hA dX5_init_9 (host := RX11) (List.mem_of_getElem? (i := 5) rfl) cf_X9_init ci_X9_init rfl rfl (kt_X9 G h16 h17) (upE_s _ _ _) (by decide) (by decide) (by omega) (by omega) (Nat.le_of_ble_eq_true rfl) ?_
  refine Fw.put hx (by omega) hn dX5_init_12 pn_RX5_12 (by omega) ((fin_lo _ _ (by omega)).trans ((upE_n _ _ (by omega)).trans (hE))) ⟨rfl, rfl⟩ (Nat.le_of_ble_eq_true rfl) ?_
  refine Fw.aload_n hx dX5_init_15 rfl ?_
  refine Fw.iconst hx dX5_init_16 k_iconst_4 ?_
  refine Fw.newa hx dX5_init_17 ka_int (t := 0) rfl (n := 4) rfl (by decide) (by decide) (fun _ => rfl) (arI G) (by omega) (by omega) ?_
  refine Fw.put hx (by omega) hn dX5_init_19 pn_RX5_18 (by omega) ((upE_n _ _ (by omega)).trans (upE_s _ _ _)) ⟨rfl, rfl⟩ (Nat.le_of_ble_eq_true rfl) ?_
  refine Fw.aload_n hx dX5_init_22 rfl ?_
  refine Fw.iconst hx dX5_init_23 k_iconst_0 ?_
  refine Fw.put hx (by omega) hn dX5_init_24 pn_RX5_22 (by omega) (upE_s _ _ _) ⟨rfl, rfl⟩ (Nat.le_of_ble_eq_true rfl) ?_
  refine Fw.vret hx hA hq dX5_init_27 rfl (by omega) (by omega) (by omega) (fun q hq2 => ?_)
  by_cases h0 : q < k
  · exact ((upE_n _ _ (by omega)).trans ((upE_n _ _ (by omega)).trans ((upE_n _ _ (by omega)).trans ((upE_n _ _ (by omega)).trans ((fin_lo _ _ (by omega)).trans (upE_n _ _ (by omega))))))).trans (fin_lo _ _ h0).symm
  · rw [fin_hi _ _ (by omega)]
    rcases (show q = k ∨ (k + 1 ≤ q ∧ q < k + 3) ∨ q = k + 3 by omega) with e0 | hq3 | e0
    · rw [e0]
      exact (upE_s _ _ _).trans (by rw [ent_o h15 rfl, V0_0 h15 (by decide) (by decide) (by decide)]; rfl)
    · exact ((upE_n _ _ (by omega)).trans ((upE_n _ _ (by omega)).trans ((upE_n _ _ (by omega)).trans ((upE_n _ _ (by omega)).trans (fin_hi _ _ (by omega))))))
    · rw [e0]
      exact ((upE_n _ _ (by omega)).trans ((upE_n _ _ (by omega)).trans (upE_s _ _ _))).trans (by rw [ent_a h18 rfl rfl, V0_0 h18 (by decide) (by decide) (by decide)])
