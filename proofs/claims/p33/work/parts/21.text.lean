def pvx (n : Nat) : Nat := (n + 5) % 6
theorem mup_mup (V : Mm) (k i : Nat) (x y : Int32) : mup (mup V k i x) k i y = mup V k i y := by
  funext a
  by_cases ha : a = k
  · subst ha
    rw [mup_same, mup_same, mup_same]
    funext j
    by_cases hj : j = i
    · subst hj; rw [upd_s, upd_s]
    · rw [upd_n _ _ hj, upd_n _ _ hj, upd_n _ _ hj]
  · rw [mup_ne _ _ _ ha, mup_ne _ _ _ ha, mup_ne _ _ _ ha]
theorem pvH_x {n : Nat} (h : n < 6) : pvH n = (n + 5) % 6 := by
  unfold pvH
  split <;> omega
set_option maxHeartbeats 4000000 in
set_option maxRecDepth 100000 in
theorem ct_X11_undo (G : GT) (V : Mm) {s : Sv} {n z : Nat} {h : Nat → Sv} {B : Int} (hC : CR V s n z h B) : Ct G mX11_undo 4 [adr G 0] (V) (fun v V9 => Fr 1 528 V V9 ∧ ((z = 0 ∧ v = some (.int (-100002)) ∧ V9 = V) ∨ (0 < z ∧ v = some (.int (nI (z - 1))) ∧ CR V9 (h 0) (pvH n) (z - 1) (fun j => h (j + 1)) B))) := by
  refine Ct.of cf_X11_undo (List.forall_mem_cons.mpr ⟨rfl, fun _ h => absurd h List.not_mem_nil⟩) (Nat.le_of_ble_eq_true rfl) (l0 := [some (adr G 0)]) rfl (fun C hx hq => ?_)
  have hn := hC.2.1
  have hz5 := hC.2.2.2.1
  refine Ew.aload_n hx dX11_undo_0 rfl ?_
  refine Ew.getR (76) hx dX11_undo_1 fg_RX11_19 rfl rfl ?_
  refine Ew.getI hx dX11_undo_4 fg_RX11_92 rfl ?_
  rw [hC.2.2.1]
  refine Ew.if_ne hx (tgt := 13) dX11_undo_7 rfl (fun h7 => ?_) (fun h7 => ?_)
  · have h0 : 0 < z := by rw [iq, tn (by omega), tl_0] at h7; omega
    refine Ew.aload_n hx dX11_undo_13 rfl ?_
    refine Ew.getR (76) hx dX11_undo_14 fg_RX11_19 rfl rfl ?_
    refine Ew.callV2 (y' := mX3_dropLatest) hx dX11_undo_17 ml_RX11_97 cf_X3_dropLatest cv_X3_dropLatest (ct_X3_dropLatest G V (n := n) (z := z - 1) hC.1 hn (by rw [hC.2.2.1, show z - 1 + 1 = z by omega]) (by omega)) rfl oc_13 rfl (by decide) (by decide) rfl (Nat.le_of_ble_eq_true rfl) ?_
    rintro _ V9 ⟨rfl, h9⟩; subst V9
    refine Ew.aload_n hx dX11_undo_20 rfl ?_
    refine Ew.getR (1) hx dX11_undo_21 fg_RX11_10 rfl rfl ?_
    refine Ew.aload_n hx dX11_undo_24 rfl ?_
    refine Ew.getR (76) hx dX11_undo_25 fg_RX11_19 rfl rfl ?_
    refine Ew.callV2 (y' := mX3_prepared) hx dX11_undo_28 ml_RX11_100 cf_X3_prepared cv_X3_prepared (ct_X3_prepared G _ (n := pvH n) (by rw [mup_oth _ _ _ _ (Or.inr (by decide)), mup_self]) (by unfold pvH; split <;> omega)) rfl oc_13 rfl (by decide) (by decide) rfl (Nat.le_of_ble_eq_true rfl) ?_
    rintro _ V9 ⟨rfl, h9⟩; subst V9
    obtain ⟨hS0, hW0⟩ := hC.2.2.2.2.2.2 0 h0
    have ep : pvH n = (n + 5 - 0) % 6 := pvH_x hn
    refine Ew.callV2 (y' := mX8_copyFrom) hx dX11_undo_31 ml_RX11_104 cf_X8_copyFrom cv_X8_copyFrom (ct_X8_copyFrom G _ (U := 78 + 75 * pvH n) tn_1 (tn_r (by omega)) (by omega) (show StR _ _ (h 0) from ep ▸ (hS0.frame (fun k h1 h2 => by rw [mup_ne _ _ _ (by omega), mup_ne _ _ _ (by omega)]))) hW0) rfl oc_1 rfl (by decide) (by decide) rfl (Nat.le_of_ble_eq_true rfl) ?_
    rintro _ V9 ⟨rfl, hc, hcF⟩
    refine Ew.aload_n hx dX11_undo_34 rfl ?_
    refine Ew.getR (76) hx dX11_undo_35 fg_RX11_19 rfl rfl ?_
    refine Ew.getI hx dX11_undo_38 fg_RX11_92 rfl ?_
    rw [hcF _ (by omega), mup_self]
    refine Ew.iret hx hq dX11_undo_41 rfl ?_
    refine ⟨fun k hk => by rw [hcF k (by omega), mup_ne _ _ _ (by omega), mup_ne _ _ _ (by omega)], Or.inr ⟨h0, rfl, ?_⟩⟩
    refine ⟨by rw [hcF _ (by omega), mup_oth _ _ _ _ (Or.inr (by decide)), mup_self], by omega, by rw [hcF _ (by omega), mup_self], by omega, hc, hW0, fun j hj => ?_⟩
    have q := hC.2.2.2.2.2.2 (j + 1) (by omega)
    rw [show (pvH n + 5 - j) % 6 = (n + 5 - (j + 1)) % 6 by omega]
    exact ⟨q.1.frame (fun k h1 h2 => by rw [hcF k (by omega), mup_ne _ _ _ (by omega), mup_ne _ _ _ (by omega)]), q.2⟩
  · have h0 : z = 0 := by rw [iq, tn (by omega), tl_0] at h7; omega
    refine Ew.ldc hx dX11_undo_10 kn_RX11_96 ?_
    refine Ew.iret hx hq dX11_undo_12 rfl ?_
    exact ⟨Fr.rfl', Or.inl ⟨h0, rfl, rfl⟩⟩
