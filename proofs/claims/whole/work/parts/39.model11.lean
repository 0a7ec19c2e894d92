theorem buy_lt {s : Sv} {B : Int} (hW : WF s B) {x a b d : Int32} (h : cdBuy s x a b d = 0) : npN s < 12 := by
  have h1 := (cif_0 h).2
  have h2 : cif (s 3 = 12) (-100003) 0 = (0 : Int32) := by
    by_cases q : s 0 ≤ a ∧ fitP s (nt x) (nt a) (nt b) d
    · rw [cif_t q] at h1; exact h1
    · rw [cif_f q] at h1; exact absurd h1 (by decide)
  have h3 : ¬ s 3 = 12 := fun q => by rw [cif_t q] at h2; exact absurd h2 (by decide)
  have h4 := hW.np
  have h5 : npN s ≠ 12 := fun q => h3 (by rw [h4.1, q]; rfl)
  omega
set_option maxHeartbeats 4000000 in
set_option maxRecDepth 100000 in
theorem ct_X12_buy (G : GT) (V : Mm) {s : Sv} {B : Int} {z : Nat} {h : Nat → Sv} (hM : MR V s) (hW : WF s B) (hS : MS V z h) (x a b d : Int32) : Ct G mX12_buy 5 [adr G 532, .int x, .int a, .int b, .int d] (V) (MAct V s z h (cdBuy s x a b d) (s 3) (nxBuy s x a b d)) := by
  refine Ct.of cf_X12_buy (List.forall_mem_cons.mpr ⟨rfl, List.forall_mem_cons.mpr ⟨rfl, List.forall_mem_cons.mpr ⟨rfl, List.forall_mem_cons.mpr ⟨rfl, List.forall_mem_cons.mpr ⟨rfl, fun _ h => absurd h List.not_mem_nil⟩⟩⟩⟩⟩) (Nat.le_of_ble_eq_true rfl) (l0 := [some (adr G 532), some (.int x), some (.int a), some (.int b), some (.int d), none]) rfl (fun C hx hq => ?_)
  refine Ew.aload_n hx dX12_buy_0 rfl ?_
  refine Ew.iconst hx dX12_buy_1 k_iconst_0 ?_
  refine Ew.putI hx dX12_buy_2 pg_RX12_31 rfl ?_
  refine Ew.aload_n hx dX12_buy_5 rfl ?_
  refine Ew.iload_n hx dX12_buy_6 rfl ?_
  refine Ew.iload_n hx dX12_buy_7 rfl ?_
  refine Ew.iload_n hx dX12_buy_8 rfl ?_
  refine Ew.iload hx dX12_buy_9 rfl ?_
  refine Ew.callV2 (y' := mX12_buyCode) hx dX12_buy_11 ml_RX12_105 cf_X12_buyCode cv_X12_buyCode (ct_X12_buyCode G _ hM.m0 hW x a b d) rfl oc_19 rfl (by decide) (by decide) rfl (Nat.le_of_ble_eq_true rfl) ?_
  rintro _ V1 ⟨rfl, hF1⟩
  have hF0 : V1 533 = V 533 := by rw [hF1 533 (by decide), mup_ne _ _ _ (by decide)]
  have hF4 : V1 532 4 = V 532 4 := by rw [hF1 532 (by decide), mup_oth _ _ _ _ (Or.inr (by decide))]
  have hF5 : V1 535 = V 535 := by rw [hF1 535 (by decide), mup_ne _ _ _ (by decide)]
  refine Ew.istore hx dX12_buy_14 (by decide) rfl ?_
  refine Ew.iload hx dX12_buy_16 rfl ?_
  refine Ew.if_ge hx (tgt := 24) dX12_buy_18 rfl (fun h18 => ?_) (fun h18 => ?_)
  · have ok := cdE_ok (cdBuy_e s x a b d) h18
    obtain ⟨r, hxr, hr⟩ := hW.rix (cif_0 ok).1.1
    have hp := buy_lt hW ok
    rw [hxr] at ok
    refine Ew.aload_n hx dX12_buy_24 rfl ?_
    refine Ew.callV2 (y' := mX12_act) hx dX12_buy_25 ml_RX12_70 cf_X12_act cv_X12_act (ct_X12_act G _ (hM.fr hF0) (hS.fr hF4 hF5)) rfl oc_19 rfl (by decide) (by decide) rfl (Nat.le_of_ble_eq_true rfl) ?_
    rintro v V2 hA; obtain rfl := hA.1; have hM2 := hA.mr (hM.fr hF0)
    refine Ew.aload_n hx dX12_buy_28 rfl ?_
    refine Ew.iload_n hx dX12_buy_29 rfl ?_
    refine Ew.iload_n hx dX12_buy_30 rfl ?_
    refine Ew.iload_n hx dX12_buy_31 rfl ?_
    refine Ew.iload hx dX12_buy_32 rfl ?_
    rw [hxr] at hq
    rw [hxr]
    refine Ew.callV2 (y' := mX12_buyNow) hx dX12_buy_34 ml_RX12_109 cf_X12_buyNow cv_X12_buyNow (ct_X12_buyNow G V2 hM2 hW hr hp a b d) rfl oc_19 rfl (by decide) (by decide) rfl (Nat.le_of_ble_eq_true rfl) ?_
    rintro _ V3 ⟨rfl, hM3, hF3⟩
    refine Ew.iret hx hq dX12_buy_37 rfl ?_
    exact mact_ok hF1 hA ok hM3 (fun k h1 _ => hF3 k h1)
  · refine Ew.iload hx dX12_buy_21 rfl ?_
    refine Ew.iret hx hq dX12_buy_23 rfl ?_
    exact mact_no hF1 hM hS (by rw [il, tl_0]; rw [ie, tl_0] at h18; omega)
