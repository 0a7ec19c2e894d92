theorem fcS_sp {s : Sv} {r : Nat} {dr : Int32} : ∀ n i : Nat, fcS s r dr n i = -100009 ∨ ∃ k, i ≤ k ∧ k < i + n ∧ ¬ opn s r dr (FC s k) ∧ fcS s r dr n i = nI (tN s + k)
  | 0, i => Or.inl rfl
  | n + 1, i => by
    by_cases h : opn s r dr (FC s i)
    · rw [show fcS s r dr (n + 1) i = fcS s r dr n (i + 1) from cif_t h]
      rcases fcS_sp (s := s) (r := r) (dr := dr) n (i + 1) with q | ⟨k, k1, k2, k3, k4⟩
      · exact Or.inl q
      · exact Or.inr ⟨k, by omega, by omega, k3, k4⟩
    · exact Or.inr ⟨i, Nat.le_refl i, by omega, h, cif_f h⟩
theorem fo_k {s : Sv} {B : Int} (hW : WF s B) {D : Nat} (h1 : tN s ≤ D) (h2 : D ≤ 181) : anForecast s (nI D) = FC s (D - tN s) := by
  have ht := hW.t
  have a1 : 0 ≤ nI D ∧ nI D ≤ 181 := by
    rw [ie, ie, tn (by omega), tl_0, tl_181]
    omega
  have a2 : s 0 ≤ nI D := by
    rw [ht.1]
    exact nI_le h1 (by omega)
  refine (cif_t a1).trans ((cif_t a2).trans ?_)
  rw [nt_nI (by omega)]
theorem cl_k {s : Sv} {B : Int} (hW : WF s B) {r : Nat} (hr : r < nrN s) {dr : Int32} (hd : 0 ≤ dr ∧ dr ≤ 300) : anClosure s (nI r) dr = fcS s r dr (182 - tN s) 0 := by
  have hnr := hW.nr
  refine (cif_t ⟨rm_in hW hr, hd⟩).trans ?_
  rw [nt_nI (by omega)]
theorem dr_k {s : Sv} {B : Int} (hW : WF s B) {r a b : Nat} (hr : r < nrN s) (h1 : tN s ≤ a) (h2 : a ≤ b) (h3 : b ≤ 181) : anDraught s (nI r) (nI a) (nI b) = gdI (lwF s a (b + 1 - tN s)) (rf s r 0) := by
  have hnr := hW.nr
  have ht := hW.t
  have a1 : 0 ≤ nI a ∧ nI a ≤ 181 := by
    rw [ie, ie, tn (by omega), tl_0, tl_181]
    omega
  have a2 : nI a ≤ nI b ∧ nI b ≤ 181 := by
    rw [ie, ie, tn (by omega), tn (by omega), tl_181]
    omega
  have a3 : s 0 ≤ nI a := by
    rw [ht.1]
    exact nI_le h1 (by omega)
  refine (cif_t ⟨rm_in hW hr, a1, a2⟩).trans ((cif_t a3).trans ?_)
  rw [nt_nI (by omega), nt_nI (by omega), nt_nI (by omega)]
/-- the greatest draught over ten days -/
noncomputable def mo10 (s : Sv) (r : Nat) : Int32 := gdI (lwF s (tN s) (tN s + 9 + 1 - tN s)) (rf s r 0)
theorem mo_sp {s : Sv} {B : Int} (hW : WF s B) {r : Nat} (hr : r < nrN s) : ¬ 300 < mo10 s r ∧ (¬ mo10 s r < 0 → (0 ≤ mo10 s r ∧ mo10 s r ≤ 300) ∧ ∀ k, k < 10 → opn s r (mo10 s r) (FC s k)) := by
  obtain ⟨h1, -, h3⟩ := lw_sp hW (tN s) (tN s + 9 + 1 - tN s)
  have he := (hW.rm hr).1
  unfold mo10 gdI
  obtain ⟨lw, hl⟩ : ∃ lw, lwF s (tN s) (tN s + 9 + 1 - tN s) = lw := ⟨_, rfl⟩
  rw [hl] at h1 h3 ⊢
  have es : (lw - rf s r 0).toInt = lw.toInt - (rf s r 0).toInt := subT (by omega) (by omega)
  by_cases c1 : lw - rf s r 0 < 0
  · rw [if_pos c1]
    exact ⟨by decide, fun q => absurd (show (-100009 : Int32) < 0 by decide) q⟩
  · rw [if_neg c1]
    rw [il, es, tl_0] at c1
    by_cases c2 : 300 < lw - rf s r 0
    · rw [if_pos c2]
      rw [il, es, tl_300] at c2
      refine ⟨by decide, fun _ => ⟨by decide, fun k hk => ?_⟩⟩
      rw [opn_iff hW hr (FC_b hW k), tl_300]
      have := h1 k (by omega) (by omega)
      omega
    · rw [if_neg c2]
      refine ⟨c2, fun _ => ⟨?_, fun k hk => ?_⟩⟩
      · rw [il, es, tl_300] at c2
        rw [ie, ie, es, tl_0, tl_300]
        omega
      · rw [opn_iff hW hr (FC_b hW k), es]
        have := h1 k (by omega) (by omega)
        omega
set_option maxHeartbeats 4000000 in
set_option maxRecDepth 100000 in
theorem lp_if {G : GT} {C : CT} {V : Mm} {s : Sv} {m z : Nat} {hh : Nat → Sv} {B : Int} (hC : CR V s m z hh B) {r : Nat} (hr : r < nrN s) {dr : Int32} (ht2 : tN s ≤ 172) {day : Int32} {Post : PT} (kk : Ew G C V 133 [some (adr G 0), some (.int (nI r)), some (.int dr), some (.int (nI (tN s))), some (.int day), some (.int (nI (tN s + 9))), some (.int (mo10 s r)), none, none] []) (hx : Cx G mL_isForecast 5 C) (hq : Cq G (Post) C) : ∀ (n i : Nat), i + n = tN s + 10 → tN s ≤ i → Ew G C (V) 78 [some (adr G 0), some (.int (nI r)), some (.int dr), some (.int (nI (tN s))), some (.int day), some (.int (nI (tN s + 9))), some (.int (mo10 s r)), some (.int (nI i)), none] [] := by
  intro n
  induction n with
  | zero =>
    intro i hi hlo
    refine Ew.iload hx dL_isForecast_78 rfl ?_
    refine Ew.iload hx dL_isForecast_80 rfl ?_
    refine Ew.icmp_gt_t hx (tgt := 133) dL_isForecast_82 rfl (nI_lt (by omega) (by omega)) ?_
    refine Ew.wk ?_ kk
    exact ⟨rfl, rfl, rfl, rfl, rfl, rfl, rfl, trivial⟩
  | succ n ih =>
    intro i hi hlo
    refine Ew.iload hx dL_isForecast_78 rfl ?_
    refine Ew.iload hx dL_isForecast_80 rfl ?_
    refine Ew.icmp_gt_f hx (tgt := 133) dL_isForecast_82 rfl (nI_nlt (by omega) (by omega)) ?_
    have hW := hC.2.2.2.2.2.1.1
    have ht := hW.t
    have hb := FC_b hW (i - tN s)
    have hm := mo_sp hW hr
    refine Ew.aload_n hx dL_isForecast_85 rfl ?_
    refine Ew.iload hx dL_isForecast_86 rfl ?_
    refine Ew.callV2 (y' := mX11_forecast) hx dL_isForecast_88 ml_RL_84 cf_X11_forecast cv_X11_forecast (ct_X11_forecast G V hC _) rfl oc_0 rfl (by decide) (by decide) rfl (Nat.le_of_ble_eq_true rfl) ?_
    rintro _ V9 ⟨rfl, h9⟩; subst V9
    rw [fo_k hW (by omega) (by omega)]
    refine Ew.istoreL hx dL_isForecast_91 (by decide) rfl ?_
    refine Ew.iload hx dL_isForecast_93 rfl ?_
    refine Ew.if_lt_f hx (tgt := 125) dL_isForecast_95 rfl (fun q => by rw [il, tl_0] at q; omega) ?_
    refine Ew.iload hx dL_isForecast_98 rfl ?_
    refine Ew.sipush hx dL_isForecast_100 k_sipush_5000 ?_
    refine Ew.icmp_gt_f hx (tgt := 125) dL_isForecast_103 rfl (fun q => by rw [il, tl_5000] at q; omega) ?_
    refine Ew.iload hx dL_isForecast_106 rfl ?_
    refine Ew.if_lt hx (tgt := 127) dL_isForecast_108 rfl (fun h108 => ?_) (fun h108 => ?_)
    · refine Ew.iincL hx dL_isForecast_127 rfl (k_iinc_1 _) (by decide) rfl ?_
      refine Ew.goto hx (tgt := 78) dL_isForecast_130 rfl ?_
      rw [nI_1]
      refine Ew.wk ?_ (ih (i + 1) (by omega) (by omega))
      exact ⟨rfl, rfl, rfl, rfl, rfl, rfl, rfl, rfl, trivial⟩
    · refine Ew.iload hx dL_isForecast_111 rfl ?_
      refine Ew.aload_n hx dL_isForecast_113 rfl ?_
      refine Ew.iload_n hx dL_isForecast_114 rfl ?_
      refine Ew.iconst hx dL_isForecast_115 k_iconst_0 ?_
      refine Ew.callV2 (y' := mX11_ramp) hx dL_isForecast_116 ml_RL_23 cf_X11_ramp cv_X11_ramp (ct_X11_ramp G V hC _ _) rfl oc_0 rfl (by decide) (by decide) rfl (Nat.le_of_ble_eq_true rfl) ?_
      rintro _ V9 ⟨rfl, h9⟩; subst V9
      rw [rm_0 hW hr]
      refine Ew.isub hx dL_isForecast_119 ?_
      refine Ew.iload hx dL_isForecast_120 rfl ?_
      refine Ew.icmp_ge_t hx (tgt := 127) dL_isForecast_122 rfl ((hm.2 h108).2 (i - tN s) (by omega)) ?_
      refine Ew.iincL hx dL_isForecast_127 rfl (k_iinc_1 _) (by decide) rfl ?_
      refine Ew.goto hx (tgt := 78) dL_isForecast_130 rfl ?_
      rw [nI_1]
      refine Ew.wk ?_ (ih (i + 1) (by omega) (by omega))
      exact ⟨rfl, rfl, rfl, rfl, rfl, rfl, rfl, rfl, trivial⟩
set_option maxHeartbeats 4000000 in
set_option maxRecDepth 100000 in
theorem if_2 {G : GT} {C : CT} {V : Mm} (hx : Cx G mL_isForecast 5 C) (hq : Cq G (Ri 1 V) C) {s : Sv} {m z : Nat} {hh : Nat → Sv} {B : Int} (hC : CR V s m z hh B) {r : Nat} (hr : r < nrN s) {dr : Int32} (ht2 : tN s ≤ 172) {day : Int32} : Ew G C V 59 [some (adr G 0), some (.int (nI r)), some (.int dr), some (.int (nI (tN s))), some (.int day), none, none, none, none] [] := by
  have hW := hC.2.2.2.2.2.1.1
  have hm := mo_sp hW hr
  refine Ew.iload_n hx dL_isForecast_59 rfl ?_
  refine Ew.bipush hx dL_isForecast_60 k_bipush_9 ?_
  refine Ew.iadd' hx dL_isForecast_62 (nI_add (tN s) 9) ?_
  refine Ew.istoreL hx dL_isForecast_63 (by decide) rfl ?_
  refine Ew.aload_n hx dL_isForecast_65 rfl ?_
  refine Ew.iload_n hx dL_isForecast_66 rfl ?_
  refine Ew.iload_n hx dL_isForecast_67 rfl ?_
  refine Ew.iload hx dL_isForecast_68 rfl ?_
  refine Ew.callV2 (y' := mX11_draughtFor) hx dL_isForecast_70 ml_RL_87 cf_X11_draughtFor cv_X11_draughtFor (ct_X11_draughtFor G V hC _ _ _) rfl oc_0 rfl (by decide) (by decide) rfl (Nat.le_of_ble_eq_true rfl) ?_
  rintro _ V9 ⟨rfl, h9⟩; subst V9
  rw [dr_k hW hr (Nat.le_refl _) (by omega) (by omega)]
  refine Ew.istoreL hx dL_isForecast_73 (by decide) rfl ?_
  refine Ew.iload_n hx dL_isForecast_75 rfl ?_
  refine Ew.istoreL hx dL_isForecast_76 (by decide) rfl ?_
  refine lp_if hC hr ht2 ?_ hx hq 10 (tN s) rfl (Nat.le_refl _)
  refine Ew.iload hx dL_isForecast_133 rfl ?_
  refine Ew.sipush hx dL_isForecast_135 k_sipush_300 ?_
  refine Ew.icmp_gt_f hx (tgt := 172) dL_isForecast_138 rfl (hm.1) ?_
  refine Ew.iload hx dL_isForecast_141 rfl ?_
  refine Ew.if_lt hx (tgt := 168) dL_isForecast_143 rfl (fun h143 => ?_) (fun h143 => ?_)
  · refine Ew.iconst hx dL_isForecast_168 k_iconst_1 ?_
    refine Ew.goto hx (tgt := 173) dL_isForecast_169 rfl ?_
    refine Ew.bret hx hq dL_isForecast_173 rfl (by first | exact b2i_01 _ | decide) ?_
    exact ⟨rfl, rfl⟩
  · refine Ew.aload_n hx dL_isForecast_146 rfl ?_
    refine Ew.iload_n hx dL_isForecast_147 rfl ?_
    refine Ew.iload hx dL_isForecast_148 rfl ?_
    refine Ew.callV2 (y' := mX11_closure) hx dL_isForecast_150 ml_RL_81 cf_X11_closure cv_X11_closure (ct_X11_closure G V hC _ _) rfl oc_0 rfl (by decide) (by decide) rfl (Nat.le_of_ble_eq_true rfl) ?_
    rintro _ V9 ⟨rfl, h9⟩; subst V9
    rw [cl_k hW hr (hm.2 h143).1]
    refine Ew.if_lt hx (tgt := 168) dL_isForecast_153 rfl (fun h153 => ?_) (fun h153 => ?_)
    · refine Ew.iconst hx dL_isForecast_168 k_iconst_1 ?_
      refine Ew.goto hx (tgt := 173) dL_isForecast_169 rfl ?_
      refine Ew.bret hx hq dL_isForecast_173 rfl (by first | exact b2i_01 _ | decide) ?_
      exact ⟨rfl, rfl⟩
    · refine Ew.aload_n hx dL_isForecast_156 rfl ?_
      refine Ew.iload_n hx dL_isForecast_157 rfl ?_
      refine Ew.iload hx dL_isForecast_158 rfl ?_
      refine Ew.callV2 (y' := mX11_closure) hx dL_isForecast_160 ml_RL_81 cf_X11_closure cv_X11_closure (ct_X11_closure G V hC _ _) rfl oc_0 rfl (by decide) (by decide) rfl (Nat.le_of_ble_eq_true rfl) ?_
      rintro _ V9 ⟨rfl, h9⟩; subst V9
      rw [cl_k hW hr (hm.2 h143).1]
      refine Ew.iload hx dL_isForecast_163 rfl ?_
      refine Ew.icmp_le_f hx (tgt := 172) dL_isForecast_165 rfl (fun q => by
        rcases fcS_sp (s := s) (r := r) (dr := mo10 s r) (182 - tN s) 0 with e | ⟨k, -, k2, k3, e⟩
        · rw [e] at h153; exact h153 (by decide)
        · rw [e, ie, tn (by omega), tn (by omega)] at q
          exact k3 ((hm.2 h143).2 k (by omega))) ?_
      refine Ew.iconst hx dL_isForecast_168 k_iconst_1 ?_
      refine Ew.goto hx (tgt := 173) dL_isForecast_169 rfl ?_
      refine Ew.bret hx hq dL_isForecast_173 rfl (by first | exact b2i_01 _ | decide) ?_
      exact ⟨rfl, rfl⟩
set_option maxHeartbeats 4000000 in
set_option maxRecDepth 100000 in
theorem ct_L_isForecast (G : GT) (V : Mm) {s : Sv} {m z : Nat} {hh : Nat → Sv} {B : Int} (hC : CR V s m z hh B) {r : Nat} (hr : r < nrN s) {dr : Int32} (ht2 : tN s ≤ 172) (hd : 0 ≤ dr ∧ dr ≤ 300) : Ct G mL_isForecast 5 [adr G 0, .int (nI r), .int dr] (V) (Ri 1 V) := by
  refine Ct.of cf_L_isForecast (List.forall_mem_cons.mpr ⟨rfl, List.forall_mem_cons.mpr ⟨rfl, List.forall_mem_cons.mpr ⟨rfl, fun _ h => absurd h List.not_mem_nil⟩⟩⟩) (Nat.le_of_ble_eq_true rfl) (l0 := [some (adr G 0), some (.int (nI r)), some (.int dr), none, none, none, none, none, none]) rfl (fun C hx hq => ?_)
  have hW := hC.2.2.2.2.2.1.1
  have ht := hW.t
  
  refine Ew.aload_n hx dL_isForecast_0 rfl ?_
  refine Ew.iconst hx dL_isForecast_1 k_iconst_0 ?_
  refine Ew.callV2 (y' := mX11_count) hx dL_isForecast_2 ml_RL_12 cf_X11_count cv_X11_count (ct_X11_count G V hC _) rfl oc_0 rfl (by decide) (by decide) rfl (Nat.le_of_ble_eq_true rfl) ?_
  rintro _ V9 ⟨rfl, h9⟩; subst V9
  rw [cn_0, ht.1]
  refine Ew.istoreL_n hx dL_isForecast_5 (by decide) rfl ?_
  refine Ew.aload_n hx dL_isForecast_6 rfl ?_
  refine Ew.iload_n hx dL_isForecast_7 rfl ?_
  refine Ew.iload_n hx dL_isForecast_8 rfl ?_
  refine Ew.callV2 (y' := mX11_closure) hx dL_isForecast_9 ml_RL_81 cf_X11_closure cv_X11_closure (ct_X11_closure G V hC _ _) rfl oc_0 rfl (by decide) (by decide) rfl (Nat.le_of_ble_eq_true rfl) ?_
  rintro _ V9 ⟨rfl, h9⟩; subst V9
  rw [cl_k hW hr hd]
  refine Ew.istoreL hx dL_isForecast_12 (by decide) rfl ?_
  refine Ew.aload_n hx dL_isForecast_14 rfl ?_
  refine Ew.iload_n hx dL_isForecast_15 rfl ?_
  refine Ew.callV2 (y' := mX11_forecast) hx dL_isForecast_16 ml_RL_84 cf_X11_forecast cv_X11_forecast (ct_X11_forecast G V hC _) rfl oc_0 rfl (by decide) (by decide) rfl (Nat.le_of_ble_eq_true rfl) ?_
  rintro _ V9 ⟨rfl, h9⟩; subst V9
  rw [fo_k hW (Nat.le_refl _) (by omega), Nat.sub_self]
  refine Ew.aload_n hx dL_isForecast_19 rfl ?_
  refine Ew.iconst hx dL_isForecast_20 k_iconst_1 ?_
  refine Ew.callV2 (y' := mX11_count) hx dL_isForecast_21 ml_RL_12 cf_X11_count cv_X11_count (ct_X11_count G V hC _) rfl oc_0 rfl (by decide) (by decide) rfl (Nat.le_of_ble_eq_true rfl) ?_
  rintro _ V9 ⟨rfl, h9⟩; subst V9
  rw [cn_1]
  refine Ew.icmp_ne_f hx (tgt := 57) dL_isForecast_24 rfl (rfl) ?_
  refine Ew.iload hx dL_isForecast_27 rfl ?_
  refine Ew.ldc hx dL_isForecast_29 kn_RL_74 ?_
  refine Ew.icmp_eq hx (tgt := 59) dL_isForecast_31 rfl (fun h31 => ?_) (fun h31 => ?_)
  · exact if_2 hx hq hC hr ht2
  · obtain ⟨k, -, hk, hno, ed⟩ := (fcS_sp (s := s) (r := r) (dr := dr) (182 - tN s) 0).resolve_left h31
    refine Ew.iload hx dL_isForecast_34 rfl ?_
    refine Ew.iload_n hx dL_isForecast_36 rfl ?_
    refine Ew.icmp_lt_f hx (tgt := 57) dL_isForecast_37 rfl (fun q => by rw [ed] at q; exact nI_nlt (by omega) (by omega) q) ?_
    refine Ew.aload_n hx dL_isForecast_40 rfl ?_
    refine Ew.iload hx dL_isForecast_41 rfl ?_
    refine Ew.callV2 (y' := mX11_forecast) hx dL_isForecast_43 ml_RL_84 cf_X11_forecast cv_X11_forecast (ct_X11_forecast G V hC _) rfl oc_0 rfl (by decide) (by decide) rfl (Nat.le_of_ble_eq_true rfl) ?_
    rintro _ V9 ⟨rfl, h9⟩; subst V9
    rw [ed, fo_k hW (by omega) (by omega), Nat.add_sub_cancel_left]
    refine Ew.aload_n hx dL_isForecast_46 rfl ?_
    refine Ew.iload_n hx dL_isForecast_47 rfl ?_
    refine Ew.iconst hx dL_isForecast_48 k_iconst_0 ?_
    refine Ew.callV2 (y' := mX11_ramp) hx dL_isForecast_49 ml_RL_23 cf_X11_ramp cv_X11_ramp (ct_X11_ramp G V hC _ _) rfl oc_0 rfl (by decide) (by decide) rfl (Nat.le_of_ble_eq_true rfl) ?_
    rintro _ V9 ⟨rfl, h9⟩; subst V9
    rw [rm_0 hW hr]
    refine Ew.isub hx dL_isForecast_52 ?_
    refine Ew.iload_n hx dL_isForecast_53 rfl ?_
    refine Ew.icmp_lt_t hx (tgt := 59) dL_isForecast_54 rfl (by unfold opn at hno; rw [ie] at hno; rw [il]; omega) ?_
    exact if_2 hx hq hC hr ht2
