theorem inT0 {w : Cond} (i : Nat) (h : (k2_sels lw_privs)[i]? = some w) : w ∈ lw_tbl := List.mem_append_left _ (List.mem_of_getElem? h)
theorem inT1 {w : Cond} (i : Nat) (h : tables_1_1[i]? = some w) : w ∈ lw_tbl := List.mem_append_right _ (List.mem_append_left _ (List.mem_of_getElem? h))
theorem inT2 {w : Cond} (i : Nat) (h : tables_1_2[i]? = some w) : w ∈ lw_tbl := List.mem_append_right _ (List.mem_append_right _ (List.mem_append_left _ (List.mem_of_getElem? h)))
theorem inT3 {w : Cond} (i : Nat) (h : tables_1_3[i]? = some w) : w ∈ lw_tbl := List.mem_append_right _ (List.mem_append_right _ (List.mem_append_right _ (List.mem_of_getElem? h)))
/-- the outer world at the start: the nest's words, the script -/
theorem xt_of {args : Array Value} {s : State} (hts : ∀ w ∈ lw_tbl, w.before args s = true) {b L : Nat} {xs : Nat → Int32} (hX : va_X b L xs s s.heap) (hbl : b < s.heap.size) (hL : L ≤ 260) : ∀ (l : Launch) (D : va_G) (gAf : Nat → ClassId), Xt (l, D, s.heap.size, gAf, (b, L, xs)) s s.heap := by
  intro l D gAf
  refine ⟨⟨hX, hbl, Nat.not_le.mpr hbl, hL⟩, ?_, trivial⟩
  exact List.forall_mem_cons.mpr ⟨va_Nw.of rfl (hts _ (inT1 34 rfl)), List.forall_mem_cons.mpr ⟨va_Nw.of rfl (hts _ (inT1 58 rfl)), List.forall_mem_cons.mpr ⟨va_Nw.of rfl (hts _ (inT1 78 rfl)), List.forall_mem_cons.mpr ⟨va_Nw.of rfl (hts _ (inT1 99 rfl)), List.forall_mem_cons.mpr ⟨va_Nw.of rfl (hts _ (inT1 208 rfl)), List.forall_mem_cons.mpr ⟨va_Nw.of rfl (hts _ (inT1 214 rfl)), List.forall_mem_cons.mpr ⟨va_Nw.of rfl (hts _ (inT2 64 rfl)), List.forall_mem_cons.mpr ⟨va_Nw.of rfl (hts _ (inT2 205 rfl)), List.forall_mem_cons.mpr ⟨va_Nw.of rfl (hts _ (inT2 109 rfl)), List.forall_mem_cons.mpr ⟨va_Nw.of rfl (hts _ (inT2 214 rfl)), List.forall_mem_cons.mpr ⟨va_Nw.of rfl (hts _ (inT2 29 rfl)), fun _ h => absurd h List.not_mem_nil⟩⟩⟩⟩⟩⟩⟩⟩⟩⟩⟩
theorem kn_of {args : Array Value} {s : State} (hB : ∀ w ∈ Big, w.before args s = true) : ∀ k : Nat, ∃ ci : ClassId × (Nat → Nat), ∀ q : vw_C, vwCl[k]? = some q → u_Kn s q.1 q.2.1 q.2.2 ci.1 ci.2 := by
  intro k
  have key : ∀ (K : String) (T : u_T) (N n : Nat), vwCl[k]? = some (K, T, N) → (∀ w ∈ u_ws K T N, w ∈ Big) → Cond.instantiable K n ∈ Big → ∃ ci : ClassId × (Nat → Nat), ∀ q : vw_C, vwCl[k]? = some q → u_Kn s q.1 q.2.1 q.2.2 ci.1 ci.2 := by
    intro K T N n h1 h2 h3
    obtain ⟨c, iS, hK⟩ := u_known hB h2 (hB _ h3)
    exact ⟨(c, iS), fun q hq => by cases h1.symm.trans hq; exact hK⟩
  by_cases hk : k < 10
  · rcases (show k = 0 ∨ k = 1 ∨ k = 2 ∨ k = 3 ∨ k = 4 ∨ k = 5 ∨ k = 6 ∨ k = 7 ∨ k = 8 ∨ k = 9 by omega) with rfl | rfl | rfl | rfl | rfl | rfl | rfl | rfl | rfl | rfl
    · exact key RX2 TX2 3 3 rfl fw_RX2 kj_RX2
    · exact key RX3 TX3 3 3 rfl fw_RX3 kj_RX3
    · exact key RX4 TX4 12 12 rfl fw_RX4 kj_RX4
    · exact key RX5 TX5 6 6 rfl fw_RX5 kj_RX5
    · exact key RX6 TX6 3 3 rfl fw_RX6 kj_RX6
    · exact key RX7 TX7 6 6 rfl fw_RX7 kj_RX7
    · exact key RX8 TX8 3 3 rfl fw_RX8 kj_RX8
    · exact key RX9 TX9 4 4 rfl fw_RX9 kj_RX9
    · exact key RX10 TX10 3 3 rfl fw_RX10 kj_RX10
    · exact key RX11 TX11 3 3 rfl fw_RX11 kj_RX11
  · refine ⟨(0, fun _ => 0), fun q hq => ?_⟩
    have h1 := (List.getElem?_eq_some_iff.mp hq).1
    have h2 : vwCl.length = 10 := rfl
    omega
theorem ao_of {args : Array Value} {s : State} (hts : ∀ w ∈ lw_tbl, w.before args s = true) : AOs s := ⟨va_AO.of (hts _ (inT1 74 rfl)), va_AO.of (hts _ (inT1 76 rfl)), va_AO.of (hts _ (inT1 173 rfl)), va_AO.of (hts _ (inT1 193 rfl))⟩
theorem kp_of {args : Array Value} {s : State} {ty : FieldType} (h : (Cond.arrayClass ty).before args s = true) : ∃ cA : ClassId, ArrOfT s cA ty ∧ s.vm.findClass ("[" ++ ty.toString) = some cA := by
  obtain ⟨c, k, comp, h1, h2, h3⟩ := Cond.arrayClass_spec h
  exact ⟨c, fun n z => ⟨fun k h => (by cases h), k, h2, comp, h3⟩, h1⟩
theorem kr_of {s : State} {K : String} (h : va_AO K s) : ∃ cA : ClassId, ArrOfT s cA (.object K) ∧ va_RA s cA (.object K) := by
  obtain ⟨comp, c, k, h1, -, h3, h4, h5⟩ := Cond.arrayOver_spec h
  exact ⟨c, fun n z => ⟨fun k h => (by cases h), k, h3, comp, h4⟩, k, comp, h3, h4, h1, h5⟩
theorem ka_of {args : Array Value} {s : State} (hB : ∀ w ∈ Big, w.before args s = true) (hA : AOs s) : ∃ gAf : Nat → ClassId, ∀ (l : Launch) (D : va_G) (b : Nat) (X : XT) (k : Nat) (q : ClassId × FieldType), (tysOf (l, D, b, gAf, X))[k]? = some q → ArrOfT s q.1 q.2 ∧ va_RA s q.1 q.2 := by
  obtain ⟨c0, h0⟩ := kp_of (hB _ ka_int)
  obtain ⟨c1, h1⟩ := kp_of (hB _ ka_char)
  obtain ⟨c2, h2⟩ := kp_of (hB _ ka_boolean)
  obtain ⟨c3, h3⟩ := kr_of hA.2.2.1
  obtain ⟨c4, h4⟩ := kr_of hA.1
  obtain ⟨c5, h5⟩ := kr_of hA.2.1
  obtain ⟨c6, h6⟩ := kr_of hA.2.2.2
  refine ⟨fun t => [c0, c1, c2, c3, c4, c5, c6].getD t 0, fun l D b X k q hq => ?_⟩
  have hk : k < 7 := (List.getElem?_eq_some_iff.mp hq).1
  rcases (show k = 0 ∨ k = 1 ∨ k = 2 ∨ k = 3 ∨ k = 4 ∨ k = 5 ∨ k = 6 by omega) with rfl | rfl | rfl | rfl | rfl | rfl | rfl
  · cases hq; exact h0
  · cases hq; exact h1
  · cases hq; exact h2
  · cases hq; exact h3
  · cases hq; exact h4
  · cases hq; exact h5
  · cases hq; exact h6
theorem rep_0 : Rep V0 2 s0 := by
  intro m hm
  have h1 : nrN s0 = 0 := by decide
  have h2 : npN s0 = 0 := by decide
  rw [h1, h2] at hm
  unfold rel at hm
  exact (show ∀ m, m < 37 → V0 (clc 2 m) (csl m) = s0 m by decide +kernel) m (by omega)
theorem wf_0 : WF s0 0 := by
  have h1 : nrN s0 = 0 := by decide
  have h2 : npN s0 = 0 := by decide
  refine ⟨by decide, by decide, by decide, by decide, by decide, (show ∀ w, w < 26 → -50 ≤ (s0 (11 + w)).toInt ∧ (s0 (11 + w)).toInt ≤ 50 by decide), fun r hr => ?_, fun p hp => ?_⟩
  · rw [h1] at hr; exact absurd hr (Nat.not_lt_zero r)
  · rw [h2] at hp; exact absurd hp (Nat.not_lt_zero p)
theorem sl_0 : ∀ i, i < 2 → V0 27 i = s0 (193 + 194 * i) ∧ s0 (193 + 194 * i) = 0 := by decide +kernel
theorem cr_0 : CR V0 s0 0 0 (fun _ => s0) 0 := by
  refine ⟨by decide, by decide, by decide, by decide, ⟨rep_0, fun i hi => ⟨(sl_0 i hi).1, fun q => ?_⟩⟩, ⟨wf_0, fun i hi => ⟨Or.inl (sl_0 i hi).2, fun q => ?_⟩⟩, fun j hj => absurd hj (Nat.not_lt_zero j)⟩
  · rw [(sl_0 i hi).2] at q; exact absurd q (by decide)
  · rw [(sl_0 i hi).2] at q; exact absurd q (by decide)
/-! THE CLAIM OUT OF ONE WALK OF THE LAW'S BODY. Your part is whole_start (and what it stands on); all else here is the same for every law, but numbers. -/
def R_law : String := "RampPermitsLaw"
def lw_P (b : Addr) (xs : List Int32) (args : Array Value) (s : State) : Prop := args = #[.ref b] ∧ s.IntsAt b xs ∧ xs.length ≤ 260 ∧ (Jvm.Cond.and given_1 narrow_1).before args s = true
/-- what a walk over the start with the record d0 says of its end, said of the start itself -/
theorem lw_closed {s t : State} {o : Outcome} {d0 : Drawn} {L : List Loc} {k n : Nat} (hd0 : s.drawn.sameBut d0 lw_cs) (hv : ∃ v, o = .returned v) (hW : (s.setDrawn d0).WarmedH t.vm) (hs : (s.setDrawn d0).sameButNew ({ t with vm := s.vm } : State) L k n) : State.butDraws s t lw_cs (fun t1 => Framed s o t1 L k n) := by
  have h2 : t.drawn = d0 := congrArg State.drawn hs.1
  refine ⟨⟨hv, hW, State.sameButNew.setDrawn hs s.drawn⟩, ?_, by decide⟩
  rw [h2]
  exact hd0
def lw_Q (_ : Array Value) (s : State) (o : Outcome) (t : State) : Prop := o = .returned (some (.int 1)) ∧ State.butDraws s t lw_cs (fun t1 => Framed s o t1 [] 600000 7302250)
def lw_Z (below : List Frame) (a : Array Value) (s : State) : State → Prop := fun t => ∃ o, t.status = .running ∧ Ended t below o ∧ lw_Q a s o t
/-- the law's own end, with 1 on the stack, nothing written that was there before, its room as the claim has it; d0: the record of draws at this point (at the entry s.drawn: begin with 'refine W.base ?_' and 'have hd0 := Drawn.sameBut.refl s.drawn lw_cs') -/
theorem lw_ret {p : Program} {l : Launch} {e : Env} {s : State} {m : MethodId} {below : List Frame} {meth : Method} {c : Code} {b : Nat} {d0 : Drawn} (hd0 : s.drawn.sameBut d0 lw_cs) (hx : p.tables.exec = Jvm.exec) (hb : c.code = code) (hr : meth.sig.returnType = ret) (hlocks : meth.locks = false) {pc : Nat} {H : Heap} {ls : Array Slot} (hdg : decode code pc = .ok (.ireturn, 1)) : W p l e room_1 (s.setDrawn d0) m #[Value.ref b] below meth c H [] 600000 7302250 (lw_Z below #[Value.ref b] s) (F0 m pc ls [.int 1]) := by
  intro T hT X
  obtain ⟨fs, hret, hrun, hended, hW, hframe⟩ := X.leave (v := some (.int 1)) (hlocks := hlocks) (fun h => by rw [hr] at h; cases h)
  have hmeth' : T.vm.method? m = some meth := X.method'
  refine ⟨T.setFrames fs, ?_, .returned (some (.int 1)), hrun, hended, rfl, lw_closed hd0 ⟨_, rfl⟩ hW hframe⟩
  jvm_step X.here [X.here.top, hx, hb, hdg, hmeth', hr, ret, narrow_b1]
  (try refine ⟨rfl, ?_⟩); (try refine ⟨rfl, ?_⟩)
  first | (intro acts; rw [hret _ acts rfl rfl rfl]) | rw [hret _ _ rfl rfl rfl]
  exact Steps.refl _
/-- what holds at the law's entry: the machine, the code, the tables' words (any of lw_tbl by 'hts w (by decide +kernel)'), the script of L ints xs at the cell b, what the Statement gives of the start (any of its parts by flat_of_before) -/
def lw_At (p : Program) (s : State) (m : MethodId) (meth : Method) (c : Code) (b L : Nat) (xs : Nat → Int32) : Prop :=
  p.tables.exec = Jvm.exec ∧ c.code = code ∧ meth.sig.returnType = ret ∧ c.maxLocals = 12 ∧ s.vm.findClass R_law = some m.cls ∧ (∀ w ∈ lw_tbl, w.before #[Value.ref b] s = true) ∧ va_X b L xs s s.heap ∧ b < s.heap.size ∧ meth.locks = false ∧ (Jvm.Cond.and given_1 narrow_1).before #[Value.ref b] s = true
set_option maxHeartbeats 4000000 in
set_option maxRecDepth 100000 in
theorem whole_start {p : Program} {e : Env} {s : State} {m : MethodId} {below : List Frame} {meth : Method} {c : Code} (l : Launch) (hflags : l.flags = flags0) {b L : Nat} {xs : Nat → Int32} (hL : L ≤ 260) (C0 : lw_At p s m meth c b L xs) : W p l e room_1 s m #[Value.ref b] below meth c s.heap [] 0 0 (lw_Z below #[Value.ref b] s) (entryFrame m ([Value.ref b] : List Value).toArray 12) := by
  obtain ⟨hx, hb, hr, hml, hown, hts, hX, hbl, hlocks, hgv⟩ := id C0
  have hB : ∀ w ∈ Big, w.before #[Value.ref b] s = true := fun w h => hts w (big_tbl h)
  have hXt := xt_of hts hX hbl hL
  obtain ⟨ad, hKn⟩ := Classical.axiomOfChoice (kn_of hB)
  have hAO := ao_of hts
  obtain ⟨gAf, hGA⟩ := ka_of hB hAO
  obtain ⟨G, hG⟩ : ∃ G : GT, G = (l, (fun k => (ad k).1, fun k => (ad k).2), s.heap.size, gAf, (b, L, xs)) := ⟨_, rfl⟩
  obtain ⟨C, hC⟩ : ∃ C : CT, C = (p, e, room_1, s, m, #[Value.ref b], below, meth, c, lw_Z below #[Value.ref b] s, 532, 4751) := ⟨_, rfl⟩
  have hK : va_K (gD G) vwCl (tysOf G) s := by
    subst hG
    exact ⟨fun k q h => hKn k q h, fun k q h => hGA _ _ _ _ k q h⟩
  have hCx : Cx G mL_law 7 C := by
    subst hC
    refine ⟨hx, hb, hown, hB, hK, ?_, ?_, hlocks, hr, hml, Nat.le_of_ble_eq_true rfl, Nat.le_of_ble_eq_true rfl, Nat.le_of_ble_eq_true rfl, Nat.le_of_ble_eq_true rfl⟩
    · subst hG
      exact hXt _ _ _
    · subst hG
      exact Nat.le_refl _
  have hgB : gB G = s.heap.size := by subst hG; rfl
  have hxB : xB G = b := by subst hG; rfl
  have hcS : cS C = s := by subst hC; rfl
  have hcK : cK C = 532 := by subst hC; rfl
  have hcN : cN C = 4751 := by subst hC; rfl
  have hAC : AOs (cS C) := by rw [hcS]; exact hAO
  have hend : ∀ (V : Mm) (l : List (Option Value)), Ew G C V 553 l [] := by
    intro V l'
    refine Ew.iconst hCx dL_law_553 k_iconst_1 ?_
    refine Ew.goto hCx (tgt := 558) dL_law_554 rfl ?_
    intro H locs ls hP hS hL'
    have hl : ∀ q ∈ locs, s.heap.size ≤ q.base := fun q hq => by
      have h := hS.2.2 q hq
      rw [← hgB]
      exact h
    subst hC
    have hG1 : G.1 = l := by subst hG; rfl
    rw [hG1]
    refine va_forget hl ?_
    refine W.widen (k := 600000) (n := 7302250) (Nat.le_of_ble_eq_true rfl) (Nat.le_of_ble_eq_true rfl) ?_
    refine W.base ?_
    exact lw_ret (Drawn.sameBut.refl s.drawn lw_cs) hx hb hr hlocks dL_law_558.1
  have main : Fw G C 0 (fun _ => .inl (0, (0, .inl (fun _ => 0)))) 0 0 0 [some (.ref b), none, none, none, none, none, none, none, none, none, none, none] [] := by
    refine Fw.new hCx dL_law_0 kl_RL_13 kj_RX11 kz_RX11 (ci := 9) rfl fw_RX11 tyX11 tyX11_ok df_RX11 (by omega) (by omega) ?_
    refine Fw.dup hCx dL_law_3 rfl ?_
    refine Fw.callI (y' := mX11_init) hCx hAC dL_law_4 ml_RL_90 cf_X11_init ci_X11_init rfl rfl (kt_X11 G rfl) (upE_s _ _ _) (by decide) (by decide) (by omega) (by omega) (Nat.le_of_ble_eq_true rfl) ?_
    refine Fw.astore_n hCx dL_law_7 (by decide) rfl ?_
    rw [← hxB]
    refine Fw.toEw (V := V0) (fun q hq => ?_) (lt_beg hCx cr_0 hend) (by rw [hcK]) (by rw [hcN])
    exact fin_hi _ _ (Nat.zero_le q)
  rw [lg_entry_eq]
  have hG1 : G.1 = l := by subst hG; rfl
  have h9 := main s.heap [] ((lg_sl [Value.ref b] ++ List.replicate (12 - (lg_sl [Value.ref b]).length) Slot.unset).toArray) (fun k q h => by simp [wsE] at h) (by rw [hcS]; exact va_S.rf) (by rw [hgB]; rfl) (by
    subst hC
    show lvO _ c.maxLocals _
    rw [hml]
    exact lvO_entry [Value.ref b] 12 (fun v hv => by rcases List.mem_cons.mp hv with rfl | q; rfl; exact absurd q List.not_mem_nil) (Nat.le_of_ble_eq_true rfl))
  rw [hG1] at h9
  subst hC
  exact h9
set_option maxHeartbeats 4000000 in
theorem lw_walk (l : Launch) (hflags : l.flags = flags0) (b : Addr) (xs : List Int32) : MetFree l x (headSpec (Jvm.Cond.code x code maxLocals ret :: tables_1) room_1) (lw_P b xs) (fun _ _ _ _ _ => True) lw_Q := by
  refine MetFree.of_bodyS (code := code) (maxLocals := maxLocals) (ret := ret) (by decide) ?_ ?_
  · intro args s m h hn
    obtain ⟨meth, c, h1, h2, h3, h4, h5, h6, -, -⟩ := Cond.code_spec hn (atoms_spec (ws := Jvm.Cond.code x code maxLocals ret :: tables_1) h _ List.mem_cons_self)
    exact ⟨meth, c, h1, h2, h3, h4, h5, h6⟩
  · intro p e s m args below meth c s₁ B hml0 hP _
    obtain ⟨rfl, hx, hbd, hgv⟩ := hP
    obtain ⟨scr, harrAt, hlist, hof, hsmall⟩ := hx
    obtain ⟨hcb, hkn, -, -⟩ := State.arrayAt?_spec harrAt
    have hown : s.vm.findClass R_law = some m.cls := findClass_of_methodNamed B.named
    have hts0 : ∀ c ∈ (Jvm.Cond.code x code maxLocals ret :: tables_1), c.before #[Value.ref b] s = true := atoms_spec (ws := Jvm.Cond.code x code maxLocals ret :: tables_1) B.pre
    have hts : ∀ w ∈ lw_tbl, w.before #[Value.ref b] s = true := k2_hts_sels lw_privs (fun w hw => hts0 w (List.mem_cons_of_mem _ hw)) lw_privs_ok
    have hml : c.maxLocals = 12 := B.maxLocals_eq (hts0 _ List.mem_cons_self)
    have X₀ : Stand p l e room_1 s m #[Value.ref b] below meth c s₁ [] 0 0 := Stand.of_body B
    have hh0 : s₁.heap = s.heap := by rw [B.state]; rfl
    have hsz : scr.slots.size = xs.length := by rw [← Array.length_toList, hlist, List.length_map]
    have hval : ∀ j : Nat, j < xs.length → scr.slots[j]? = some (.int (xs.getD j 0)) := fun j hj => by
      rw [← Array.getElem?_toList, hlist]
      simp [hj]
    have hbl : b < s.heap.size := (Array.getElem?_eq_some_iff.mp hcb).1
    have hX : va_X b xs.length (fun j => xs.getD j 0) s s.heap := ⟨scr, hcb, hof, hkn, hsz, hval⟩
    have K : W p l e room_1 s m #[Value.ref b] below meth c s₁.heap [] 0 0 (lw_Z below #[Value.ref b] s) (entryFrame m ([Value.ref b] : List Value).toArray 12) := by
      rw [hh0]
      exact whole_start l hflags hbd ⟨B.exec, B.bytes, B.returns, hml, hown, hts, hX, hbl, B.notSynchronized, hgv⟩
    obtain ⟨t, a1, o, b1, b2, b3⟩ := K s₁ rfl X₀
    exact ⟨t, o, a1, b1, b2, b3⟩
theorem lw_pre_spec {args : Array Value} {s : State} (h : (Jvm.Cond.and given_1 narrow_1).before args s = true) (hr : rest_1_c.before args s = true) : ∃ (b : Addr) (xs : List Int32), lw_P b xs args s := by
  have hs := flat_of_before _ h
  have hq := flat_of_before _ hr
  have hc : (Cond.count 1).before args s = true := hs _ (by decide +kernel)
  have harr : (Cond.arrayOf (.arg 0) .int).before args s = true := hs _ (by decide +kernel)
  have hle : (Cond.le (.length (.arg 0)) (.int 260)).before args s = true := hs _ (by decide +kernel)
  have hlen : (Cond.isInt (.length (.arg 0))).before args s = true := hq _ (by decide +kernel)
  have hall : (Cond.all (.arg 0) (.isInt (.elem (.arg 0) (.index 0)))).before args s = true := hq _ (by decide +kernel)
  obtain ⟨b, xs, hb, hx⟩ := State.ints_of_pre rfl harr hlen hall
  have hsm : xs.length < 2 ^ 31 := hx.choose_spec.2.2.2
  have hev : (Term.length (.arg 0)).eval args s none [] s = some (.int xs.length.toInt32) := hx.length_eval hb
  have hv := Cond.le_ints hev (show (Term.int 260).eval args s none [] s = some (.int 260) from rfl)
  have hd : xs.length.toInt32 ≤ 260 := by
    simpa [Cond.before, Cond.holds, hv] using hle
  have hN : xs.length ≤ 260 := (Int32.ofNat_le_ofNat hsm (by decide)).mp (show Int32.ofNat xs.length ≤ Int32.ofNat 260 from hd)
  exact ⟨b, xs, Cond.one_arg hc (show args[0]? = some (.ref b) from hb), hx, hN, h⟩
theorem lw_comes (l : Launch) (hflags : l.flags = flags0) : Comes l x (Jvm.Cond.code x code maxLocals ret :: tables_1) room_1 (fun tb e args s => Calls_1 tb e args s ∧ rest_1 tb e args s ∧ Pre_1 tb e args s)
    (fun _ _ args s o t => lw_Q args s o t) := by
  intro p e ha hc hk s m args below hf hfit hheap happ hpre
  obtain ⟨b, xs, hP⟩ := lw_pre_spec hpre.2.2 hpre.2.1
  obtain ⟨k, o, h1, h2, h3, hQ⟩ := lw_walk l hflags b xs p e ha hc hk s m args below hf ((Spec.applies_iff_loose hf).mp happ).1 hP trivial
  exact ⟨k, o, h1, h2, h3, hQ⟩
theorem lw_frame {s t : State} {o : Outcome} {args : Array Value} (h : State.butDraws s t lw_cs (fun t1 => Framed s o t1 [] 600000 7302250)) :
    State.butDraws s t [Jvm.Choice.named "NaN.bits"] (fun t1 => Framed s o t1 (fieldLocs frame_1_writes args s ++ arrayLocs frame_1_arrays args s ++ staticLocs frame_1_statics s) 600000 7302250) := h
theorem lw_limb (L : Cond) (hL : ∀ (args : Array Value) (s t : State), L.after args s (.returned (some (.int 1))) t = true) :
    ArmFor flags0 classFile x code maxLocals ret World_1 tables_1 room_1 Calls_1 rest_1 Pre_1
      (fun tb e a s o t => postC L tb e a s o t ∧ State.butDraws s t [Jvm.Choice.named "NaN.bits"] (fun t1 => Framed s o t1 (fieldLocs frame_1_writes a s ++ arrayLocs frame_1_arrays a s ++ staticLocs frame_1_statics s) 600000 7302250)) := by
  intro l hflags _ _ p e ha hc hk s m args below hf hfit hheap happ hpre
  obtain ⟨k, o, h1, h2, h3, rfl, hF⟩ := lw_comes l hflags p e ha hc hk s m args below hf hfit hheap happ hpre
  exact ⟨k, _, h1, h2, h3, hL args s _, lw_frame hF⟩
theorem i_vc : Claimed_1_1 ∧ Claimed_1_2 := ⟨lw_limb limb_1_1 (fun args s t => by simp [limb_1_1, Cond.after, Cond.holds, Cond.value]), lw_limb limb_1_2 (fun args s t => Cond.after_iff.mpr (by
  first | (rw [show limb_1_2 = Cond.eq .result (.int 1) from rfl, Cond.eq_ints (x := 1) (y := 1) rfl rfl]; simp; done) | (simp [limb_1_2, Cond.value, Term.eval]; done)))⟩
