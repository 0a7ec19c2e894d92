/-! what the start gives of the enum, its words, the texts -/
def nw : List Cond := flatC (Jvm.Cond.and given_1 narrow_1)
theorem inT0 {w : Cond} (i : Nat) (h : (k2_sels lw_privs)[i]? = some w) : w ∈ lw_tbl := List.mem_append_left _ (List.mem_of_getElem? h)
theorem inT1 {w : Cond} (i : Nat) (h : tables_1_1[i]? = some w) : w ∈ lw_tbl := List.mem_append_right _ (List.mem_append_left _ (List.mem_of_getElem? h))
theorem inT2 {w : Cond} (i : Nat) (h : tables_1_2[i]? = some w) : w ∈ lw_tbl := List.mem_append_right _ (List.mem_append_right _ (List.mem_append_left _ (List.mem_of_getElem? h)))
theorem inT3 {w : Cond} (i : Nat) (h : tables_1_3[i]? = some w) : w ∈ lw_tbl := List.mem_append_right _ (List.mem_append_right _ (List.mem_append_right _ (List.mem_append_left _ (List.mem_of_getElem? h))))
theorem inT4 {w : Cond} (i : Nat) (h : tables_1_4[i]? = some w) : w ∈ lw_tbl := List.mem_append_right _ (List.mem_append_right _ (List.mem_append_right _ (List.mem_append_right _ (List.mem_append_left _ (List.mem_of_getElem? h)))))
theorem inT5 {w : Cond} (i : Nat) (h : tables_1_5[i]? = some w) : w ∈ lw_tbl := List.mem_append_right _ (List.mem_append_right _ (List.mem_append_right _ (List.mem_append_right _ (List.mem_append_right _ (List.mem_of_getElem? h)))))
def nmE : List String := ["RAMP", "RATE", "BUY", "MOVE", "CANCEL", "REFUND", "PASS"]
def dE : String := "LRampPermits$Command;"
def tE0 (i : Nat) : Term := .static RX1 (nmE.getD i "") dE
def tAll : Term := .static RX1 "ALL" "[LRampPermits$Command;"
def tSw : Term := .static RX0 "$SwitchMap$RampPermits$Command" "[I"
def tmL : List Term := [.string RX5 76, .string RX5 86, .string RX1 58, .string RX1 64, .string RX1 67, .string RX1 70, .string RX1 73, .string RX1 76, .string RX1 79]
def tmS (i : Nat) : Term := tmL.getD i (.int 0)
theorem nf_ex : ∀ i, i < 7 → nw[[31, 36, 42, 49, 57, 66, 76].getD i 0]? = some (Cond.exactly (tE0 i) RX1) := by decide +kernel
theorem nf_or : ∀ i, i < 7 → nw[[32, 37, 43, 50, 58, 67, 77].getD i 0]? = some (Cond.eq (.field (tE0 i) RJx29ce0 "ordinal" "I") (.int (nI i))) := by decide +kernel
theorem nf_nm : ∀ i, i < 7 → nw[[34, 39, 45, 52, 60, 69, 79].getD i 0]? = some (Cond.eq (.field (tE0 i) RX1 "numbers" "I") (.int (nmV.getD i 0))) := by decide +kernel
theorem nf_sg : ∀ i, i < 7 → nw[[35, 40, 46, 53, 61, 70, 80].getD i 0]? = some (Cond.eq (.field (tE0 i) RX1 "signed" "I") (.int (sgV.getD i 0))) := by decide +kernel
theorem nf_wd : ∀ i, i < 7 → nw[[33, 38, 44, 51, 59, 68, 78].getD i 0]? = some (Cond.eq (.field (tE0 i) RX1 "word" "Ljava/lang/String;") (tmS (i + 2))) := by decide +kernel
theorem nf_al : ∀ i, i < 7 → nw[[9, 10, 11, 12, 13, 14, 15].getD i 0]? = some (Cond.eq (.elem tAll (.int (Int32.ofNat i))) (tE0 i)) := by decide +kernel
theorem nf_sw : ∀ i, i < 7 → nw[[24, 25, 26, 27, 28, 29, 30].getD i 0]? = some (Cond.eq (.elem tSw (.int (Int32.ofNat i))) (.int (swV.getD i 0))) := by decide +kernel
theorem no_aa : nw[6]? = some (Cond.arrayOf tAll (.object RX1)) := by decide +kernel
theorem no_al : nw[7]? = some (Cond.eq (.length tAll) (.int (Int32.ofNat 7))) := by decide +kernel
theorem no_sa : nw[22]? = some (Cond.arrayOf tSw .int) := by decide +kernel
theorem no_sl : nw[23]? = some (Cond.eq (.length tSw) (.int (Int32.ofNat 7))) := by decide +kernel
theorem no_cs : nw[16]? = some (Cond.eq (.static RJ0 "COMPACT_STRINGS" "Z") (.int 1)) := by decide +kernel
theorem no_sf : nw[17]? = some (Cond.isRef (.static RJ3 "SIOOBE_FORMATTER" "Ljava/util/function/BiFunction;")) := by decide +kernel
theorem ns_ex : ∀ i, i < 9 → nw[[135, 140, 146, 156, 167, 178, 191, 207, 224].getD i 0]? = some (Cond.exactly (tmS i) "java/lang/String") := by decide +kernel
theorem ns_co : ∀ i, i < 9 → nw[[136, 141, 147, 157, 168, 179, 192, 208, 225].getD i 0]? = some (Cond.eq (.field (tmS i) "java/lang/String" "coder" "B") (.int 0)) := by decide +kernel
theorem ns_ar : ∀ i, i < 9 → nw[[137, 142, 148, 158, 169, 180, 193, 209, 226].getD i 0]? = some (Cond.arrayOf (.field (tmS i) "java/lang/String" "value" "[B") .byte) := by decide +kernel
theorem ns_le : ∀ i, i < 9 → nw[[138, 143, 149, 159, 170, 181, 194, 210, 227].getD i 0]? = some (Cond.eq (.length (.field (tmS i) "java/lang/String" "value" "[B")) (.int (Int32.ofNat (txN.getD i 0)))) := by decide +kernel
theorem ns_el : ∀ i, i < 9 → ∀ j, j < txN.getD i 0 → nw[([[139], [144], [150, 151, 152, 153], [160, 161, 162, 163], [171, 172, 173], [182, 183, 184, 185], [195, 196, 197, 198, 199, 200], [211, 212, 213, 214, 215, 216], [228, 229, 230, 231]].getD i []).getD j 0]? = some (Cond.eq (.elem (.field (tmS i) "java/lang/String" "value" "[B") (.int (Int32.ofNat j))) (.int ((txB.getD i []).getD j 0))) := by decide +kernel
theorem ns_ne : ∀ i, i < 9 → ∀ j, j < 9 → i ≠ j → nw[([[0, 145, 154, 164, 174, 186, 201, 217, 232], [145, 0, 155, 165, 175, 187, 202, 218, 233], [154, 155, 0, 166, 176, 188, 203, 219, 234], [164, 165, 166, 0, 177, 189, 204, 220, 235], [174, 175, 176, 177, 0, 190, 205, 221, 236], [186, 187, 188, 189, 190, 0, 206, 222, 237], [201, 202, 203, 204, 205, 206, 0, 223, 238], [217, 218, 219, 220, 221, 222, 223, 0, 239], [232, 233, 234, 235, 236, 237, 238, 239, 0]].getD i []).getD j 0]? = some (Cond.not (Cond.eq (tmS i) (tmS j))) ∨ nw[([[0, 145, 154, 164, 174, 186, 201, 217, 232], [145, 0, 155, 165, 175, 187, 202, 218, 233], [154, 155, 0, 166, 176, 188, 203, 219, 234], [164, 165, 166, 0, 177, 189, 204, 220, 235], [174, 175, 176, 177, 0, 190, 205, 221, 236], [186, 187, 188, 189, 190, 0, 206, 222, 237], [201, 202, 203, 204, 205, 206, 0, 223, 238], [217, 218, 219, 220, 221, 222, 223, 0, 239], [232, 233, 234, 235, 236, 237, 238, 239, 0]].getD i []).getD j 0]? = some (Cond.not (Cond.eq (tmS j) (tmS i))) := by decide +kernel
theorem eq_rf {args : Array Value} {s : State} {t u : Term} {a : Nat} (h : (Cond.eq t u).before args s = true) (hu : u.eval args s none [] s = some (.ref a)) : t.eval args s none [] s = some (.ref a) := by
  cases hv : t.eval args s none [] s with
  | none => simp [Cond.before, Cond.holds, Cond.value, hv, hu] at h
  | some w =>
    simp only [Cond.before, Cond.holds, Cond.value, hv, hu] at h
    cases w <;> simp_all
set_option maxHeartbeats 4000000 in
set_option maxRecDepth 100000 in
/-- the outer world at the start -/
theorem xt_of {args : Array Value} {s : State} (hts : ∀ w ∈ lw_tbl, w.before args s = true) (hgv : (Jvm.Cond.and given_1 narrow_1).before args s = true) : ∃ X : XT, ∀ (l : Launch) (D : va_G) (gAf : Nat → ClassId), Xt (l, D, s.heap.size, gAf, X) s s.heap := by
  have hs0 := flat_of_before _ hgv
  have hs : ∀ {c : Cond} (i : Nat), nw[i]? = some c → c.before args s = true := fun i h => hs0 _ (List.mem_of_getElem? h)
  have hA : ∀ a : Nat, a < s.heap.size → ¬ (fun q : Nat => s.heap.size ≤ q) a := fun a h => Nat.not_le.mpr h
  have h0 : ∀ i : Nat, ∃ t : Nat, i < 7 → (tE0 i).eval args s none [] s = some (.ref t) ∧ va_O RX1 t (fun q : Nat => s.heap.size ≤ q) s s.heap := by
    intro i
    by_cases hi : i < 7
    · obtain ⟨a, c, cell, k, q1, q2, q3, q4, q5, q6, -⟩ := Cond.exactly_spec (hs _ (nf_ex i hi))
      exact ⟨a, fun _ => ⟨q1, cell, q3, q5, by rw [q6]; exact q2, hA a (Array.getElem?_eq_some_iff.mp q3).1⟩⟩
    · exact ⟨0, fun h => absurd h hi⟩
  obtain ⟨ad, had⟩ := Classical.axiomOfChoice h0
  obtain ⟨adK, adV, hSt, hStE⟩ := vk_Sof (args := args) (s := s) (N := 9) (tm := tmS) (len := txN) (byt := txB) (A := fun q : Nat => s.heap.size ≤ q) (by decide) (fun i hi => hs _ (ns_ex i hi)) (fun i hi => hs _ (ns_co i hi)) (fun i hi => hs _ (ns_ar i hi)) (fun i hi => hs _ (ns_le i hi)) (fun i hi j hj => hs _ (ns_el i hi j hj)) (fun i j hi hj hne => (ns_ne i hi j hj hne).imp (fun h => hs _ h) (fun h => hs _ h)) hA
  obtain ⟨tA, hAe, hAT⟩ := va_Tof (args := args) (s := s) (tm := tAll) (ty := .object RX1) (N := 7) (f := fun j => .ref (ad j)) (A := fun q : Nat => s.heap.size ≤ q) (by decide) (hs _ no_aa) (va_eqt (hs _ no_al)) (fun j hj => eq_rf (hs _ (nf_al j hj)) (had j hj).1) hA
  obtain ⟨tW, hWe, hWT⟩ := va_Tof (args := args) (s := s) (tm := tSw) (ty := .int) (N := 7) (f := fun j => .int (swV.getD j 0)) (A := fun q : Nat => s.heap.size ≤ q) (by decide) (hs _ no_sa) (va_eqt (hs _ no_sl)) (fun j hj => va_eqt (hs _ (nf_sw j hj))) hA
  refine ⟨(tA, tW, ad, adK, adV), fun l D gAf => ⟨⟨va_Zref (hts _ (inT3 107 rfl)) (hts _ (inT1 14 rfl)) hAe hA, hAT, va_Zref (hts _ (inT3 177 rfl)) (hts _ (inT1 19 rfl)) hWe hA, hWT, fun i hi => ⟨(had i hi).2, vk_OFof (had i hi).1 (eq_rf (hs _ (nf_wd i hi)) (hStE (i + 2) (by omega))) hA, vk_OFof (had i hi).1 (va_eqt (hs _ (nf_nm i hi))) hA, vk_OFof (had i hi).1 (va_eqt (hs _ (nf_sg i hi))) hA, vk_OFof (had i hi).1 (va_eqt (hs _ (nf_or i hi))) hA⟩, hSt, va_Zof (hts _ (inT3 121 rfl)) (hts _ (inT1 15 rfl)) (va_eqi (hs _ no_cs)) hA, va_Zqof (hts _ (inT3 137 rfl)) (hts _ (inT1 17 rfl)) (hs _ no_sf) hA⟩, ?_, va_Nw.of rfl (hts _ (inT3 106 rfl)), vk_R.of (hts _ (inT3 161 rfl)) (hStE 0 (by decide)), vk_R.of (hts _ (inT3 166 rfl)) (hStE 1 (by decide))⟩⟩
  exact List.forall_mem_cons.mpr ⟨va_Nw.of rfl (hts _ (inT1 42 rfl)), List.forall_mem_cons.mpr ⟨va_Nw.of rfl (hts _ (inT1 66 rfl)), List.forall_mem_cons.mpr ⟨va_Nw.of rfl (hts _ (inT1 86 rfl)), List.forall_mem_cons.mpr ⟨va_Nw.of rfl (hts _ (inT1 107 rfl)), List.forall_mem_cons.mpr ⟨va_Nw.of rfl (hts _ (inT1 216 rfl)), List.forall_mem_cons.mpr ⟨va_Nw.of rfl (hts _ (inT1 222 rfl)), List.forall_mem_cons.mpr ⟨va_Nw.of rfl (hts _ (inT2 79 rfl)), List.forall_mem_cons.mpr ⟨va_Nw.of rfl (hts _ (inT2 132 rfl)), List.forall_mem_cons.mpr ⟨va_Nw.of rfl (hts _ (inT2 142 rfl)), List.forall_mem_cons.mpr ⟨va_Nw.of rfl (hts _ (inT3 36 rfl)), List.forall_mem_cons.mpr ⟨va_Nw.of rfl (hts _ (inT3 191 rfl)), List.forall_mem_cons.mpr ⟨va_Nw.of rfl (hts _ (inT2 44 rfl)), fun _ h => absurd h List.not_mem_nil⟩⟩⟩⟩⟩⟩⟩⟩⟩⟩⟩⟩
