theorem dL_law_1017 : Dc cL_law 1017 (.ireturn) 1 1018 := ⟨by decide +kernel, rfl⟩
theorem dL_law_1018 : Dc cL_law 1018 (.iinc 3 5) 3 1021 := ⟨by decide +kernel, rfl⟩
theorem dL_law_1021 : Dc cL_law 1021 (.goto (-1003)) 3 1024 := ⟨by decide +kernel, rfl⟩
theorem dL_law_1024 : Dc cL_law 1024 (.iconst 1) 1 1025 := ⟨by decide +kernel, rfl⟩
theorem dL_law_1025 : Dc cL_law 1025 (.ireturn) 1 1026 := ⟨by decide +kernel, rfl⟩
