theorem fg_RX10_19 : FG RX10 19 3 0 (none) := ⟨8, _, RX10, TX10, rfl, rfl, rfl, fw_RX10, fl_RX10_19, rfl, by decide⟩
theorem pg_RX10_19 : PG RX10 19 3 0 .int := ⟨fg_RX10_19, 8, _, RX10, TX10, tyX10, rfl, rfl, tyX10_ok, nmX10, rfl, by decide +kernel⟩
theorem fg_RX8_39 : FG RX8 39 3 0 (none) := ⟨8, _, RX10, TX10, rfl, rfl, rfl, fw_RX10, fl_RX8_39, rfl, by decide⟩
theorem pg_RX8_39 : PG RX8 39 3 0 .int := ⟨fg_RX8_39, 8, _, RX10, TX10, tyX10, rfl, rfl, tyX10_ok, nmX10, rfl, by decide +kernel⟩
theorem fg_RX7_89 : FG RX7 89 3 0 (none) := ⟨8, _, RX10, TX10, rfl, rfl, rfl, fw_RX10, fl_RX7_89, rfl, by decide⟩
theorem pg_RX7_89 : PG RX7 89 3 0 .int := ⟨fg_RX7_89, 8, _, RX10, TX10, tyX10, rfl, rfl, tyX10_ok, nmX10, rfl, by decide +kernel⟩
theorem fg_RX11_140 : FG RX11 140 3 0 (none) := ⟨8, _, RX10, TX10, rfl, rfl, rfl, fw_RX10, fl_RX11_140, rfl, by decide⟩
theorem pg_RX11_140 : PG RX11 140 3 0 .int := ⟨fg_RX11_140, 8, _, RX10, TX10, tyX10, rfl, rfl, tyX10_ok, nmX10, rfl, by decide +kernel⟩
theorem fg_RX10_9 : FG RX10 9 3 1 (none) := ⟨8, _, RX10, TX10, rfl, rfl, rfl, fw_RX10, fl_RX10_9, rfl, by decide⟩
theorem pg_RX10_9 : PG RX10 9 3 1 .int := ⟨fg_RX10_9, 8, _, RX10, TX10, tyX10, rfl, rfl, tyX10_ok, nmX10, rfl, by decide +kernel⟩
theorem fg_RX7_64 : FG RX7 64 3 1 (none) := ⟨8, _, RX10, TX10, rfl, rfl, rfl, fw_RX10, fl_RX7_64, rfl, by decide⟩
theorem pg_RX7_64 : PG RX7 64 3 1 .int := ⟨fg_RX7_64, 8, _, RX10, TX10, tyX10, rfl, rfl, tyX10_ok, nmX10, rfl, by decide +kernel⟩
theorem fg_RX11_145 : FG RX11 145 3 1 (none) := ⟨8, _, RX10, TX10, rfl, rfl, rfl, fw_RX10, fl_RX11_145, rfl, by decide⟩
theorem pg_RX11_145 : PG RX11 145 3 1 .int := ⟨fg_RX11_145, 8, _, RX10, TX10, tyX10, rfl, rfl, tyX10_ok, nmX10, rfl, by decide +kernel⟩
theorem fg_RX10_15 : FG RX10 15 3 2 (some 1) := ⟨8, _, RX10, TX10, rfl, rfl, rfl, fw_RX10, fl_RX10_15, rfl, by decide⟩
theorem fg_RX7_67 : FG RX7 67 3 2 (some 1) := ⟨8, _, RX10, TX10, rfl, rfl, rfl, fw_RX10, fl_RX7_67, rfl, by decide⟩
theorem fg_RX11_218 : FG RX11 218 3 2 (some 1) := ⟨8, _, RX10, TX10, rfl, rfl, rfl, fw_RX10, fl_RX11_218, rfl, by decide⟩
theorem fg_RX2_9 : FG RX2 9 5 0 (some 1) := ⟨0, _, RX2, TX2, rfl, rfl, rfl, fw_RX2, fl_RX2_9, rfl, by decide⟩
theorem fg_RX2_15 : FG RX2 15 5 1 (some 2) := ⟨0, _, RX2, TX2, rfl, rfl, rfl, fw_RX2, fl_RX2_15, rfl, by decide⟩
theorem fg_RX2_24 : FG RX2 24 5 2 (none) := ⟨0, _, RX2, TX2, rfl, rfl, rfl, fw_RX2, fl_RX2_24, rfl, by decide⟩
theorem pg_RX2_24 : PG RX2 24 5 2 .int := ⟨fg_RX2_24, 0, _, RX2, TX2, tyX2, rfl, rfl, tyX2_ok, nmX2, rfl, by decide +kernel⟩
theorem fg_RX11_215 : FG RX11 215 5 2 (none) := ⟨0, _, RX2, TX2, rfl, rfl, rfl, fw_RX2, fl_RX11_215, rfl, by decide⟩
theorem pg_RX11_215 : PG RX11 215 5 2 .int := ⟨fg_RX11_215, 0, _, RX2, TX2, tyX2, rfl, rfl, tyX2_ok, nmX2, rfl, by decide +kernel⟩
theorem fg_RX6_9 : FG RX6 9 9 0 (none) := ⟨4, _, RX6, TX6, rfl, rfl, rfl, fw_RX6, fl_RX6_9, rfl, by decide⟩
theorem pg_RX6_9 : PG RX6 9 9 0 .int := ⟨fg_RX6_9, 4, _, RX6, TX6, tyX6, rfl, rfl, tyX6_ok, nmX6, rfl, by decide +kernel⟩
theorem fg_RX7_72 : FG RX7 72 9 0 (none) := ⟨4, _, RX6, TX6, rfl, rfl, rfl, fw_RX6, fl_RX7_72, rfl, by decide⟩
theorem pg_RX7_72 : PG RX7 72 9 0 .int := ⟨fg_RX7_72, 4, _, RX6, TX6, tyX6, rfl, rfl, tyX6_ok, nmX6, rfl, by decide +kernel⟩
theorem fg_RX11_177 : FG RX11 177 9 0 (none) := ⟨4, _, RX6, TX6, rfl, rfl, rfl, fw_RX6, fl_RX11_177, rfl, by decide⟩
theorem pg_RX11_177 : PG RX11 177 9 0 .int := ⟨fg_RX11_177, 4, _, RX6, TX6, tyX6, rfl, rfl, tyX6_ok, nmX6, rfl, by decide +kernel⟩
theorem fg_RX6_15 : FG RX6 15 9 1 (none) := ⟨4, _, RX6, TX6, rfl, rfl, rfl, fw_RX6, fl_RX6_15, rfl, by decide⟩
theorem pg_RX6_15 : PG RX6 15 9 1 .int := ⟨fg_RX6_15, 4, _, RX6, TX6, tyX6, rfl, rfl, tyX6_ok, nmX6, rfl, by decide +kernel⟩
theorem fg_RX7_75 : FG RX7 75 9 1 (none) := ⟨4, _, RX6, TX6, rfl, rfl, rfl, fw_RX6, fl_RX7_75, rfl, by decide⟩
theorem pg_RX7_75 : PG RX7 75 9 1 .int := ⟨fg_RX7_75, 4, _, RX6, TX6, tyX6, rfl, rfl, tyX6_ok, nmX6, rfl, by decide +kernel⟩
theorem fg_RX11_182 : FG RX11 182 9 1 (none) := ⟨4, _, RX6, TX6, rfl, rfl, rfl, fw_RX6, fl_RX11_182, rfl, by decide⟩
theorem pg_RX11_182 : PG RX11 182 9 1 .int := ⟨fg_RX11_182, 4, _, RX6, TX6, tyX6, rfl, rfl, tyX6_ok, nmX6, rfl, by decide +kernel⟩
theorem fg_RX6_18 : FG RX6 18 9 2 (none) := ⟨4, _, RX6, TX6, rfl, rfl, rfl, fw_RX6, fl_RX6_18, rfl, by decide⟩
theorem pg_RX6_18 : PG RX6 18 9 2 .int := ⟨fg_RX6_18, 4, _, RX6, TX6, tyX6, rfl, rfl, tyX6_ok, nmX6, rfl, by decide +kernel⟩
theorem fg_RX7_78 : FG RX7 78 9 2 (none) := ⟨4, _, RX6, TX6, rfl, rfl, rfl, fw_RX6, fl_RX7_78, rfl, by decide⟩
theorem pg_RX7_78 : PG RX7 78 9 2 .int := ⟨fg_RX7_78, 4, _, RX6, TX6, tyX6, rfl, rfl, tyX6_ok, nmX6, rfl, by decide +kernel⟩
theorem fg_RX11_185 : FG RX11 185 9 2 (none) := ⟨4, _, RX6, TX6, rfl, rfl, rfl, fw_RX6, fl_RX11_185, rfl, by decide⟩
theorem pg_RX11_185 : PG RX11 185 9 2 .int := ⟨fg_RX11_185, 4, _, RX6, TX6, tyX6, rfl, rfl, tyX6_ok, nmX6, rfl, by decide +kernel⟩
theorem fg_RX4_9 : FG RX4 9 10 0 (none) := ⟨2, _, RX4, TX4, rfl, rfl, rfl, fw_RX4, fl_RX4_9, rfl, by decide⟩
theorem pg_RX4_9 : PG RX4 9 10 0 .int := ⟨fg_RX4_9, 2, _, RX4, TX4, tyX4, rfl, rfl, tyX4_ok, nmX4, rfl, by decide +kernel⟩
theorem fg_RX7_108 : FG RX7 108 10 0 (none) := ⟨2, _, RX4, TX4, rfl, rfl, rfl, fw_RX4, fl_RX7_108, rfl, by decide⟩
theorem pg_RX7_108 : PG RX7 108 10 0 .int := ⟨fg_RX7_108, 2, _, RX4, TX4, tyX4, rfl, rfl, tyX4_ok, nmX4, rfl, by decide +kernel⟩
theorem fg_RX4_15 : FG RX4 15 10 1 (none) := ⟨2, _, RX4, TX4, rfl, rfl, rfl, fw_RX4, fl_RX4_15, rfl, by decide⟩
theorem pg_RX4_15 : PG RX4 15 10 1 .int := ⟨fg_RX4_15, 2, _, RX4, TX4, tyX4, rfl, rfl, tyX4_ok, nmX4, rfl, by decide +kernel⟩
theorem fg_RX4_18 : FG RX4 18 10 2 (none) := ⟨2, _, RX4, TX4, rfl, rfl, rfl, fw_RX4, fl_RX4_18, rfl, by decide⟩
theorem pg_RX4_18 : PG RX4 18 10 2 .int := ⟨fg_RX4_18, 2, _, RX4, TX4, tyX4, rfl, rfl, tyX4_ok, nmX4, rfl, by decide +kernel⟩
theorem fg_RX7_111 : FG RX7 111 10 2 (none) := ⟨2, _, RX4, TX4, rfl, rfl, rfl, fw_RX4, fl_RX7_111, rfl, by decide⟩
theorem pg_RX7_111 : PG RX7 111 10 2 .int := ⟨fg_RX7_111, 2, _, RX4, TX4, tyX4, rfl, rfl, tyX4_ok, nmX4, rfl, by decide +kernel⟩
theorem fg_RX4_21 : FG RX4 21 10 3 (none) := ⟨2, _, RX4, TX4, rfl, rfl, rfl, fw_RX4, fl_RX4_21, rfl, by decide⟩
theorem pg_RX4_21 : PG RX4 21 10 3 .int := ⟨fg_RX4_21, 2, _, RX4, TX4, tyX4, rfl, rfl, tyX4_ok, nmX4, rfl, by decide +kernel⟩
theorem fg_RX7_114 : FG RX7 114 10 3 (none) := ⟨2, _, RX4, TX4, rfl, rfl, rfl, fw_RX4, fl_RX7_114, rfl, by decide⟩
theorem pg_RX7_114 : PG RX7 114 10 3 .int := ⟨fg_RX7_114, 2, _, RX4, TX4, tyX4, rfl, rfl, tyX4_ok, nmX4, rfl, by decide +kernel⟩
theorem fg_RX4_24 : FG RX4 24 10 4 (none) := ⟨2, _, RX4, TX4, rfl, rfl, rfl, fw_RX4, fl_RX4_24, rfl, by decide⟩
theorem pg_RX4_24 : PG RX4 24 10 4 .int := ⟨fg_RX4_24, 2, _, RX4, TX4, tyX4, rfl, rfl, tyX4_ok, nmX4, rfl, by decide +kernel⟩
theorem fg_RX7_175 : FG RX7 175 10 4 (none) := ⟨2, _, RX4, TX4, rfl, rfl, rfl, fw_RX4, fl_RX7_175, rfl, by decide⟩
theorem pg_RX7_175 : PG RX7 175 10 4 .int := ⟨fg_RX7_175, 2, _, RX4, TX4, tyX4, rfl, rfl, tyX4_ok, nmX4, rfl, by decide +kernel⟩
theorem fg_RX11_242 : FG RX11 242 10 4 (none) := ⟨2, _, RX4, TX4, rfl, rfl, rfl, fw_RX4, fl_RX11_242, rfl, by decide⟩
theorem pg_RX11_242 : PG RX11 242 10 4 .int := ⟨fg_RX11_242, 2, _, RX4, TX4, tyX4, rfl, rfl, tyX4_ok, nmX4, rfl, by decide +kernel⟩
theorem fg_RX4_27 : FG RX4 27 10 5 (none) := ⟨2, _, RX4, TX4, rfl, rfl, rfl, fw_RX4, fl_RX4_27, rfl, by decide⟩
theorem pg_RX4_27 : PG RX4 27 10 5 .int := ⟨fg_RX4_27, 2, _, RX4, TX4, tyX4, rfl, rfl, tyX4_ok, nmX4, rfl, by decide +kernel⟩
theorem fg_RX4_30 : FG RX4 30 10 6 (none) := ⟨2, _, RX4, TX4, rfl, rfl, rfl, fw_RX4, fl_RX4_30, rfl, by decide⟩
theorem pg_RX4_30 : PG RX4 30 10 6 .int := ⟨fg_RX4_30, 2, _, RX4, TX4, tyX4, rfl, rfl, tyX4_ok, nmX4, rfl, by decide +kernel⟩
theorem fg_RX4_33 : FG RX4 33 10 7 (none) := ⟨2, _, RX4, TX4, rfl, rfl, rfl, fw_RX4, fl_RX4_33, rfl, by decide⟩
theorem pg_RX4_33 : PG RX4 33 10 7 .int := ⟨fg_RX4_33, 2, _, RX4, TX4, tyX4, rfl, rfl, tyX4_ok, nmX4, rfl, by decide +kernel⟩
theorem fg_RX7_129 : FG RX7 129 10 7 (none) := ⟨2, _, RX4, TX4, rfl, rfl, rfl, fw_RX4, fl_RX7_129, rfl, by decide⟩
theorem pg_RX7_129 : PG RX7 129 10 7 .int := ⟨fg_RX7_129, 2, _, RX4, TX4, tyX4, rfl, rfl, tyX4_ok, nmX4, rfl, by decide +kernel⟩
theorem fg_RX11_239 : FG RX11 239 10 7 (none) := ⟨2, _, RX4, TX4, rfl, rfl, rfl, fw_RX4, fl_RX11_239, rfl, by decide⟩
theorem pg_RX11_239 : PG RX11 239 10 7 .int := ⟨fg_RX11_239, 2, _, RX4, TX4, tyX4, rfl, rfl, tyX4_ok, nmX4, rfl, by decide +kernel⟩
theorem fg_RX4_36 : FG RX4 36 10 8 (none) := ⟨2, _, RX4, TX4, rfl, rfl, rfl, fw_RX4, fl_RX4_36, rfl, by decide⟩
theorem pg_RX4_36 : PG RX4 36 10 8 .int := ⟨fg_RX4_36, 2, _, RX4, TX4, tyX4, rfl, rfl, tyX4_ok, nmX4, rfl, by decide +kernel⟩
theorem fg_RX4_39 : FG RX4 39 10 9 (none) := ⟨2, _, RX4, TX4, rfl, rfl, rfl, fw_RX4, fl_RX4_39, rfl, by decide⟩
theorem pg_RX4_39 : PG RX4 39 10 9 .int := ⟨fg_RX4_39, 2, _, RX4, TX4, tyX4, rfl, rfl, tyX4_ok, nmX4, rfl, by decide +kernel⟩
theorem fg_RX4_42 : FG RX4 42 10 10 (none) := ⟨2, _, RX4, TX4, rfl, rfl, rfl, fw_RX4, fl_RX4_42, rfl, by decide⟩
theorem pg_RX4_42 : PG RX4 42 10 10 .int := ⟨fg_RX4_42, 2, _, RX4, TX4, tyX4, rfl, rfl, tyX4_ok, nmX4, rfl, by decide +kernel⟩
theorem fg_RX4_45 : FG RX4 45 10 11 (none) := ⟨2, _, RX4, TX4, rfl, rfl, rfl, fw_RX4, fl_RX4_45, rfl, by decide⟩
theorem pg_RX4_45 : PG RX4 45 10 11 .boolean := ⟨fg_RX4_45, 2, _, RX4, TX4, tyX4, rfl, rfl, tyX4_ok, nmX4, rfl, by decide +kernel⟩
theorem fg_RX7_12 : FG RX7 12 2 0 (some 1) := ⟨5, _, RX7, TX7, rfl, rfl, rfl, fw_RX7, fl_RX7_12, rfl, by decide⟩
theorem fg_RX8_35 : FG RX8 35 2 0 (some 1) := ⟨5, _, RX7, TX7, rfl, rfl, rfl, fw_RX7, fl_RX8_35, rfl, by decide⟩
theorem fg_RX11_136 : FG RX11 136 2 0 (some 1) := ⟨5, _, RX7, TX7, rfl, rfl, rfl, fw_RX7, fl_RX11_136, rfl, by decide⟩
theorem fg_RX7_21 : FG RX7 21 2 1 (some 3) := ⟨5, _, RX7, TX7, rfl, rfl, rfl, fw_RX7, fl_RX7_21, rfl, by decide⟩
theorem fg_RX11_58 : FG RX11 58 2 1 (some 3) := ⟨5, _, RX7, TX7, rfl, rfl, rfl, fw_RX7, fl_RX11_58, rfl, by decide⟩
theorem fg_RX7_27 : FG RX7 27 2 2 (some 6) := ⟨5, _, RX7, TX7, rfl, rfl, rfl, fw_RX7, fl_RX7_27, rfl, by decide⟩
theorem fg_RX11_173 : FG RX11 173 2 2 (some 6) := ⟨5, _, RX7, TX7, rfl, rfl, rfl, fw_RX7, fl_RX11_173, rfl, by decide⟩
theorem fg_RX7_33 : FG RX7 33 2 3 (some 7) := ⟨5, _, RX7, TX7, rfl, rfl, rfl, fw_RX7, fl_RX7_33, rfl, by decide⟩
theorem fg_RX11_200 : FG RX11 200 2 3 (some 7) := ⟨5, _, RX7, TX7, rfl, rfl, rfl, fw_RX7, fl_RX11_200, rfl, by decide⟩
theorem fg_RX7_46 : FG RX7 46 2 4 (none) := ⟨5, _, RX7, TX7, rfl, rfl, rfl, fw_RX7, fl_RX7_46, rfl, by decide⟩
theorem pg_RX7_46 : PG RX7 46 2 4 .int := ⟨fg_RX7_46, 5, _, RX7, TX7, tyX7, rfl, rfl, tyX7_ok, nmX7, rfl, by decide +kernel⟩
theorem fg_RX11_148 : FG RX11 148 2 4 (none) := ⟨5, _, RX7, TX7, rfl, rfl, rfl, fw_RX7, fl_RX11_148, rfl, by decide⟩
theorem pg_RX11_148 : PG RX11 148 2 4 .int := ⟨fg_RX11_148, 5, _, RX7, TX7, tyX7, rfl, rfl, tyX7_ok, nmX7, rfl, by decide +kernel⟩
theorem fg_RX7_53 : FG RX7 53 2 5 (none) := ⟨5, _, RX7, TX7, rfl, rfl, rfl, fw_RX7, fl_RX7_53, rfl, by decide⟩
theorem pg_RX7_53 : PG RX7 53 2 5 .int := ⟨fg_RX7_53, 5, _, RX7, TX7, tyX7, rfl, rfl, tyX7_ok, nmX7, rfl, by decide +kernel⟩
theorem fg_RX11_151 : FG RX11 151 2 5 (none) := ⟨5, _, RX7, TX7, rfl, rfl, rfl, fw_RX7, fl_RX11_151, rfl, by decide⟩
theorem pg_RX11_151 : PG RX11 151 2 5 .int := ⟨fg_RX11_151, 5, _, RX7, TX7, tyX7, rfl, rfl, tyX7_ok, nmX7, rfl, by decide +kernel⟩
theorem fg_RX8_12 : FG RX8 12 1 0 (some 1) := ⟨6, _, RX8, TX8, rfl, rfl, rfl, fw_RX8, fl_RX8_12, rfl, by decide⟩
theorem fg_RX11_34 : FG RX11 34 1 0 (some 1) := ⟨6, _, RX8, TX8, rfl, rfl, rfl, fw_RX8, fl_RX11_34, rfl, by decide⟩
theorem fg_RX8_18 : FG RX8 18 1 1 (some 25) := ⟨6, _, RX8, TX8, rfl, rfl, rfl, fw_RX8, fl_RX8_18, rfl, by decide⟩
theorem fg_RX8_22 : FG RX8 22 1 2 (some 26) := ⟨6, _, RX8, TX8, rfl, rfl, rfl, fw_RX8, fl_RX8_22, rfl, by decide⟩
theorem fg_RX3_11 : FG RX3 11 13 0 (some 1) := ⟨1, _, RX3, TX3, rfl, rfl, rfl, fw_RX3, fl_RX3_11, rfl, by decide⟩
theorem fg_RX3_26 : FG RX3 26 13 1 (none) := ⟨1, _, RX3, TX3, rfl, rfl, rfl, fw_RX3, fl_RX3_26, rfl, by decide⟩
theorem pg_RX3_26 : PG RX3 26 13 1 .int := ⟨fg_RX3_26, 1, _, RX3, TX3, tyX3, rfl, rfl, tyX3_ok, nmX3, rfl, by decide +kernel⟩
theorem fg_RX3_34 : FG RX3 34 13 2 (none) := ⟨1, _, RX3, TX3, rfl, rfl, rfl, fw_RX3, fl_RX3_34, rfl, by decide⟩
theorem pg_RX3_34 : PG RX3 34 13 2 .int := ⟨fg_RX3_34, 1, _, RX3, TX3, tyX3, rfl, rfl, tyX3_ok, nmX3, rfl, by decide +kernel⟩
theorem fg_RX11_92 : FG RX11 92 13 2 (none) := ⟨1, _, RX3, TX3, rfl, rfl, rfl, fw_RX3, fl_RX11_92, rfl, by decide⟩
theorem pg_RX11_92 : PG RX11 92 13 2 .int := ⟨fg_RX11_92, 1, _, RX3, TX3, tyX3, rfl, rfl, tyX3_ok, nmX3, rfl, by decide +kernel⟩
theorem fg_RX9_9 : FG RX9 9 16 0 (some 1) := ⟨7, _, RX9, TX9, rfl, rfl, rfl, fw_RX9, fl_RX9_9, rfl, by decide⟩
theorem fg_RX9_15 : FG RX9 15 16 1 (none) := ⟨7, _, RX9, TX9, rfl, rfl, rfl, fw_RX9, fl_RX9_15, rfl, by decide⟩
theorem pg_RX9_15 : PG RX9 15 16 1 .int := ⟨fg_RX9_15, 7, _, RX9, TX9, tyX9, rfl, rfl, tyX9_ok, nmX9, rfl, by decide +kernel⟩
theorem fg_RX11_160 : FG RX11 160 16 1 (none) := ⟨7, _, RX9, TX9, rfl, rfl, rfl, fw_RX9, fl_RX11_160, rfl, by decide⟩
theorem pg_RX11_160 : PG RX11 160 16 1 .int := ⟨fg_RX11_160, 7, _, RX9, TX9, tyX9, rfl, rfl, tyX9_ok, nmX9, rfl, by decide +kernel⟩
theorem fg_RX5_33 : FG RX5 33 16 2 (none) := ⟨7, _, RX9, TX9, rfl, rfl, rfl, fw_RX9, fl_RX5_33, rfl, by decide⟩
theorem pg_RX5_33 : PG RX5 33 16 2 .int := ⟨fg_RX5_33, 7, _, RX9, TX9, tyX9, rfl, rfl, tyX9_ok, nmX9, rfl, by decide +kernel⟩
theorem fg_RX9_26 : FG RX9 26 16 2 (none) := ⟨7, _, RX9, TX9, rfl, rfl, rfl, fw_RX9, fl_RX9_26, rfl, by decide⟩
theorem pg_RX9_26 : PG RX9 26 16 2 .int := ⟨fg_RX9_26, 7, _, RX9, TX9, tyX9, rfl, rfl, tyX9_ok, nmX9, rfl, by decide +kernel⟩
theorem fg_RX9_20 : FG RX9 20 16 3 (none) := ⟨7, _, RX9, TX9, rfl, rfl, rfl, fw_RX9, fl_RX9_20, rfl, by decide⟩
theorem pg_RX9_20 : PG RX9 20 16 3 .int := ⟨fg_RX9_20, 7, _, RX9, TX9, tyX9, rfl, rfl, tyX9_ok, nmX9, rfl, by decide +kernel⟩
theorem fg_RX5_12 : FG RX5 12 15 0 (some 1) := ⟨3, _, RX5, TX5, rfl, rfl, rfl, fw_RX5, fl_RX5_12, rfl, by decide⟩
theorem fg_RX11_112 : FG RX11 112 15 0 (some 1) := ⟨3, _, RX5, TX5, rfl, rfl, rfl, fw_RX5, fl_RX11_112, rfl, by decide⟩
theorem fg_RX5_18 : FG RX5 18 15 1 (some 3) := ⟨3, _, RX5, TX5, rfl, rfl, rfl, fw_RX5, fl_RX5_18, rfl, by decide⟩
theorem fg_RX5_22 : FG RX5 22 15 2 (none) := ⟨3, _, RX5, TX5, rfl, rfl, rfl, fw_RX5, fl_RX5_22, rfl, by decide⟩
theorem pg_RX5_22 : PG RX5 22 15 2 .int := ⟨fg_RX5_22, 3, _, RX5, TX5, tyX5, rfl, rfl, tyX5_ok, nmX5, rfl, by decide +kernel⟩
theorem fg_RX5_54 : FG RX5 54 15 3 (none) := ⟨3, _, RX5, TX5, rfl, rfl, rfl, fw_RX5, fl_RX5_54, rfl, by decide⟩
theorem pg_RX5_54 : PG RX5 54 15 3 .int := ⟨fg_RX5_54, 3, _, RX5, TX5, tyX5, rfl, rfl, tyX5_ok, nmX5, rfl, by decide +kernel⟩
theorem fg_RX5_57 : FG RX5 57 15 4 (none) := ⟨3, _, RX5, TX5, rfl, rfl, rfl, fw_RX5, fl_RX5_57, rfl, by decide⟩
theorem pg_RX5_57 : PG RX5 57 15 4 .int := ⟨fg_RX5_57, 3, _, RX5, TX5, tyX5, rfl, rfl, tyX5_ok, nmX5, rfl, by decide +kernel⟩
theorem fg_RX5_60 : FG RX5 60 15 5 (none) := ⟨3, _, RX5, TX5, rfl, rfl, rfl, fw_RX5, fl_RX5_60, rfl, by decide⟩
theorem pg_RX5_60 : PG RX5 60 15 5 .int := ⟨fg_RX5_60, 3, _, RX5, TX5, tyX5, rfl, rfl, tyX5_ok, nmX5, rfl, by decide +kernel⟩
theorem fg_RX11_10 : FG RX11 10 0 0 (some 1) := ⟨9, _, RX11, TX11, rfl, rfl, rfl, fw_RX11, fl_RX11_10, rfl, by decide⟩
theorem fg_RX11_19 : FG RX11 19 0 1 (some 76) := ⟨9, _, RX11, TX11, rfl, rfl, rfl, fw_RX11, fl_RX11_19, rfl, by decide⟩
theorem fg_RX11_26 : FG RX11 26 0 2 (some 528) := ⟨9, _, RX11, TX11, rfl, rfl, rfl, fw_RX11, fl_RX11_26, rfl, by decide⟩
theorem fg_RX12_31 : FG RX12 31 19 0 (none) := ⟨10, _, RX12, TX12, rfl, rfl, rfl, fw_RX12, fl_RX12_31, rfl, by decide⟩
theorem pg_RX12_31 : PG RX12 31 19 0 .int := ⟨fg_RX12_31, 10, _, RX12, TX12, tyX12, rfl, rfl, tyX12_ok, nmX12, rfl, by decide +kernel⟩
theorem fg_RX12_7 : FG RX12 7 19 1 (some 1) := ⟨10, _, RX12, TX12, rfl, rfl, rfl, fw_RX12, fl_RX12_7, rfl, by decide⟩
theorem fg_RX12_13 : FG RX12 13 19 2 (some 2) := ⟨10, _, RX12, TX12, rfl, rfl, rfl, fw_RX12, fl_RX12_13, rfl, by decide⟩
theorem fg_RX12_16 : FG RX12 16 19 3 (some 3) := ⟨10, _, RX12, TX12, rfl, rfl, rfl, fw_RX12, fl_RX12_16, rfl, by decide⟩
theorem fg_RX12_35 : FG RX12 35 19 4 (none) := ⟨10, _, RX12, TX12, rfl, rfl, rfl, fw_RX12, fl_RX12_35, rfl, by decide⟩
theorem pg_RX12_35 : PG RX12 35 19 4 .int := ⟨fg_RX12_35, 10, _, RX12, TX12, tyX12, rfl, rfl, tyX12_ok, nmX12, rfl, by decide +kernel⟩
theorem fg_RX12_19 : FG RX12 19 19 5 (some 4) := ⟨10, _, RX12, TX12, rfl, rfl, rfl, fw_RX12, fl_RX12_19, rfl, by decide⟩
theorem fg_RX12_22 : FG RX12 22 19 6 (some 5) := ⟨10, _, RX12, TX12, rfl, rfl, rfl, fw_RX12, fl_RX12_22, rfl, by decide⟩
theorem fg_RX12_155 : FG RX12 155 19 7 (none) := ⟨10, _, RX12, TX12, rfl, rfl, rfl, fw_RX12, fl_RX12_155, rfl, by decide⟩
theorem pg_RX12_155 : PG RX12 155 19 7 .int := ⟨fg_RX12_155, 10, _, RX12, TX12, tyX12, rfl, rfl, tyX12_ok, nmX12, rfl, by decide +kernel⟩
theorem fg_RX12_25 : FG RX12 25 19 8 (some 6) := ⟨10, _, RX12, TX12, rfl, rfl, rfl, fw_RX12, fl_RX12_25, rfl, by decide⟩
theorem fg_RX12_28 : FG RX12 28 19 9 (some 7) := ⟨10, _, RX12, TX12, rfl, rfl, rfl, fw_RX12, fl_RX12_28, rfl, by decide⟩
theorem fg_RX12_174 : FG RX12 174 19 10 (none) := ⟨10, _, RX12, TX12, rfl, rfl, rfl, fw_RX12, fl_RX12_174, rfl, by decide⟩
theorem pg_RX12_174 : PG RX12 174 19 10 .boolean := ⟨fg_RX12_174, 10, _, RX12, TX12, tyX12, rfl, rfl, tyX12_ok, nmX12, rfl, by decide +kernel⟩
theorem fg_RX12_167 : FG RX12 167 19 11 (none) := ⟨10, _, RX12, TX12, rfl, rfl, rfl, fw_RX12, fl_RX12_167, rfl, by decide⟩
theorem pg_RX12_167 : PG RX12 167 19 11 .int := ⟨fg_RX12_167, 10, _, RX12, TX12, tyX12, rfl, rfl, tyX12_ok, nmX12, rfl, by decide +kernel⟩
theorem fg_RX12_161 : FG RX12 161 19 12 (none) := ⟨10, _, RX12, TX12, rfl, rfl, rfl, fw_RX12, fl_RX12_161, rfl, by decide⟩
theorem pg_RX12_161 : PG RX12 161 19 12 .int := ⟨fg_RX12_161, 10, _, RX12, TX12, tyX12, rfl, rfl, tyX12_ok, nmX12, rfl, by decide +kernel⟩
theorem fg_RX12_158 : FG RX12 158 19 13 (none) := ⟨10, _, RX12, TX12, rfl, rfl, rfl, fw_RX12, fl_RX12_158, rfl, by decide⟩
theorem pg_RX12_158 : PG RX12 158 19 13 .int := ⟨fg_RX12_158, 10, _, RX12, TX12, tyX12, rfl, rfl, tyX12_ok, nmX12, rfl, by decide +kernel⟩
theorem fg_RX12_170 : FG RX12 170 19 14 (none) := ⟨10, _, RX12, TX12, rfl, rfl, rfl, fw_RX12, fl_RX12_170, rfl, by decide⟩
theorem pg_RX12_170 : PG RX12 170 19 14 .boolean := ⟨fg_RX12_170, 10, _, RX12, TX12, tyX12, rfl, rfl, tyX12_ok, nmX12, rfl, by decide +kernel⟩
theorem fg_RX12_177 : FG RX12 177 19 15 (none) := ⟨10, _, RX12, TX12, rfl, rfl, rfl, fw_RX12, fl_RX12_177, rfl, by decide⟩
theorem pg_RX12_177 : PG RX12 177 19 15 .int := ⟨fg_RX12_177, 10, _, RX12, TX12, tyX12, rfl, rfl, tyX12_ok, nmX12, rfl, by decide +kernel⟩
theorem ag_4 : AG 4 0 26 .int := ⟨rfl, rfl, by decide, by decide, fun _ => rfl⟩
theorem ag_6 : AG 6 0 3 .int := ⟨rfl, rfl, by decide, by decide, fun _ => rfl⟩
theorem ag_12 : AG 12 2 2 .boolean := ⟨rfl, rfl, by decide, by decide, fun _ => rfl⟩
theorem ag_17 : AG 17 1 140 .char := ⟨rfl, rfl, by decide, by decide, fun _ => rfl⟩
theorem ag_18 : AG 18 0 4 .int := ⟨rfl, rfl, by decide, by decide, fun _ => rfl⟩
theorem ag_20 : AG 20 0 581 .int := ⟨rfl, rfl, by decide, by decide, fun _ => rfl⟩
theorem ag_21 : AG 21 0 2905 .int := ⟨rfl, rfl, by decide, by decide, fun _ => rfl⟩
theorem ag_22 : AG 22 0 182 .int := ⟨rfl, rfl, by decide, by decide, fun _ => rfl⟩
theorem ag_23 : AG 23 0 140 .int := ⟨rfl, rfl, by decide, by decide, fun _ => rfl⟩
theorem ag_24 : AG 24 0 5 .int := ⟨rfl, rfl, by decide, by decide, fun _ => rfl⟩
theorem rg_7 : RG 7 4 4 2 1 "RampPermits$Ramp" := ⟨rfl, rfl, rfl, by decide, by decide, fun _ => rfl⟩
theorem rg_8 : RG 8 5 12 5 1 "RampPermits$Permit" := ⟨rfl, rfl, rfl, by decide, by decide, fun _ => rfl⟩
theorem rg_11 : RG 11 3 2 2 24 "RampPermits$Season" := ⟨rfl, rfl, rfl, by decide, by decide, fun _ => rfl⟩
theorem rg_14 : RG 14 6 6 1 75 "RampPermits$State" := ⟨rfl, rfl, rfl, by decide, by decide, fun _ => rfl⟩
theorem kw_copy : Cond.native arraycopyName ∈ Big ∧ Cond.static arraycopyName ∈ Big ∧ Cond.initialized "java/lang/System" ∈ Big := ⟨inB2 61 rfl rfl, inB2 60 rfl rfl, inB1 12 rfl rfl⟩
theorem k_bipush_m50 : (Int8.ofInt (-50)).toInt32 = (-50 : Int32) := by decide +kernel
theorem k_bipush_6 : (Int8.ofInt (6)).toInt32 = (6 : Int32) := by decide +kernel
theorem k_bipush_7 : (Int8.ofInt (7)).toInt32 = (7 : Int32) := by decide +kernel
theorem k_bipush_8 : (Int8.ofInt (8)).toInt32 = (8 : Int32) := by decide +kernel
theorem k_bipush_9 : (Int8.ofInt (9)).toInt32 = (9 : Int32) := by decide +kernel
theorem k_bipush_10 : (Int8.ofInt (10)).toInt32 = (10 : Int32) := by decide +kernel
theorem k_bipush_11 : (Int8.ofInt (11)).toInt32 = (11 : Int32) := by decide +kernel
theorem k_bipush_12 : (Int8.ofInt (12)).toInt32 = (12 : Int32) := by decide +kernel
theorem k_bipush_13 : (Int8.ofInt (13)).toInt32 = (13 : Int32) := by decide +kernel
theorem k_bipush_20 : (Int8.ofInt (20)).toInt32 = (20 : Int32) := by decide +kernel
theorem k_bipush_25 : (Int8.ofInt (25)).toInt32 = (25 : Int32) := by decide +kernel
theorem k_bipush_26 : (Int8.ofInt (26)).toInt32 = (26 : Int32) := by decide +kernel
theorem k_bipush_29 : (Int8.ofInt (29)).toInt32 = (29 : Int32) := by decide +kernel
theorem k_bipush_31 : (Int8.ofInt (31)).toInt32 = (31 : Int32) := by decide +kernel
theorem k_bipush_32 : (Int8.ofInt (32)).toInt32 = (32 : Int32) := by decide +kernel
theorem k_bipush_37 : (Int8.ofInt (37)).toInt32 = (37 : Int32) := by decide +kernel
theorem k_bipush_40 : (Int8.ofInt (40)).toInt32 = (40 : Int32) := by decide +kernel
theorem k_bipush_45 : (Int8.ofInt (45)).toInt32 = (45 : Int32) := by decide +kernel
theorem k_bipush_48 : (Int8.ofInt (48)).toInt32 = (48 : Int32) := by decide +kernel
theorem k_bipush_49 : (Int8.ofInt (49)).toInt32 = (49 : Int32) := by decide +kernel
theorem k_bipush_50 : (Int8.ofInt (50)).toInt32 = (50 : Int32) := by decide +kernel
theorem k_bipush_57 : (Int8.ofInt (57)).toInt32 = (57 : Int32) := by decide +kernel
theorem k_bipush_59 : (Int8.ofInt (59)).toInt32 = (59 : Int32) := by decide +kernel
theorem k_bipush_60 : (Int8.ofInt (60)).toInt32 = (60 : Int32) := by decide +kernel
theorem k_bipush_97 : (Int8.ofInt (97)).toInt32 = (97 : Int32) := by decide +kernel
theorem k_bipush_98 : (Int8.ofInt (98)).toInt32 = (98 : Int32) := by decide +kernel
theorem k_bipush_99 : (Int8.ofInt (99)).toInt32 = (99 : Int32) := by decide +kernel
theorem k_bipush_100 : (Int8.ofInt (100)).toInt32 = (100 : Int32) := by decide +kernel
theorem k_bipush_101 : (Int8.ofInt (101)).toInt32 = (101 : Int32) := by decide +kernel
theorem k_bipush_102 : (Int8.ofInt (102)).toInt32 = (102 : Int32) := by decide +kernel
theorem k_bipush_108 : (Int8.ofInt (108)).toInt32 = (108 : Int32) := by decide +kernel
theorem k_bipush_109 : (Int8.ofInt (109)).toInt32 = (109 : Int32) := by decide +kernel
theorem k_bipush_110 : (Int8.ofInt (110)).toInt32 = (110 : Int32) := by decide +kernel
theorem k_bipush_111 : (Int8.ofInt (111)).toInt32 = (111 : Int32) := by decide +kernel
theorem k_bipush_112 : (Int8.ofInt (112)).toInt32 = (112 : Int32) := by decide +kernel
theorem k_bipush_114 : (Int8.ofInt (114)).toInt32 = (114 : Int32) := by decide +kernel
theorem k_bipush_115 : (Int8.ofInt (115)).toInt32 = (115 : Int32) := by decide +kernel
theorem k_bipush_116 : (Int8.ofInt (116)).toInt32 = (116 : Int32) := by decide +kernel
theorem k_bipush_117 : (Int8.ofInt (117)).toInt32 = (117 : Int32) := by decide +kernel
theorem k_bipush_118 : (Int8.ofInt (118)).toInt32 = (118 : Int32) := by decide +kernel
theorem k_bipush_121 : (Int8.ofInt (121)).toInt32 = (121 : Int32) := by decide +kernel
theorem k_bipush_122 : (Int8.ofInt (122)).toInt32 = (122 : Int32) := by decide +kernel
theorem k_iconst_m1 : Int32.ofInt (-1) = (-1 : Int32) := by decide +kernel
theorem k_iconst_0 : Int32.ofInt (0) = (0 : Int32) := by decide +kernel
theorem k_iconst_1 : Int32.ofInt (1) = (1 : Int32) := by decide +kernel
theorem k_iconst_2 : Int32.ofInt (2) = (2 : Int32) := by decide +kernel
theorem k_iconst_3 : Int32.ofInt (3) = (3 : Int32) := by decide +kernel
theorem k_iconst_4 : Int32.ofInt (4) = (4 : Int32) := by decide +kernel
theorem k_iconst_5 : Int32.ofInt (5) = (5 : Int32) := by decide +kernel
theorem k_iinc_1 (x : Int32) : x + Int32.ofInt (1) = x + (1) := by rw [show Int32.ofInt (1) = (1 : Int32) by decide +kernel]
theorem k_iinc_5 (x : Int32) : x + Int32.ofInt (5) = x + (5) := by rw [show Int32.ofInt (5) = (5 : Int32) by decide +kernel]
theorem k_sipush_m1000 : (Int16.ofInt (-1000)).toInt32 = (-1000 : Int32) := by decide +kernel
theorem k_sipush_m500 : (Int16.ofInt (-500)).toInt32 = (-500 : Int32) := by decide +kernel
theorem k_sipush_140 : (Int16.ofInt (140)).toInt32 = (140 : Int32) := by decide +kernel
theorem k_sipush_181 : (Int16.ofInt (181)).toInt32 = (181 : Int32) := by decide +kernel
theorem k_sipush_182 : (Int16.ofInt (182)).toInt32 = (182 : Int32) := by decide +kernel
theorem k_sipush_193 : (Int16.ofInt (193)).toInt32 = (193 : Int32) := by decide +kernel
theorem k_sipush_194 : (Int16.ofInt (194)).toInt32 = (194 : Int32) := by decide +kernel
theorem k_sipush_255 : (Int16.ofInt (255)).toInt32 = (255 : Int32) := by decide +kernel
theorem k_sipush_300 : (Int16.ofInt (300)).toInt32 = (300 : Int32) := by decide +kernel
theorem k_sipush_500 : (Int16.ofInt (500)).toInt32 = (500 : Int32) := by decide +kernel
theorem k_sipush_501 : (Int16.ofInt (501)).toInt32 = (501 : Int32) := by decide +kernel
theorem k_sipush_581 : (Int16.ofInt (581)).toInt32 = (581 : Int32) := by decide +kernel
theorem k_sipush_2000 : (Int16.ofInt (2000)).toInt32 = (2000 : Int32) := by decide +kernel
theorem k_sipush_2324 : (Int16.ofInt (2324)).toInt32 = (2324 : Int32) := by decide +kernel
theorem k_sipush_2905 : (Int16.ofInt (2905)).toInt32 = (2905 : Int32) := by decide +kernel
theorem k_sipush_4000 : (Int16.ofInt (4000)).toInt32 = (4000 : Int32) := by decide +kernel
theorem k_sipush_5000 : (Int16.ofInt (5000)).toInt32 = (5000 : Int32) := by decide +kernel
