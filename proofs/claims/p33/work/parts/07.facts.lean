theorem fg_RX10_19 : FG RX10 19 3 0 (none) := ⟨8, _, RX10, TX10, rfl, rfl, rfl, fw_RX10, fl_RX10_19, rfl, by decide⟩
theorem pg_RX10_19 : PG RX10 19 3 0 .int := ⟨fg_RX10_19, 8, _, RX10, TX10, tyX10, rfl, rfl, tyX10_ok, nmX10, rfl, by decide +kernel⟩
theorem fg_RX8_39 : FG RX8 39 3 0 (none) := ⟨8, _, RX10, TX10, rfl, rfl, rfl, fw_RX10, fl_RX8_39, rfl, by decide⟩
theorem pg_RX8_39 : PG RX8 39 3 0 .int := ⟨fg_RX8_39, 8, _, RX10, TX10, tyX10, rfl, rfl, tyX10_ok, nmX10, rfl, by decide +kernel⟩
theorem fg_RX7_89 : FG RX7 89 3 0 (none) := ⟨8, _, RX10, TX10, rfl, rfl, rfl, fw_RX10, fl_RX7_89, rfl, by decide⟩
theorem pg_RX7_89 : PG RX7 89 3 0 .int := ⟨fg_RX7_89, 8, _, RX10, TX10, tyX10, rfl, rfl, tyX10_ok, nmX10, rfl, by decide +kernel⟩
theorem fg_RX11_140 : FG RX11 140 3 0 (none) := ⟨8, _, RX10, TX10, rfl, rfl, rfl, fw_RX10, fl_RX11_140, rfl, by decide⟩
theorem pg_RX11_140 : PG RX11 140 3 0 .int := ⟨fg_RX11_140, 8, _, RX10, TX10, tyX10, rfl, rfl, tyX10_ok, nmX10, rfl, by decide +kernel⟩
theorem fg_RX10_9 : FG RX10 9 3 1 (none) := ⟨8, _, RX10, TX10, rfl, rfl, rfl, fw_RX10, fl_RX10_9, rfl, by decide⟩
theorem pg_RX10_9 : PG RX10 9 3 1 .int := ⟨fg_RX10_9, 8, _, RX10, TX10, tyX10, rfl, rfl, tyX10_ok, nmX10, rfl, by decide +kernel⟩
theorem fg_RX7_64 : FG RX7 64 3 1 (none) := ⟨8, _, RX10, TX10, rfl, rfl, rfl, fw_RX10, fl_RX7_64, rfl, by decide⟩
theorem pg_RX7_64 : PG RX7 64 3 1 .int := ⟨fg_RX7_64, 8, _, RX10, TX10, tyX10, rfl, rfl, tyX10_ok, nmX10, rfl, by decide +kernel⟩
theorem fg_RX11_145 : FG RX11 145 3 1 (none) := ⟨8, _, RX10, TX10, rfl, rfl, rfl, fw_RX10, fl_RX11_145, rfl, by decide⟩
theorem pg_RX11_145 : PG RX11 145 3 1 .int := ⟨fg_RX11_145, 8, _, RX10, TX10, tyX10, rfl, rfl, tyX10_ok, nmX10, rfl, by decide +kernel⟩
theorem fg_RX10_15 : FG RX10 15 3 2 (some 1) := ⟨8, _, RX10, TX10, rfl, rfl, rfl, fw_RX10, fl_RX10_15, rfl, by decide⟩
theorem fg_RX7_67 : FG RX7 67 3 2 (some 1) := ⟨8, _, RX10, TX10, rfl, rfl, rfl, fw_RX10, fl_RX7_67, rfl, by decide⟩
theorem fg_RX11_218 : FG RX11 218 3 2 (some 1) := ⟨8, _, RX10, TX10, rfl, rfl, rfl, fw_RX10, fl_RX11_218, rfl, by decide⟩
theorem fg_RX2_9 : FG RX2 9 5 0 (some 1) := ⟨0, _, RX2, TX2, rfl, rfl, rfl, fw_RX2, fl_RX2_9, rfl, by decide⟩
theorem fg_RX2_15 : FG RX2 15 5 1 (some 2) := ⟨0, _, RX2, TX2, rfl, rfl, rfl, fw_RX2, fl_RX2_15, rfl, by decide⟩
theorem fg_RX2_24 : FG RX2 24 5 2 (none) := ⟨0, _, RX2, TX2, rfl, rfl, rfl, fw_RX2, fl_RX2_24, rfl, by decide⟩
theorem pg_RX2_24 : PG RX2 24 5 2 .int := ⟨fg_RX2_24, 0, _, RX2, TX2, tyX2, rfl, rfl, tyX2_ok, nmX2, rfl, by decide +kernel⟩
theorem fg_RX11_215 : FG RX11 215 5 2 (none) := ⟨0, _, RX2, TX2, rfl, rfl, rfl, fw_RX2, fl_RX11_215, rfl, by decide⟩
theorem pg_RX11_215 : PG RX11 215 5 2 .int := ⟨fg_RX11_215, 0, _, RX2, TX2, tyX2, rfl, rfl, tyX2_ok, nmX2, rfl, by decide +kernel⟩
theorem fg_RX6_9 : FG RX6 9 9 0 (none) := ⟨4, _, RX6, TX6, rfl, rfl, rfl, fw_RX6, fl_RX6_9, rfl, by decide⟩
theorem pg_RX6_9 : PG RX6 9 9 0 .int := ⟨fg_RX6_9, 4, _, RX6, TX6, tyX6, rfl, rfl, tyX6_ok, nmX6, rfl, by decide +kernel⟩
theorem fg_RX7_72 : FG RX7 72 9 0 (none) := ⟨4, _, RX6, TX6, rfl, rfl, rfl, fw_RX6, fl_RX7_72, rfl, by decide⟩
theorem pg_RX7_72 : PG RX7 72 9 0 .int := ⟨fg_RX7_72, 4, _, RX6, TX6, tyX6, rfl, rfl, tyX6_ok, nmX6, rfl, by decide +kernel⟩
theorem fg_RX11_177 : FG RX11 177 9 0 (none) := ⟨4, _, RX6, TX6, rfl, rfl, rfl, fw_RX6, fl_RX11_177, rfl, by decide⟩
theorem pg_RX11_177 : PG RX11 177 9 0 .int := ⟨fg_RX11_177, 4, _, RX6, TX6, tyX6, rfl, rfl, tyX6_ok, nmX6, rfl, by decide +kernel⟩
theorem fg_RX6_15 : FG RX6 15 9 1 (none) := ⟨4, _, RX6, TX6, rfl, rfl, rfl, fw_RX6, fl_RX6_15, rfl, by decide⟩
theorem pg_RX6_15 : PG RX6 15 9 1 .int := ⟨fg_RX6_15, 4, _, RX6, TX6, tyX6, rfl, rfl, tyX6_ok, nmX6, rfl, by decide +kernel⟩
theorem fg_RX7_75 : FG RX7 75 9 1 (none) := ⟨4, _, RX6, TX6, rfl, rfl, rfl, fw_RX6, fl_RX7_75, rfl, by decide⟩
theorem pg_RX7_75 : PG RX7 75 9 1 .int := ⟨fg_RX7_75, 4, _, RX6, TX6, tyX6, rfl, rfl, tyX6_ok, nmX6, rfl, by decide +kernel⟩
theorem fg_RX11_182 : FG RX11 182 9 1 (none) := ⟨4, _, RX6, TX6, rfl, rfl, rfl, fw_RX6, fl_RX11_182, rfl, by decide⟩
theorem pg_RX11_182 : PG RX11 182 9 1 .int := ⟨fg_RX11_182, 4, _, RX6, TX6, tyX6, rfl, rfl, tyX6_ok, nmX6, rfl, by decide +kernel⟩
theorem fg_RX6_18 : FG RX6 18 9 2 (none) := ⟨4, _, RX6, TX6, rfl, rfl, rfl, fw_RX6, fl_RX6_18, rfl, by decide⟩
theorem pg_RX6_18 : PG RX6 18 9 2 .int := ⟨fg_RX6_18, 4, _, RX6, TX6, tyX6, rfl, rfl, tyX6_ok, nmX6, rfl, by decide +kernel⟩
theorem fg_RX7_78 : FG RX7 78 9 2 (none) := ⟨4, _, RX6, TX6, rfl, rfl, rfl, fw_RX6, fl_RX7_78, rfl, by decide⟩
theorem pg_RX7_78 : PG RX7 78 9 2 .int := ⟨fg_RX7_78, 4, _, RX6, TX6, tyX6, rfl, rfl, tyX6_ok, nmX6, rfl, by decide +kernel⟩
theorem fg_RX11_185 : FG RX11 185 9 2 (none) := ⟨4, _, RX6, TX6, rfl, rfl, rfl, fw_RX6, fl_RX11_185, rfl, by decide⟩
theorem pg_RX11_185 : PG RX11 185 9 2 .int := ⟨fg_RX11_185, 4, _, RX6, TX6, tyX6, rfl, rfl, tyX6_ok, nmX6, rfl, by decide +kernel⟩
theorem fg_RX4_9 : FG RX4 9 10 0 (none) := ⟨2, _, RX4, TX4, rfl, rfl, rfl, fw_RX4, fl_RX4_9, rfl, by decide⟩
theorem pg_RX4_9 : PG RX4 9 10 0 .int := ⟨fg_RX4_9, 2, _, RX4, TX4, tyX4, rfl, rfl, tyX4_ok, nmX4, rfl, by decide +kernel⟩
theorem fg_RX7_108 : FG RX7 108 10 0 (none) := ⟨2, _, RX4, TX4, rfl, rfl, rfl, fw_RX4, fl_RX7_108, rfl, by decide⟩
theorem pg_RX7_108 : PG RX7 108 10 0 .int := ⟨fg_RX7_108, 2, _, RX4, TX4, tyX4, rfl, rfl, tyX4_ok, nmX4, rfl, by decide +kernel⟩
theorem fg_RX4_15 : FG RX4 15 10 1 (none) := ⟨2, _, RX4, TX4, rfl, rfl, rfl, fw_RX4, fl_RX4_15, rfl, by decide⟩
theorem pg_RX4_15 : PG RX4 15 10 1 .int := ⟨fg_RX4_15, 2, _, RX4, TX4, tyX4, rfl, rfl, tyX4_ok, nmX4, rfl, by decide +kernel⟩
theorem fg_RX4_18 : FG RX4 18 10 2 (none) := ⟨2, _, RX4, TX4, rfl, rfl, rfl, fw_RX4, fl_RX4_18, rfl, by decide⟩
theorem pg_RX4_18 : PG RX4 18 10 2 .int := ⟨fg_RX4_18, 2, _, RX4, TX4, tyX4, rfl, rfl, tyX4_ok, nmX4, rfl, by decide +kernel⟩
theorem fg_RX7_111 : FG RX7 111 10 2 (none) := ⟨2, _, RX4, TX4, rfl, rfl, rfl, fw_RX4, fl_RX7_111, rfl, by decide⟩
theorem pg_RX7_111 : PG RX7 111 10 2 .int := ⟨fg_RX7_111, 2, _, RX4, TX4, tyX4, rfl, rfl, tyX4_ok, nmX4, rfl, by decide +kernel⟩
theorem fg_RX4_21 : FG RX4 21 10 3 (none) := ⟨2, _, RX4, TX4, rfl, rfl, rfl, fw_RX4, fl_RX4_21, rfl, by decide⟩
theorem pg_RX4_21 : PG RX4 21 10 3 .int := ⟨fg_RX4_21, 2, _, RX4, TX4, tyX4, rfl, rfl, tyX4_ok, nmX4, rfl, by decide +kernel⟩
theorem fg_RX7_114 : FG RX7 114 10 3 (none) := ⟨2, _, RX4, TX4, rfl, rfl, rfl, fw_RX4, fl_RX7_114, rfl, by decide⟩
theorem pg_RX7_114 : PG RX7 114 10 3 .int := ⟨fg_RX7_114, 2, _, RX4, TX4, tyX4, rfl, rfl, tyX4_ok, nmX4, rfl, by decide +kernel⟩
theorem fg_RX4_24 : FG RX4 24 10 4 (none) := ⟨2, _, RX4, TX4, rfl, rfl, rfl, fw_RX4, fl_RX4_24, rfl, by decide⟩
theorem pg_RX4_24 : PG RX4 24 10 4 .int := ⟨fg_RX4_24, 2, _, RX4, TX4, tyX4, rfl, rfl, tyX4_ok, nmX4, rfl, by decide +kernel⟩
theorem fg_RX7_175 : FG RX7 175 10 4 (none) := ⟨2, _, RX4, TX4, rfl, rfl, rfl, fw_RX4, fl_RX7_175, rfl, by decide⟩
theorem pg_RX7_175 : PG RX7 175 10 4 .int := ⟨fg_RX7_175, 2, _, RX4, TX4, tyX4, rfl, rfl, tyX4_ok, nmX4, rfl, by decide +kernel⟩
theorem fg_RX11_242 : FG RX11 242 10 4 (none) := ⟨2, _, RX4, TX4, rfl, rfl, rfl, fw_RX4, fl_RX11_242, rfl, by decide⟩
theorem pg_RX11_242 : PG RX11 242 10 4 .int := ⟨fg_RX11_242, 2, _, RX4, TX4, tyX4, rfl, rfl, tyX4_ok, nmX4, rfl, by decide +kernel⟩
theorem fg_RX4_27 : FG RX4 27 10 5 (none) := ⟨2, _, RX4, TX4, rfl, rfl, rfl, fw_RX4, fl_RX4_27, rfl, by decide⟩
theorem pg_RX4_27 : PG RX4 27 10 5 .int := ⟨fg_RX4_27, 2, _, RX4, TX4, tyX4, rfl, rfl, tyX4_ok, nmX4, rfl, by decide +kernel⟩
theorem fg_RX4_30 : FG RX4 30 10 6 (none) := ⟨2, _, RX4, TX4, rfl, rfl, rfl, fw_RX4, fl_RX4_30, rfl, by decide⟩
theorem pg_RX4_30 : PG RX4 30 10 6 .int := ⟨fg_RX4_30, 2, _, RX4, TX4, tyX4, rfl, rfl, tyX4_ok, nmX4, rfl, by decide +kernel⟩
theorem fg_RX4_33 : FG RX4 33 10 7 (none) := ⟨2, _, RX4, TX4, rfl, rfl, rfl, fw_RX4, fl_RX4_33, rfl, by decide⟩
theorem pg_RX4_33 : PG RX4 33 10 7 .int := ⟨fg_RX4_33, 2, _, RX4, TX4, tyX4, rfl, rfl, tyX4_ok, nmX4, rfl, by decide +kernel⟩
theorem fg_RX7_129 : FG RX7 129 10 7 (none) := ⟨2, _, RX4, TX4, rfl, rfl, rfl, fw_RX4, fl_RX7_129, rfl, by decide⟩
theorem pg_RX7_129 : PG RX7 129 10 7 .int := ⟨fg_RX7_129, 2, _, RX4, TX4, tyX4, rfl, rfl, tyX4_ok, nmX4, rfl, by decide +kernel⟩
theorem fg_RX11_239 : FG RX11 239 10 7 (none) := ⟨2, _, RX4, TX4, rfl, rfl, rfl, fw_RX4, fl_RX11_239, rfl, by decide⟩
theorem pg_RX11_239 : PG RX11 239 10 7 .int := ⟨fg_RX11_239, 2, _, RX4, TX4, tyX4, rfl, rfl, tyX4_ok, nmX4, rfl, by decide +kernel⟩
theorem fg_RX4_36 : FG RX4 36 10 8 (none) := ⟨2, _, RX4, TX4, rfl, rfl, rfl, fw_RX4, fl_RX4_36, rfl, by decide⟩
theorem pg_RX4_36 : PG RX4 36 10 8 .int := ⟨fg_RX4_36, 2, _, RX4, TX4, tyX4, rfl, rfl, tyX4_ok, nmX4, rfl, by decide +kernel⟩
theorem fg_RX4_39 : FG RX4 39 10 9 (none) := ⟨2, _, RX4, TX4, rfl, rfl, rfl, fw_RX4, fl_RX4_39, rfl, by decide⟩
theorem pg_RX4_39 : PG RX4 39 10 9 .int := ⟨fg_RX4_39, 2, _, RX4, TX4, tyX4, rfl, rfl, tyX4_ok, nmX4, rfl, by decide +kernel⟩
theorem fg_RX4_42 : FG RX4 42 10 10 (none) := ⟨2, _, RX4, TX4, rfl, rfl, rfl, fw_RX4, fl_RX4_42, rfl, by decide⟩
theorem pg_RX4_42 : PG RX4 42 10 10 .int := ⟨fg_RX4_42, 2, _, RX4, TX4, tyX4, rfl, rfl, tyX4_ok, nmX4, rfl, by decide +kernel⟩
theorem fg_RX4_45 : FG RX4 45 10 11 (none) := ⟨2, _, RX4, TX4, rfl, rfl, rfl, fw_RX4, fl_RX4_45, rfl, by decide⟩
theorem pg_RX4_45 : PG RX4 45 10 11 .boolean := ⟨fg_RX4_45, 2, _, RX4, TX4, tyX4, rfl, rfl, tyX4_ok, nmX4, rfl, by decide +kernel⟩
theorem fg_RX7_12 : FG RX7 12 2 0 (some 1) := ⟨5, _, RX7, TX7, rfl, rfl, rfl, fw_RX7, fl_RX7_12, rfl, by decide⟩
theorem fg_RX8_35 : FG RX8 35 2 0 (some 1) := ⟨5, _, RX7, TX7, rfl, rfl, rfl, fw_RX7, fl_RX8_35, rfl, by decide⟩
theorem fg_RX11_136 : FG RX11 136 2 0 (some 1) := ⟨5, _, RX7, TX7, rfl, rfl, rfl, fw_RX7, fl_RX11_136, rfl, by decide⟩
theorem fg_RX7_21 : FG RX7 21 2 1 (some 3) := ⟨5, _, RX7, TX7, rfl, rfl, rfl, fw_RX7, fl_RX7_21, rfl, by decide⟩
theorem fg_RX11_58 : FG RX11 58 2 1 (some 3) := ⟨5, _, RX7, TX7, rfl, rfl, rfl, fw_RX7, fl_RX11_58, rfl, by decide⟩
theorem fg_RX7_27 : FG RX7 27 2 2 (some 6) := ⟨5, _, RX7, TX7, rfl, rfl, rfl, fw_RX7, fl_RX7_27, rfl, by decide⟩
theorem fg_RX11_173 : FG RX11 173 2 2 (some 6) := ⟨5, _, RX7, TX7, rfl, rfl, rfl, fw_RX7, fl_RX11_173, rfl, by decide⟩
theorem fg_RX7_33 : FG RX7 33 2 3 (some 7) := ⟨5, _, RX7, TX7, rfl, rfl, rfl, fw_RX7, fl_RX7_33, rfl, by decide⟩
theorem fg_RX11_200 : FG RX11 200 2 3 (some 7) := ⟨5, _, RX7, TX7, rfl, rfl, rfl, fw_RX7, fl_RX11_200, rfl, by decide⟩
theorem fg_RX7_46 : FG RX7 46 2 4 (none) := ⟨5, _, RX7, TX7, rfl, rfl, rfl, fw_RX7, fl_RX7_46, rfl, by decide⟩
theorem pg_RX7_46 : PG RX7 46 2 4 .int := ⟨fg_RX7_46, 5, _, RX7, TX7, tyX7, rfl, rfl, tyX7_ok, nmX7, rfl, by decide +kernel⟩
theorem fg_RX11_148 : FG RX11 148 2 4 (none) := ⟨5, _, RX7, TX7, rfl, rfl, rfl, fw_RX7, fl_RX11_148, rfl, by decide⟩
theorem pg_RX11_148 : PG RX11 148 2 4 .int := ⟨fg_RX11_148, 5, _, RX7, TX7, tyX7, rfl, rfl, tyX7_ok, nmX7, rfl, by decide +kernel⟩
theorem fg_RX7_53 : FG RX7 53 2 5 (none) := ⟨5, _, RX7, TX7, rfl, rfl, rfl, fw_RX7, fl_RX7_53, rfl, by decide⟩
theorem pg_RX7_53 : PG RX7 53 2 5 .int := ⟨fg_RX7_53, 5, _, RX7, TX7, tyX7, rfl, rfl, tyX7_ok, nmX7, rfl, by decide +kernel⟩
theorem fg_RX11_151 : FG RX11 151 2 5 (none) := ⟨5, _, RX7, TX7, rfl, rfl, rfl, fw_RX7, fl_RX11_151, rfl, by decide⟩
theorem pg_RX11_151 : PG RX11 151 2 5 .int := ⟨fg_RX11_151, 5, _, RX7, TX7, tyX7, rfl, rfl, tyX7_ok, nmX7, rfl, by decide +kernel⟩
theorem fg_RX8_12 : FG RX8 12 1 0 (some 1) := ⟨6, _, RX8, TX8, rfl, rfl, rfl, fw_RX8, fl_RX8_12, rfl, by decide⟩
theorem fg_RX11_34 : FG RX11 34 1 0 (some 1) := ⟨6, _, RX8, TX8, rfl, rfl, rfl, fw_RX8, fl_RX11_34, rfl, by decide⟩
theorem fg_RX8_18 : FG RX8 18 1 1 (some 25) := ⟨6, _, RX8, TX8, rfl, rfl, rfl, fw_RX8, fl_RX8_18, rfl, by decide⟩
theorem fg_RX8_22 : FG RX8 22 1 2 (some 26) := ⟨6, _, RX8, TX8, rfl, rfl, rfl, fw_RX8, fl_RX8_22, rfl, by decide⟩
theorem fg_RX3_11 : FG RX3 11 13 0 (some 1) := ⟨1, _, RX3, TX3, rfl, rfl, rfl, fw_RX3, fl_RX3_11, rfl, by decide⟩
theorem fg_RX3_26 : FG RX3 26 13 1 (none) := ⟨1, _, RX3, TX3, rfl, rfl, rfl, fw_RX3, fl_RX3_26, rfl, by decide⟩
theorem pg_RX3_26 : PG RX3 26 13 1 .int := ⟨fg_RX3_26, 1, _, RX3, TX3, tyX3, rfl, rfl, tyX3_ok, nmX3, rfl, by decide +kernel⟩
theorem fg_RX3_34 : FG RX3 34 13 2 (none) := ⟨1, _, RX3, TX3, rfl, rfl, rfl, fw_RX3, fl_RX3_34, rfl, by decide⟩
theorem pg_RX3_34 : PG RX3 34 13 2 .int := ⟨fg_RX3_34, 1, _, RX3, TX3, tyX3, rfl, rfl, tyX3_ok, nmX3, rfl, by decide +kernel⟩
theorem fg_RX11_92 : FG RX11 92 13 2 (none) := ⟨1, _, RX3, TX3, rfl, rfl, rfl, fw_RX3, fl_RX11_92, rfl, by decide⟩
theorem pg_RX11_92 : PG RX11 92 13 2 .int := ⟨fg_RX11_92, 1, _, RX3, TX3, tyX3, rfl, rfl, tyX3_ok, nmX3, rfl, by decide +kernel⟩
theorem fg_RX9_9 : FG RX9 9 16 0 (some 1) := ⟨7, _, RX9, TX9, rfl, rfl, rfl, fw_RX9, fl_RX9_9, rfl, by decide⟩
theorem fg_RX11_160 : FG RX11 160 16 1 (none) := ⟨7, _, RX9, TX9, rfl, rfl, rfl, fw_RX9, fl_RX11_160, rfl, by decide⟩
theorem pg_RX11_160 : PG RX11 160 16 1 .int := ⟨fg_RX11_160, 7, _, RX9, TX9, tyX9, rfl, rfl, tyX9_ok, nmX9, rfl, by decide +kernel⟩
theorem fg_RX5_12 : FG RX5 12 15 0 (some 1) := ⟨3, _, RX5, TX5, rfl, rfl, rfl, fw_RX5, fl_RX5_12, rfl, by decide⟩
theorem fg_RX11_112 : FG RX11 112 15 0 (some 1) := ⟨3, _, RX5, TX5, rfl, rfl, rfl, fw_RX5, fl_RX11_112, rfl, by decide⟩
theorem fg_RX5_18 : FG RX5 18 15 1 (some 3) := ⟨3, _, RX5, TX5, rfl, rfl, rfl, fw_RX5, fl_RX5_18, rfl, by decide⟩
theorem fg_RX5_22 : FG RX5 22 15 2 (none) := ⟨3, _, RX5, TX5, rfl, rfl, rfl, fw_RX5, fl_RX5_22, rfl, by decide⟩
theorem pg_RX5_22 : PG RX5 22 15 2 .int := ⟨fg_RX5_22, 3, _, RX5, TX5, tyX5, rfl, rfl, tyX5_ok, nmX5, rfl, by decide +kernel⟩
theorem fg_RX11_10 : FG RX11 10 0 0 (some 1) := ⟨9, _, RX11, TX11, rfl, rfl, rfl, fw_RX11, fl_RX11_10, rfl, by decide⟩
theorem fg_RX11_19 : FG RX11 19 0 1 (some 76) := ⟨9, _, RX11, TX11, rfl, rfl, rfl, fw_RX11, fl_RX11_19, rfl, by decide⟩
theorem fg_RX11_26 : FG RX11 26 0 2 (some 528) := ⟨9, _, RX11, TX11, rfl, rfl, rfl, fw_RX11, fl_RX11_26, rfl, by decide⟩
theorem ag_4 : AG 4 0 26 .int := ⟨rfl, rfl, by decide, by decide, fun _ => rfl⟩
theorem ag_6 : AG 6 0 3 .int := ⟨rfl, rfl, by decide, by decide, fun _ => rfl⟩
theorem ag_12 : AG 12 2 2 .boolean := ⟨rfl, rfl, by decide, by decide, fun _ => rfl⟩
theorem ag_17 : AG 17 1 140 .char := ⟨rfl, rfl, by decide, by decide, fun _ => rfl⟩
theorem ag_18 : AG 18 0 4 .int := ⟨rfl, rfl, by decide, by decide, fun _ => rfl⟩
theorem rg_7 : RG 7 4 4 2 1 "RampPermits$Ramp" := ⟨rfl, rfl, rfl, by decide, by decide, fun _ => rfl⟩
theorem rg_8 : RG 8 5 12 5 1 "RampPermits$Permit" := ⟨rfl, rfl, rfl, by decide, by decide, fun _ => rfl⟩
theorem rg_11 : RG 11 3 2 2 24 "RampPermits$Season" := ⟨rfl, rfl, rfl, by decide, by decide, fun _ => rfl⟩
theorem rg_14 : RG 14 6 6 1 75 "RampPermits$State" := ⟨rfl, rfl, rfl, by decide, by decide, fun _ => rfl⟩
theorem kw_copy : Cond.native arraycopyName ∈ Big ∧ Cond.static arraycopyName ∈ Big ∧ Cond.initialized "java/lang/System" ∈ Big := ⟨inB2 46 rfl rfl, inB2 45 rfl rfl, inB1 11 rfl rfl⟩
theorem k_bipush_m50 : (Int8.ofInt (-50)).toInt32 = (-50 : Int32) := by decide +kernel
theorem k_bipush_m16 : (Int8.ofInt (-16)).toInt32 = (-16 : Int32) := by decide +kernel
theorem k_bipush_m2 : (Int8.ofInt (-2)).toInt32 = (-2 : Int32) := by decide +kernel
theorem k_bipush_6 : (Int8.ofInt (6)).toInt32 = (6 : Int32) := by decide +kernel
theorem k_bipush_7 : (Int8.ofInt (7)).toInt32 = (7 : Int32) := by decide +kernel
theorem k_bipush_8 : (Int8.ofInt (8)).toInt32 = (8 : Int32) := by decide +kernel
theorem k_bipush_9 : (Int8.ofInt (9)).toInt32 = (9 : Int32) := by decide +kernel
theorem k_bipush_10 : (Int8.ofInt (10)).toInt32 = (10 : Int32) := by decide +kernel
theorem k_bipush_11 : (Int8.ofInt (11)).toInt32 = (11 : Int32) := by decide +kernel
theorem k_bipush_12 : (Int8.ofInt (12)).toInt32 = (12 : Int32) := by decide +kernel
theorem k_bipush_13 : (Int8.ofInt (13)).toInt32 = (13 : Int32) := by decide +kernel
theorem k_bipush_14 : (Int8.ofInt (14)).toInt32 = (14 : Int32) := by decide +kernel
theorem k_bipush_15 : (Int8.ofInt (15)).toInt32 = (15 : Int32) := by decide +kernel
theorem k_bipush_16 : (Int8.ofInt (16)).toInt32 = (16 : Int32) := by decide +kernel
theorem k_bipush_20 : (Int8.ofInt (20)).toInt32 = (20 : Int32) := by decide +kernel
theorem k_bipush_25 : (Int8.ofInt (25)).toInt32 = (25 : Int32) := by decide +kernel
theorem k_bipush_26 : (Int8.ofInt (26)).toInt32 = (26 : Int32) := by decide +kernel
theorem k_bipush_29 : (Int8.ofInt (29)).toInt32 = (29 : Int32) := by decide +kernel
theorem k_bipush_30 : (Int8.ofInt (30)).toInt32 = (30 : Int32) := by decide +kernel
theorem k_bipush_35 : (Int8.ofInt (35)).toInt32 = (35 : Int32) := by decide +kernel
theorem k_bipush_40 : (Int8.ofInt (40)).toInt32 = (40 : Int32) := by decide +kernel
theorem k_bipush_50 : (Int8.ofInt (50)).toInt32 = (50 : Int32) := by decide +kernel
theorem k_bipush_60 : (Int8.ofInt (60)).toInt32 = (60 : Int32) := by decide +kernel
theorem k_bipush_70 : (Int8.ofInt (70)).toInt32 = (70 : Int32) := by decide +kernel
theorem k_bipush_80 : (Int8.ofInt (80)).toInt32 = (80 : Int32) := by decide +kernel
theorem k_bipush_81 : (Int8.ofInt (81)).toInt32 = (81 : Int32) := by decide +kernel
theorem k_bipush_90 : (Int8.ofInt (90)).toInt32 = (90 : Int32) := by decide +kernel
theorem k_bipush_99 : (Int8.ofInt (99)).toInt32 = (99 : Int32) := by decide +kernel
theorem k_bipush_101 : (Int8.ofInt (101)).toInt32 = (101 : Int32) := by decide +kernel
theorem k_iconst_m1 : Int32.ofInt (-1) = (-1 : Int32) := by decide +kernel
theorem k_iconst_0 : Int32.ofInt (0) = (0 : Int32) := by decide +kernel
theorem k_iconst_1 : Int32.ofInt (1) = (1 : Int32) := by decide +kernel
theorem k_iconst_2 : Int32.ofInt (2) = (2 : Int32) := by decide +kernel
theorem k_iconst_3 : Int32.ofInt (3) = (3 : Int32) := by decide +kernel
theorem k_iconst_4 : Int32.ofInt (4) = (4 : Int32) := by decide +kernel
theorem k_iconst_5 : Int32.ofInt (5) = (5 : Int32) := by decide +kernel
theorem k_iinc_1 (x : Int32) : x + Int32.ofInt (1) = x + (1) := by rw [show Int32.ofInt (1) = (1 : Int32) by decide +kernel]
theorem k_sipush_m500 : (Int16.ofInt (-500)).toInt32 = (-500 : Int32) := by decide +kernel
theorem k_sipush_m400 : (Int16.ofInt (-400)).toInt32 = (-400 : Int32) := by decide +kernel
theorem k_sipush_140 : (Int16.ofInt (140)).toInt32 = (140 : Int32) := by decide +kernel
theorem k_sipush_141 : (Int16.ofInt (141)).toInt32 = (141 : Int32) := by decide +kernel
theorem k_sipush_181 : (Int16.ofInt (181)).toInt32 = (181 : Int32) := by decide +kernel
theorem k_sipush_182 : (Int16.ofInt (182)).toInt32 = (182 : Int32) := by decide +kernel
theorem k_sipush_200 : (Int16.ofInt (200)).toInt32 = (200 : Int32) := by decide +kernel
theorem k_sipush_300 : (Int16.ofInt (300)).toInt32 = (300 : Int32) := by decide +kernel
theorem k_sipush_301 : (Int16.ofInt (301)).toInt32 = (301 : Int32) := by decide +kernel
theorem k_sipush_500 : (Int16.ofInt (500)).toInt32 = (500 : Int32) := by decide +kernel
theorem k_sipush_501 : (Int16.ofInt (501)).toInt32 = (501 : Int32) := by decide +kernel
theorem k_sipush_600 : (Int16.ofInt (600)).toInt32 = (600 : Int32) := by decide +kernel
theorem k_sipush_1000 : (Int16.ofInt (1000)).toInt32 = (1000 : Int32) := by decide +kernel
theorem k_sipush_1500 : (Int16.ofInt (1500)).toInt32 = (1500 : Int32) := by decide +kernel
theorem k_sipush_1600 : (Int16.ofInt (1600)).toInt32 = (1600 : Int32) := by decide +kernel
theorem k_sipush_2000 : (Int16.ofInt (2000)).toInt32 = (2000 : Int32) := by decide +kernel
theorem k_sipush_4000 : (Int16.ofInt (4000)).toInt32 = (4000 : Int32) := by decide +kernel
theorem k_sipush_5000 : (Int16.ofInt (5000)).toInt32 = (5000 : Int32) := by decide +kernel
theorem k_sipush_5001 : (Int16.ofInt (5001)).toInt32 = (5001 : Int32) := by decide +kernel
theorem k_sipush_7919 : (Int16.ofInt (7919)).toInt32 = (7919 : Int32) := by decide +kernel
