theorem ws_priv {w : Cond} (i : Nat) (h : (k2_sels lw_privs)[i]? = some w) (hg : goodWord w = true) : w ∈ WS := List.mem_filter.mpr ⟨List.mem_cons_of_mem _ (by unfold lw_tbl; exact List.mem_append_left _ (List.mem_of_getElem? h)), hg⟩
set_option maxRecDepth 20000 in
theorem kf_0 : KF RJ4 TJ4 4 := ⟨by decide +kernel, ⟨tyJ4, tyJ4_ok⟩, nmJ4⟩
set_option maxRecDepth 20000 in
theorem kf_1 : KF RX0 TX0 3 := ⟨by decide +kernel, ⟨tyX0, tyX0_ok⟩, nmX0⟩
set_option maxRecDepth 20000 in
theorem kf_2 : KF RX1 TX1 9 := ⟨by decide +kernel, ⟨tyX1, tyX1_ok⟩, nmX1⟩
set_option maxRecDepth 20000 in
theorem kf_3 : KF RX2 TX2 3 := ⟨by decide +kernel, ⟨tyX2, tyX2_ok⟩, nmX2⟩
set_option maxRecDepth 20000 in
theorem kf_4 : KF RX3 TX3 3 := ⟨by decide +kernel, ⟨tyX3, tyX3_ok⟩, nmX3⟩
set_option maxRecDepth 20000 in
theorem kf_5 : KF RX4 TX4 4 := ⟨by decide +kernel, ⟨tyX4, tyX4_ok⟩, nmX4⟩
set_option maxRecDepth 20000 in
theorem kf_6 : KF RX5 TX5 3 := ⟨by decide +kernel, ⟨tyX5, tyX5_ok⟩, nmX5⟩
set_option maxRecDepth 20000 in
theorem kf_7 : KF RX6 TX6 7 := ⟨by decide +kernel, ⟨tyX6, tyX6_ok⟩, nmX6⟩
set_option maxRecDepth 20000 in
theorem kf_8 : KF RX7 TX7 9 := ⟨by decide +kernel, ⟨tyX7, tyX7_ok⟩, nmX7⟩
set_option maxRecDepth 20000 in
theorem kf_9 : KF RX8 TX8 13 := ⟨by decide +kernel, ⟨tyX8, tyX8_ok⟩, nmX8⟩
set_option maxRecDepth 20000 in
theorem kf_10 : KF RX9 TX9 28 := ⟨by decide +kernel, ⟨tyX9, tyX9_ok⟩, nmX9⟩
theorem fx_RX8_10 : FX true RX8 10 9 0 13 := ⟨RX8, TX8, 0, rfl, rfl, by decide, by decide, rfl, ws_of 271 (by decide +kernel) rfl, kf_9⟩
theorem fp_RX8_10 : FP true true (.object "RefsSettle$Rows") RX8 10 9 0 13 := ⟨RX8, TX8, 0, rfl, rfl, by decide, by decide, rfl, ws_of 271 (by decide +kernel) rfl, kf_9, by decide +kernel, rfl, fun _ => rfl⟩
theorem fx_RX8_16 : FX true RX8 16 9 1 13 := ⟨RX8, TX8, 1, rfl, rfl, by decide, by decide, rfl, ws_of 272 (by decide +kernel) rfl, kf_9⟩
theorem fp_RX8_16 : FP true true (.array .int) RX8 16 9 1 13 := ⟨RX8, TX8, 1, rfl, rfl, by decide, by decide, rfl, ws_of 272 (by decide +kernel) rfl, kf_9, by decide +kernel, rfl, fun _ => rfl⟩
theorem fx_RX8_23 : FX true RX8 23 9 3 13 := ⟨RX8, TX8, 3, rfl, rfl, by decide, by decide, rfl, ws_of 274 (by decide +kernel) rfl, kf_9⟩
theorem fp_RX8_23 : FP true true (.object "RefsSettle$Reader") RX8 23 9 3 13 := ⟨RX8, TX8, 3, rfl, rfl, by decide, by decide, rfl, ws_of 274 (by decide +kernel) rfl, kf_9, by decide +kernel, rfl, fun _ => rfl⟩
theorem fx_RX8_30 : FX true RX8 30 9 4 13 := ⟨RX8, TX8, 4, rfl, rfl, by decide, by decide, rfl, ws_of 275 (by decide +kernel) rfl, kf_9⟩
theorem fp_RX8_30 : FP true true (.object "RefsSettle$Sheet") RX8 30 9 4 13 := ⟨RX8, TX8, 4, rfl, rfl, by decide, by decide, rfl, ws_of 275 (by decide +kernel) rfl, kf_9, by decide +kernel, rfl, fun _ => rfl⟩
theorem fx_RX8_34 : FX true RX8 34 9 5 13 := ⟨RX8, TX8, 5, rfl, rfl, by decide, by decide, rfl, ws_of 276 (by decide +kernel) rfl, kf_9⟩
theorem fp_RX8_34 : FP true true (.object "RefsSettle$Sheet") RX8 34 9 5 13 := ⟨RX8, TX8, 5, rfl, rfl, by decide, by decide, rfl, ws_of 276 (by decide +kernel) rfl, kf_9, by decide +kernel, rfl, fun _ => rfl⟩
theorem fx_RX8_40 : FX true RX8 40 9 6 13 := ⟨RX8, TX8, 6, rfl, rfl, by decide, by decide, rfl, ws_of 277 (by decide +kernel) rfl, kf_9⟩
theorem fp_RX8_40 : FP true true (.object "RefsSettle$Settling") RX8 40 9 6 13 := ⟨RX8, TX8, 6, rfl, rfl, by decide, by decide, rfl, ws_of 277 (by decide +kernel) rfl, kf_9, by decide +kernel, rfl, fun _ => rfl⟩
theorem fx_RX8_49 : FX true RX8 49 9 7 13 := ⟨RX8, TX8, 7, rfl, rfl, by decide, by decide, rfl, ws_of 278 (by decide +kernel) rfl, kf_9⟩
theorem fp_RX8_49 : FP true true (.object "RefsSettle$Foretelling") RX8 49 9 7 13 := ⟨RX8, TX8, 7, rfl, rfl, by decide, by decide, rfl, ws_of 278 (by decide +kernel) rfl, kf_9, by decide +kernel, rfl, fun _ => rfl⟩
theorem fx_RX8_56 : FX true RX8 56 9 8 13 := ⟨RX8, TX8, 8, rfl, rfl, by decide, by decide, rfl, ws_of 279 (by decide +kernel) rfl, kf_9⟩
theorem fp_RX8_56 : FP true true (.object "RefsSettle$Past") RX8 56 9 8 13 := ⟨RX8, TX8, 8, rfl, rfl, by decide, by decide, rfl, ws_of 279 (by decide +kernel) rfl, kf_9, by decide +kernel, rfl, fun _ => rfl⟩
theorem fx_RX8_60 : FX true RX8 60 9 9 13 := ⟨RX8, TX8, 9, rfl, rfl, by decide, by decide, rfl, ws_of 280 (by decide +kernel) rfl, kf_9⟩
theorem fp_RX8_60 : FP true true (.array (.object "RefsSettle$Sheet")) RX8 60 9 9 13 := ⟨RX8, TX8, 9, rfl, rfl, by decide, by decide, rfl, ws_of 280 (by decide +kernel) rfl, kf_9, by decide +kernel, rfl, fun _ => rfl⟩
theorem fx_RX8_69 : FX true RX8 69 9 10 13 := ⟨RX8, TX8, 10, rfl, rfl, by decide, by decide, rfl, ws_of 281 (by decide +kernel) rfl, kf_9⟩
theorem fp_RX8_69 : FP true true (.object "RefsSettle$Asking") RX8 69 9 10 13 := ⟨RX8, TX8, 10, rfl, rfl, by decide, by decide, rfl, ws_of 281 (by decide +kernel) rfl, kf_9, by decide +kernel, rfl, fun _ => rfl⟩
theorem fx_RX8_114 : FX false RX8 114 9 2 13 := ⟨RX8, TX8, 2, rfl, rfl, by decide, by decide, rfl, ws_of 273 (by decide +kernel) rfl, kf_9⟩
theorem fp_RX8_114 : FP false false .int RX8 114 9 2 13 := ⟨RX8, TX8, 2, rfl, rfl, by decide, by decide, rfl, ws_of 273 (by decide +kernel) rfl, kf_9, by decide +kernel, rfl, fun _ => rfl⟩
theorem fx_RX8_123 : FX false RX8 123 5 3 4 := ⟨RX4, TX4, 3, rfl, rfl, by decide, by decide, rfl, ws_of 65 (by decide +kernel) rfl, kf_5⟩
theorem fx_RX8_126 : FX false RX8 126 9 11 13 := ⟨RX8, TX8, 11, rfl, rfl, by decide, by decide, rfl, ws_of 282 (by decide +kernel) rfl, kf_9⟩
theorem fp_RX8_126 : FP false false .int RX8 126 9 11 13 := ⟨RX8, TX8, 11, rfl, rfl, by decide, by decide, rfl, ws_of 282 (by decide +kernel) rfl, kf_9, by decide +kernel, rfl, fun _ => rfl⟩
theorem fx_RX8_130 : FX false RX8 130 5 2 4 := ⟨RX4, TX4, 2, rfl, rfl, by decide, by decide, rfl, ws_of 63 (by decide +kernel) rfl, kf_5⟩
theorem fx_RX8_139 : FX false RX8 139 8 0 9 := ⟨RX7, TX7, 0, rfl, rfl, by decide, by decide, rfl, ws_of 86 (by decide +kernel) rfl, kf_8⟩
theorem fx_RX8_147 : FX false RX8 147 8 4 9 := ⟨RX7, TX7, 4, rfl, rfl, by decide, by decide, rfl, ws_of 102 (by decide +kernel) rfl, kf_8⟩
theorem fp_RX8_147 : FP false false .int RX8 147 8 4 9 := ⟨RX7, TX7, 4, rfl, rfl, by decide, by decide, rfl, ws_of 102 (by decide +kernel) rfl, kf_8, by decide +kernel, rfl, fun z => by cases z⟩
theorem fx_RX8_161 : FX false RX8 161 7 3 7 := ⟨RX6, TX6, 3, rfl, rfl, by decide, by decide, rfl, ws_of 173 (by decide +kernel) rfl, kf_7⟩
theorem fx_RX8_165 : FX true RX8 165 8 5 9 := ⟨RX7, TX7, 5, rfl, rfl, by decide, by decide, rfl, ws_of 108 (by decide +kernel) rfl, kf_8⟩
theorem fx_RX8_171 : FX true RX8 171 8 6 9 := ⟨RX7, TX7, 6, rfl, rfl, by decide, by decide, rfl, ws_of 112 (by decide +kernel) rfl, kf_8⟩
theorem fx_RX8_195 : FX false RX8 195 4 2 3 := ⟨RX3, TX3, 2, rfl, rfl, by decide, by decide, rfl, ws_of 245 (by decide +kernel) rfl, kf_4⟩
theorem fx_RX8_201 : FX true RX8 201 8 7 9 := ⟨RX7, TX7, 7, rfl, rfl, by decide, by decide, rfl, ws_of 118 (by decide +kernel) rfl, kf_8⟩
theorem fx_RX8_204 : FX true RX8 204 8 8 9 := ⟨RX7, TX7, 8, rfl, rfl, by decide, by decide, rfl, ws_of 121 (by decide +kernel) rfl, kf_8⟩
theorem fx_RX8_215 : FX true RX8 215 3 0 3 := ⟨RX2, TX2, 0, rfl, rfl, by decide, by decide, rfl, ws_of 156 (by decide +kernel) rfl, kf_3⟩
theorem fx_RX8_220 : FX true RX8 220 3 1 3 := ⟨RX2, TX2, 1, rfl, rfl, by decide, by decide, rfl, ws_of 158 (by decide +kernel) rfl, kf_3⟩
theorem fx_RX8_223 : FX true RX8 223 3 2 3 := ⟨RX2, TX2, 2, rfl, rfl, by decide, by decide, rfl, ws_of 160 (by decide +kernel) rfl, kf_3⟩
theorem fx_RX8_239 : FX false RX8 239 7 4 7 := ⟨RX6, TX6, 4, rfl, rfl, by decide, by decide, rfl, ws_of 176 (by decide +kernel) rfl, kf_7⟩
theorem fx_RX8_242 : FX false RX8 242 7 5 7 := ⟨RX6, TX6, 5, rfl, rfl, by decide, by decide, rfl, ws_of 178 (by decide +kernel) rfl, kf_7⟩
theorem fx_RX8_248 : FX false RX8 248 7 6 7 := ⟨RX6, TX6, 6, rfl, rfl, by decide, by decide, rfl, ws_of 181 (by decide +kernel) rfl, kf_7⟩
theorem fx_RX8_261 : FX true RX8 261 6 2 3 := ⟨RX5, TX5, 2, rfl, rfl, by decide, by decide, rfl, ws_of 45 (by decide +kernel) rfl, kf_6⟩
theorem fx_RX8_317 : FX false RX8 317 1 2 3 := ⟨RX0, TX0, 2, rfl, rfl, by decide, by decide, rfl, ws_of 263 (by decide +kernel) rfl, kf_1⟩
theorem fx_RX8_320 : FX true RX8 320 1 1 3 := ⟨RX0, TX0, 1, rfl, rfl, by decide, by decide, rfl, ws_of 261 (by decide +kernel) rfl, kf_1⟩
theorem fx_RX8_327 : FX false RX8 327 8 1 9 := ⟨RX7, TX7, 1, rfl, rfl, by decide, by decide, rfl, ws_of 90 (by decide +kernel) rfl, kf_8⟩
theorem fp_RX8_327 : FP false false .int RX8 327 8 1 9 := ⟨RX7, TX7, 1, rfl, rfl, by decide, by decide, rfl, ws_of 90 (by decide +kernel) rfl, kf_8, by decide +kernel, rfl, fun z => by cases z⟩
theorem fx_RX8_330 : FX false RX8 330 8 2 9 := ⟨RX7, TX7, 2, rfl, rfl, by decide, by decide, rfl, ws_of 94 (by decide +kernel) rfl, kf_8⟩
theorem fp_RX8_330 : FP false false .int RX8 330 8 2 9 := ⟨RX7, TX7, 2, rfl, rfl, by decide, by decide, rfl, ws_of 94 (by decide +kernel) rfl, kf_8, by decide +kernel, rfl, fun z => by cases z⟩
theorem fx_RX8_332 : FX false RX8 332 8 3 9 := ⟨RX7, TX7, 3, rfl, rfl, by decide, by decide, rfl, ws_of 99 (by decide +kernel) rfl, kf_8⟩
theorem fp_RX8_332 : FP false false .int RX8 332 8 3 9 := ⟨RX7, TX7, 3, rfl, rfl, by decide, by decide, rfl, ws_of 99 (by decide +kernel) rfl, kf_8, by decide +kernel, rfl, fun z => by cases z⟩
theorem fx_RX8_335 : FX false RX8 335 9 12 13 := ⟨RX8, TX8, 12, rfl, rfl, by decide, by decide, rfl, ws_of 283 (by decide +kernel) rfl, kf_9⟩
theorem fp_RX8_335 : FP false false .int RX8 335 9 12 13 := ⟨RX8, TX8, 12, rfl, rfl, by decide, by decide, rfl, ws_of 283 (by decide +kernel) rfl, kf_9, by decide +kernel, rfl, fun _ => rfl⟩
theorem fx_RX0_9 : FX true RX0 9 1 1 3 := ⟨RX0, TX0, 1, rfl, rfl, by decide, by decide, rfl, ws_of 260 (by decide +kernel) rfl, kf_1⟩
theorem fp_RX0_9 : FP true true (.array .int) RX0 9 1 1 3 := ⟨RX0, TX0, 1, rfl, rfl, by decide, by decide, rfl, ws_of 260 (by decide +kernel) rfl, kf_1, by decide +kernel, rfl, fun _ => rfl⟩
theorem fx_RX0_15 : FX true RX0 15 1 0 3 := ⟨RX0, TX0, 0, rfl, rfl, by decide, by decide, rfl, ws_of 259 (by decide +kernel) rfl, kf_1⟩
theorem fp_RX0_15 : FP true true (.object "RefsSettle$Sheet") RX0 15 1 0 3 := ⟨RX0, TX0, 0, rfl, rfl, by decide, by decide, rfl, ws_of 259 (by decide +kernel) rfl, kf_1, by decide +kernel, rfl, fun _ => rfl⟩
theorem fx_RX0_19 : FX false RX0 19 1 2 3 := ⟨RX0, TX0, 2, rfl, rfl, by decide, by decide, rfl, ws_of 262 (by decide +kernel) rfl, kf_1⟩
theorem fp_RX0_19 : FP false false .int RX0 19 1 2 3 := ⟨RX0, TX0, 2, rfl, rfl, by decide, by decide, rfl, ws_of 262 (by decide +kernel) rfl, kf_1, by decide +kernel, rfl, fun _ => rfl⟩
theorem fx_RX0_23 : FX true RX0 23 8 5 9 := ⟨RX7, TX7, 5, rfl, rfl, by decide, by decide, rfl, ws_of 105 (by decide +kernel) rfl, kf_8⟩
theorem fx_RX0_42 : FX true RX0 42 8 7 9 := ⟨RX7, TX7, 7, rfl, rfl, by decide, by decide, rfl, ws_of 117 (by decide +kernel) rfl, kf_8⟩
theorem fx_RX1_12 : FX true RX1 12 2 3 9 := ⟨RX1, TX1, 3, rfl, rfl, by decide, by decide, rfl, ws_of 208 (by decide +kernel) rfl, kf_2⟩
theorem fp_RX1_12 : FP true true (.object "RefsSettle$Outline") RX1 12 2 3 9 := ⟨RX1, TX1, 3, rfl, rfl, by decide, by decide, rfl, ws_of 208 (by decide +kernel) rfl, kf_2, by decide +kernel, rfl, fun _ => rfl⟩
theorem fx_RX1_18 : FX true RX1 18 2 4 9 := ⟨RX1, TX1, 4, rfl, rfl, by decide, by decide, rfl, ws_of 209 (by decide +kernel) rfl, kf_2⟩
theorem fp_RX1_18 : FP true true (.array .int) RX1 18 2 4 9 := ⟨RX1, TX1, 4, rfl, rfl, by decide, by decide, rfl, ws_of 209 (by decide +kernel) rfl, kf_2, by decide +kernel, rfl, fun _ => rfl⟩
theorem fx_RX1_22 : FX true RX1 22 2 0 9 := ⟨RX1, TX1, 0, rfl, rfl, by decide, by decide, rfl, ws_of 205 (by decide +kernel) rfl, kf_2⟩
theorem fp_RX1_22 : FP true true (.object "RefsSettle$Sheet") RX1 22 2 0 9 := ⟨RX1, TX1, 0, rfl, rfl, by decide, by decide, rfl, ws_of 205 (by decide +kernel) rfl, kf_2, by decide +kernel, rfl, fun _ => rfl⟩
theorem fx_RX1_26 : FX true RX1 26 2 1 9 := ⟨RX1, TX1, 1, rfl, rfl, by decide, by decide, rfl, ws_of 206 (by decide +kernel) rfl, kf_2⟩
theorem fp_RX1_26 : FP true true (.object "RefsSettle$Sheet") RX1 26 2 1 9 := ⟨RX1, TX1, 1, rfl, rfl, by decide, by decide, rfl, ws_of 206 (by decide +kernel) rfl, kf_2, by decide +kernel, rfl, fun _ => rfl⟩
theorem fx_RX1_29 : FX true RX1 29 2 2 9 := ⟨RX1, TX1, 2, rfl, rfl, by decide, by decide, rfl, ws_of 207 (by decide +kernel) rfl, kf_2⟩
theorem fp_RX1_29 : FP true true (.object "RefsSettle$Settling") RX1 29 2 2 9 := ⟨RX1, TX1, 2, rfl, rfl, by decide, by decide, rfl, ws_of 207 (by decide +kernel) rfl, kf_2, by decide +kernel, rfl, fun _ => rfl⟩
theorem fx_RX1_33 : FX true RX1 33 2 6 9 := ⟨RX1, TX1, 6, rfl, rfl, by decide, by decide, rfl, ws_of 211 (by decide +kernel) rfl, kf_2⟩
theorem fp_RX1_33 : FP true false (.array .int) RX1 33 2 6 9 := ⟨RX1, TX1, 6, rfl, rfl, by decide, by decide, rfl, ws_of 211 (by decide +kernel) rfl, kf_2, by decide +kernel, rfl, fun _ => rfl⟩
theorem fx_RX1_48 : FX true RX1 48 8 7 9 := ⟨RX7, TX7, 7, rfl, rfl, by decide, by decide, rfl, ws_of 114 (by decide +kernel) rfl, kf_8⟩
theorem fx_RX1_55 : FX false RX1 55 8 0 9 := ⟨RX7, TX7, 0, rfl, rfl, by decide, by decide, rfl, ws_of 85 (by decide +kernel) rfl, kf_8⟩
theorem fx_RX1_59 : FX true RX1 59 8 6 9 := ⟨RX7, TX7, 6, rfl, rfl, by decide, by decide, rfl, ws_of 110 (by decide +kernel) rfl, kf_8⟩
theorem fx_RX1_69 : FX true RX1 69 3 0 3 := ⟨RX2, TX2, 0, rfl, rfl, by decide, by decide, rfl, ws_of 155 (by decide +kernel) rfl, kf_3⟩
theorem fp_RX1_95 : FP false false .int RX1 95 8 3 9 := ⟨RX7, TX7, 3, rfl, rfl, by decide, by decide, rfl, ws_of 98 (by decide +kernel) rfl, kf_8, by decide +kernel, rfl, fun z => by cases z⟩
theorem fx_RX1_98 : FX false RX1 98 7 4 7 := ⟨RX6, TX6, 4, rfl, rfl, by decide, by decide, rfl, ws_of 175 (by decide +kernel) rfl, kf_7⟩
theorem fx_RX1_102 : FX false RX1 102 2 5 9 := ⟨RX1, TX1, 5, rfl, rfl, by decide, by decide, rfl, ws_of 210 (by decide +kernel) rfl, kf_2⟩
theorem fp_RX1_102 : FP false false .int RX1 102 2 5 9 := ⟨RX1, TX1, 5, rfl, rfl, by decide, by decide, rfl, ws_of 210 (by decide +kernel) rfl, kf_2, by decide +kernel, rfl, fun _ => rfl⟩
theorem fx_RX1_105 : FX false RX1 105 2 7 9 := ⟨RX1, TX1, 7, rfl, rfl, by decide, by decide, rfl, ws_of 212 (by decide +kernel) rfl, kf_2⟩
theorem fp_RX1_105 : FP false false .int RX1 105 2 7 9 := ⟨RX1, TX1, 7, rfl, rfl, by decide, by decide, rfl, ws_of 212 (by decide +kernel) rfl, kf_2, by decide +kernel, rfl, fun _ => rfl⟩
theorem fx_RX1_108 : FX false RX1 108 2 8 9 := ⟨RX1, TX1, 8, rfl, rfl, by decide, by decide, rfl, ws_of 213 (by decide +kernel) rfl, kf_2⟩
theorem fp_RX1_108 : FP false false .int RX1 108 2 8 9 := ⟨RX1, TX1, 8, rfl, rfl, by decide, by decide, rfl, ws_of 213 (by decide +kernel) rfl, kf_2, by decide +kernel, rfl, fun _ => rfl⟩
theorem fx_RX1_111 : FX true RX1 111 8 5 9 := ⟨RX7, TX7, 5, rfl, rfl, by decide, by decide, rfl, ws_of 107 (by decide +kernel) rfl, kf_8⟩
theorem fx_RX1_134 : FX false RX1 134 7 6 7 := ⟨RX6, TX6, 6, rfl, rfl, by decide, by decide, rfl, ws_of 180 (by decide +kernel) rfl, kf_7⟩
theorem fx_RX2_9 : FX true RX2 9 3 0 3 := ⟨RX2, TX2, 0, rfl, rfl, by decide, by decide, rfl, ws_of 153 (by decide +kernel) rfl, kf_3⟩
theorem fp_RX2_9 : FP true true (.array .int) RX2 9 3 0 3 := ⟨RX2, TX2, 0, rfl, rfl, by decide, by decide, rfl, ws_of 153 (by decide +kernel) rfl, kf_3, by decide +kernel, rfl, fun _ => rfl⟩
theorem fx_RX2_15 : FX true RX2 15 3 1 3 := ⟨RX2, TX2, 1, rfl, rfl, by decide, by decide, rfl, ws_of 157 (by decide +kernel) rfl, kf_3⟩
theorem fp_RX2_15 : FP true true (.array .int) RX2 15 3 1 3 := ⟨RX2, TX2, 1, rfl, rfl, by decide, by decide, rfl, ws_of 157 (by decide +kernel) rfl, kf_3, by decide +kernel, rfl, fun _ => rfl⟩
theorem fx_RX2_18 : FX true RX2 18 3 2 3 := ⟨RX2, TX2, 2, rfl, rfl, by decide, by decide, rfl, ws_of 159 (by decide +kernel) rfl, kf_3⟩
theorem fp_RX2_18 : FP true true (.array .int) RX2 18 3 2 3 := ⟨RX2, TX2, 2, rfl, rfl, by decide, by decide, rfl, ws_of 159 (by decide +kernel) rfl, kf_3, by decide +kernel, rfl, fun _ => rfl⟩
theorem fx_RX2_21 : FX false RX2 21 8 3 9 := ⟨RX7, TX7, 3, rfl, rfl, by decide, by decide, rfl, ws_of 95 (by decide +kernel) rfl, kf_8⟩
theorem fx_RX2_27 : FX false RX2 27 8 0 9 := ⟨RX7, TX7, 0, rfl, rfl, by decide, by decide, rfl, ws_of 82 (by decide +kernel) rfl, kf_8⟩
theorem fx_RX2_30 : FX true RX2 30 8 5 9 := ⟨RX7, TX7, 5, rfl, rfl, by decide, by decide, rfl, ws_of 104 (by decide +kernel) rfl, kf_8⟩
theorem fx_RX2_33 : FX true RX2 33 8 7 9 := ⟨RX7, TX7, 7, rfl, rfl, by decide, by decide, rfl, ws_of 115 (by decide +kernel) rfl, kf_8⟩
theorem fx_RX2_40 : FX false RX2 40 8 1 9 := ⟨RX7, TX7, 1, rfl, rfl, by decide, by decide, rfl, ws_of 88 (by decide +kernel) rfl, kf_8⟩
theorem fx_RX2_43 : FX false RX2 43 8 2 9 := ⟨RX7, TX7, 2, rfl, rfl, by decide, by decide, rfl, ws_of 92 (by decide +kernel) rfl, kf_8⟩
theorem fx_RX3_11 : FX true RX3 11 4 0 3 := ⟨RX3, TX3, 0, rfl, rfl, by decide, by decide, rfl, ws_of 242 (by decide +kernel) rfl, kf_4⟩
theorem fp_RX3_11 : FP true true (.array (.object "RefsSettle$Sheet")) RX3 11 4 0 3 := ⟨RX3, TX3, 0, rfl, rfl, by decide, by decide, rfl, ws_of 242 (by decide +kernel) rfl, kf_4, by decide +kernel, rfl, fun _ => rfl⟩
theorem fx_RX3_16 : FX false RX3 16 4 1 3 := ⟨RX3, TX3, 1, rfl, rfl, by decide, by decide, rfl, ws_of 243 (by decide +kernel) rfl, kf_4⟩
theorem fp_RX3_16 : FP false false .int RX3 16 4 1 3 := ⟨RX3, TX3, 1, rfl, rfl, by decide, by decide, rfl, ws_of 243 (by decide +kernel) rfl, kf_4, by decide +kernel, rfl, fun _ => rfl⟩
theorem fx_RX3_20 : FX false RX3 20 4 2 3 := ⟨RX3, TX3, 2, rfl, rfl, by decide, by decide, rfl, ws_of 244 (by decide +kernel) rfl, kf_4⟩
theorem fp_RX3_20 : FP false false .int RX3 20 4 2 3 := ⟨RX3, TX3, 2, rfl, rfl, by decide, by decide, rfl, ws_of 244 (by decide +kernel) rfl, kf_4, by decide +kernel, rfl, fun _ => rfl⟩
theorem fx_RX4_9 : FX true RX4 9 5 0 4 := ⟨RX4, TX4, 0, rfl, rfl, by decide, by decide, rfl, ws_of 60 (by decide +kernel) rfl, kf_5⟩
theorem fp_RX4_9 : FP true false (.array .int) RX4 9 5 0 4 := ⟨RX4, TX4, 0, rfl, rfl, by decide, by decide, rfl, ws_of 60 (by decide +kernel) rfl, kf_5, by decide +kernel, rfl, fun _ => rfl⟩
theorem fx_RX4_21 : FX false RX4 21 5 1 4 := ⟨RX4, TX4, 1, rfl, rfl, by decide, by decide, rfl, ws_of 61 (by decide +kernel) rfl, kf_5⟩
theorem fp_RX4_21 : FP false false .int RX4 21 5 1 4 := ⟨RX4, TX4, 1, rfl, rfl, by decide, by decide, rfl, ws_of 61 (by decide +kernel) rfl, kf_5, by decide +kernel, rfl, fun _ => rfl⟩
theorem fx_RX4_25 : FX false RX4 25 5 2 4 := ⟨RX4, TX4, 2, rfl, rfl, by decide, by decide, rfl, ws_of 62 (by decide +kernel) rfl, kf_5⟩
theorem fp_RX4_25 : FP false false .int RX4 25 5 2 4 := ⟨RX4, TX4, 2, rfl, rfl, by decide, by decide, rfl, ws_of 62 (by decide +kernel) rfl, kf_5, by decide +kernel, rfl, fun _ => rfl⟩
theorem fx_RX4_28 : FX false RX4 28 5 3 4 := ⟨RX4, TX4, 3, rfl, rfl, by decide, by decide, rfl, ws_of 64 (by decide +kernel) rfl, kf_5⟩
theorem fp_RX4_28 : FP false false .int RX4 28 5 3 4 := ⟨RX4, TX4, 3, rfl, rfl, by decide, by decide, rfl, ws_of 64 (by decide +kernel) rfl, kf_5, by decide +kernel, rfl, fun _ => rfl⟩
theorem fx_RX4_31 : FX false RX4 31 8 0 9 := ⟨RX7, TX7, 0, rfl, rfl, by decide, by decide, rfl, ws_of 83 (by decide +kernel) rfl, kf_8⟩
theorem fp_RX4_31 : FP false false .int RX4 31 8 0 9 := ⟨RX7, TX7, 0, rfl, rfl, by decide, by decide, rfl, ws_of 83 (by decide +kernel) rfl, kf_8, by decide +kernel, rfl, fun z => by cases z⟩
theorem fp_RX4_36 : FP false false .int RX4 36 8 4 9 := ⟨RX7, TX7, 4, rfl, rfl, by decide, by decide, rfl, ws_of 100 (by decide +kernel) rfl, kf_8, by decide +kernel, rfl, fun z => by cases z⟩
theorem fp_RX4_59 : FP false false .int RX4 59 8 1 9 := ⟨RX7, TX7, 1, rfl, rfl, by decide, by decide, rfl, ws_of 89 (by decide +kernel) rfl, kf_8, by decide +kernel, rfl, fun z => by cases z⟩
theorem fp_RX4_62 : FP false false .int RX4 62 8 2 9 := ⟨RX7, TX7, 2, rfl, rfl, by decide, by decide, rfl, ws_of 93 (by decide +kernel) rfl, kf_8, by decide +kernel, rfl, fun z => by cases z⟩
theorem fp_RX4_65 : FP false false .int RX4 65 8 3 9 := ⟨RX7, TX7, 3, rfl, rfl, by decide, by decide, rfl, ws_of 97 (by decide +kernel) rfl, kf_8, by decide +kernel, rfl, fun z => by cases z⟩
theorem fx_RX4_73 : FX true RX4 73 8 5 9 := ⟨RX7, TX7, 5, rfl, rfl, by decide, by decide, rfl, ws_of 106 (by decide +kernel) rfl, kf_8⟩
theorem fx_RX4_76 : FX true RX4 76 8 6 9 := ⟨RX7, TX7, 6, rfl, rfl, by decide, by decide, rfl, ws_of 111 (by decide +kernel) rfl, kf_8⟩
theorem fx_RX5_9 : FX true RX5 9 6 0 3 := ⟨RX5, TX5, 0, rfl, rfl, by decide, by decide, rfl, ws_of 42 (by decide +kernel) rfl, kf_6⟩
theorem fp_RX5_9 : FP true true (.array .int) RX5 9 6 0 3 := ⟨RX5, TX5, 0, rfl, rfl, by decide, by decide, rfl, ws_of 42 (by decide +kernel) rfl, kf_6, by decide +kernel, rfl, fun _ => rfl⟩
theorem fx_RX5_13 : FX true RX5 13 6 1 3 := ⟨RX5, TX5, 1, rfl, rfl, by decide, by decide, rfl, ws_of 43 (by decide +kernel) rfl, kf_6⟩
theorem fp_RX5_13 : FP true true (.array .int) RX5 13 6 1 3 := ⟨RX5, TX5, 1, rfl, rfl, by decide, by decide, rfl, ws_of 43 (by decide +kernel) rfl, kf_6, by decide +kernel, rfl, fun _ => rfl⟩
theorem fx_RX5_18 : FX true RX5 18 6 2 3 := ⟨RX5, TX5, 2, rfl, rfl, by decide, by decide, rfl, ws_of 44 (by decide +kernel) rfl, kf_6⟩
theorem fp_RX5_18 : FP true true (.array (.array .int)) RX5 18 6 2 3 := ⟨RX5, TX5, 2, rfl, rfl, by decide, by decide, rfl, ws_of 44 (by decide +kernel) rfl, kf_6, by decide +kernel, rfl, fun _ => rfl⟩
theorem fx_RX6_12 : FX true RX6 12 7 0 7 := ⟨RX6, TX6, 0, rfl, rfl, by decide, by decide, rfl, ws_of 169 (by decide +kernel) rfl, kf_7⟩
theorem fp_RX6_12 : FP true true (.object "RefsSettle$Outline") RX6 12 7 0 7 := ⟨RX6, TX6, 0, rfl, rfl, by decide, by decide, rfl, ws_of 169 (by decide +kernel) rfl, kf_7, by decide +kernel, rfl, fun _ => rfl⟩
theorem fx_RX6_20 : FX true RX6 20 7 1 7 := ⟨RX6, TX6, 1, rfl, rfl, by decide, by decide, rfl, ws_of 170 (by decide +kernel) rfl, kf_7⟩
theorem fp_RX6_20 : FP true true (.array (.array .int)) RX6 20 7 1 7 := ⟨RX6, TX6, 1, rfl, rfl, by decide, by decide, rfl, ws_of 170 (by decide +kernel) rfl, kf_7, by decide +kernel, rfl, fun _ => rfl⟩
theorem fx_RX6_27 : FX false RX6 27 8 0 9 := ⟨RX7, TX7, 0, rfl, rfl, by decide, by decide, rfl, ws_of 84 (by decide +kernel) rfl, kf_8⟩
theorem fx_RX6_33 : FX true RX6 33 8 7 9 := ⟨RX7, TX7, 7, rfl, rfl, by decide, by decide, rfl, ws_of 116 (by decide +kernel) rfl, kf_8⟩
theorem fx_RX6_37 : FX true RX6 37 3 0 3 := ⟨RX2, TX2, 0, rfl, rfl, by decide, by decide, rfl, ws_of 154 (by decide +kernel) rfl, kf_3⟩
theorem fx_RX6_40 : FX false RX6 40 7 3 7 := ⟨RX6, TX6, 3, rfl, rfl, by decide, by decide, rfl, ws_of 172 (by decide +kernel) rfl, kf_7⟩
theorem fp_RX6_40 : FP false false .int RX6 40 7 3 7 := ⟨RX6, TX6, 3, rfl, rfl, by decide, by decide, rfl, ws_of 172 (by decide +kernel) rfl, kf_7, by decide +kernel, rfl, fun _ => rfl⟩
theorem fx_RX6_43 : FX false RX6 43 7 4 7 := ⟨RX6, TX6, 4, rfl, rfl, by decide, by decide, rfl, ws_of 174 (by decide +kernel) rfl, kf_7⟩
theorem fp_RX6_43 : FP false false .int RX6 43 7 4 7 := ⟨RX6, TX6, 4, rfl, rfl, by decide, by decide, rfl, ws_of 174 (by decide +kernel) rfl, kf_7, by decide +kernel, rfl, fun _ => rfl⟩
theorem fp_RX6_46 : FP false false .int RX6 46 7 5 7 := ⟨RX6, TX6, 5, rfl, rfl, by decide, by decide, rfl, ws_of 177 (by decide +kernel) rfl, kf_7, by decide +kernel, rfl, fun _ => rfl⟩
theorem fx_RX6_49 : FX false RX6 49 7 2 7 := ⟨RX6, TX6, 2, rfl, rfl, by decide, by decide, rfl, ws_of 171 (by decide +kernel) rfl, kf_7⟩
theorem fp_RX6_49 : FP false false .int RX6 49 7 2 7 := ⟨RX6, TX6, 2, rfl, rfl, by decide, by decide, rfl, ws_of 171 (by decide +kernel) rfl, kf_7, by decide +kernel, rfl, fun _ => rfl⟩
theorem fx_RX6_56 : FX false RX6 56 7 6 7 := ⟨RX6, TX6, 6, rfl, rfl, by decide, by decide, rfl, ws_of 179 (by decide +kernel) rfl, kf_7⟩
theorem fp_RX6_56 : FP false false .boolean RX6 56 7 6 7 := ⟨RX6, TX6, 6, rfl, rfl, by decide, by decide, rfl, ws_of 179 (by decide +kernel) rfl, kf_7, by decide +kernel, rfl, fun _ => rfl⟩
theorem fx_RX6_98 : FX true RX6 98 8 8 9 := ⟨RX7, TX7, 8, rfl, rfl, by decide, by decide, rfl, ws_of 120 (by decide +kernel) rfl, kf_8⟩
theorem fx_RX7_9 : FX true RX7 9 8 5 9 := ⟨RX7, TX7, 5, rfl, rfl, by decide, by decide, rfl, ws_of 103 (by decide +kernel) rfl, kf_8⟩
theorem fp_RX7_9 : FP true true (.array .int) RX7 9 8 5 9 := ⟨RX7, TX7, 5, rfl, rfl, by decide, by decide, rfl, ws_of 103 (by decide +kernel) rfl, kf_8, by decide +kernel, rfl, fun _ => rfl⟩
theorem fx_RX7_15 : FX true RX7 15 8 6 9 := ⟨RX7, TX7, 6, rfl, rfl, by decide, by decide, rfl, ws_of 109 (by decide +kernel) rfl, kf_8⟩
theorem fp_RX7_15 : FP true true (.array .int) RX7 15 8 6 9 := ⟨RX7, TX7, 6, rfl, rfl, by decide, by decide, rfl, ws_of 109 (by decide +kernel) rfl, kf_8, by decide +kernel, rfl, fun _ => rfl⟩
theorem fx_RX7_18 : FX true RX7 18 8 7 9 := ⟨RX7, TX7, 7, rfl, rfl, by decide, by decide, rfl, ws_of 113 (by decide +kernel) rfl, kf_8⟩
theorem fp_RX7_18 : FP true true (.array .int) RX7 18 8 7 9 := ⟨RX7, TX7, 7, rfl, rfl, by decide, by decide, rfl, ws_of 113 (by decide +kernel) rfl, kf_8, by decide +kernel, rfl, fun _ => rfl⟩
theorem fx_RX7_21 : FX true RX7 21 8 8 9 := ⟨RX7, TX7, 8, rfl, rfl, by decide, by decide, rfl, ws_of 119 (by decide +kernel) rfl, kf_8⟩
theorem fp_RX7_21 : FP true true (.array .int) RX7 21 8 8 9 := ⟨RX7, TX7, 8, rfl, rfl, by decide, by decide, rfl, ws_of 119 (by decide +kernel) rfl, kf_8, by decide +kernel, rfl, fun _ => rfl⟩
theorem fx_RX7_24 : FX false RX7 24 8 0 9 := ⟨RX7, TX7, 0, rfl, rfl, by decide, by decide, rfl, ws_of 81 (by decide +kernel) rfl, kf_8⟩
theorem fp_RX7_24 : FP false false .int RX7 24 8 0 9 := ⟨RX7, TX7, 0, rfl, rfl, by decide, by decide, rfl, ws_of 81 (by decide +kernel) rfl, kf_8, by decide +kernel, rfl, fun _ => rfl⟩
theorem fx_RX7_28 : FX false RX7 28 8 1 9 := ⟨RX7, TX7, 1, rfl, rfl, by decide, by decide, rfl, ws_of 87 (by decide +kernel) rfl, kf_8⟩
theorem fp_RX7_28 : FP false false .int RX7 28 8 1 9 := ⟨RX7, TX7, 1, rfl, rfl, by decide, by decide, rfl, ws_of 87 (by decide +kernel) rfl, kf_8, by decide +kernel, rfl, fun _ => rfl⟩
theorem fx_RX7_31 : FX false RX7 31 8 2 9 := ⟨RX7, TX7, 2, rfl, rfl, by decide, by decide, rfl, ws_of 91 (by decide +kernel) rfl, kf_8⟩
theorem fp_RX7_31 : FP false false .int RX7 31 8 2 9 := ⟨RX7, TX7, 2, rfl, rfl, by decide, by decide, rfl, ws_of 91 (by decide +kernel) rfl, kf_8, by decide +kernel, rfl, fun _ => rfl⟩
theorem fx_RX7_34 : FX false RX7 34 8 3 9 := ⟨RX7, TX7, 3, rfl, rfl, by decide, by decide, rfl, ws_of 96 (by decide +kernel) rfl, kf_8⟩
theorem fp_RX7_34 : FP false false .int RX7 34 8 3 9 := ⟨RX7, TX7, 3, rfl, rfl, by decide, by decide, rfl, ws_of 96 (by decide +kernel) rfl, kf_8, by decide +kernel, rfl, fun _ => rfl⟩
theorem fx_RX7_37 : FX false RX7 37 8 4 9 := ⟨RX7, TX7, 4, rfl, rfl, by decide, by decide, rfl, ws_of 101 (by decide +kernel) rfl, kf_8⟩
theorem fp_RX7_37 : FP false false .int RX7 37 8 4 9 := ⟨RX7, TX7, 4, rfl, rfl, by decide, by decide, rfl, ws_of 101 (by decide +kernel) rfl, kf_8, by decide +kernel, rfl, fun _ => rfl⟩
theorem fx_RX9_7 : FX true RX9 7 10 0 28 := ⟨RX9, TX9, 0, rfl, rfl, by decide, by decide, rfl, ws_of 978 (by decide +kernel) rfl, kf_10⟩
theorem fp_RX9_7 : FP true true (.array .int) RX9 7 10 0 28 := ⟨RX9, TX9, 0, rfl, rfl, by decide, by decide, rfl, ws_of 978 (by decide +kernel) rfl, kf_10, by decide +kernel, rfl, fun _ => rfl⟩
theorem fx_RX9_13 : FX true RX9 13 10 1 28 := ⟨RX9, TX9, 1, rfl, rfl, by decide, by decide, rfl, ws_of 979 (by decide +kernel) rfl, kf_10⟩
theorem fp_RX9_13 : FP true true (.array .int) RX9 13 10 1 28 := ⟨RX9, TX9, 1, rfl, rfl, by decide, by decide, rfl, ws_of 979 (by decide +kernel) rfl, kf_10, by decide +kernel, rfl, fun _ => rfl⟩
theorem fx_RX9_16 : FX true RX9 16 10 2 28 := ⟨RX9, TX9, 2, rfl, rfl, by decide, by decide, rfl, ws_of 980 (by decide +kernel) rfl, kf_10⟩
theorem fp_RX9_16 : FP true true (.array .int) RX9 16 10 2 28 := ⟨RX9, TX9, 2, rfl, rfl, by decide, by decide, rfl, ws_of 980 (by decide +kernel) rfl, kf_10, by decide +kernel, rfl, fun _ => rfl⟩
theorem fx_RX9_19 : FX true RX9 19 10 3 28 := ⟨RX9, TX9, 3, rfl, rfl, by decide, by decide, rfl, ws_of 981 (by decide +kernel) rfl, kf_10⟩
theorem fp_RX9_19 : FP true true (.array .int) RX9 19 10 3 28 := ⟨RX9, TX9, 3, rfl, rfl, by decide, by decide, rfl, ws_of 981 (by decide +kernel) rfl, kf_10, by decide +kernel, rfl, fun _ => rfl⟩
theorem fx_RX9_22 : FX true RX9 22 10 5 28 := ⟨RX9, TX9, 5, rfl, rfl, by decide, by decide, rfl, ws_of 983 (by decide +kernel) rfl, kf_10⟩
theorem fp_RX9_22 : FP true true (.array .int) RX9 22 10 5 28 := ⟨RX9, TX9, 5, rfl, rfl, by decide, by decide, rfl, ws_of 983 (by decide +kernel) rfl, kf_10, by decide +kernel, rfl, fun _ => rfl⟩
theorem fx_RX9_25 : FX true RX9 25 10 13 28 := ⟨RX9, TX9, 13, rfl, rfl, by decide, by decide, rfl, ws_of 991 (by decide +kernel) rfl, kf_10⟩
theorem fp_RX9_25 : FP true true (.array .int) RX9 25 10 13 28 := ⟨RX9, TX9, 13, rfl, rfl, by decide, by decide, rfl, ws_of 991 (by decide +kernel) rfl, kf_10, by decide +kernel, rfl, fun _ => rfl⟩
theorem fx_RX9_28 : FX true RX9 28 10 14 28 := ⟨RX9, TX9, 14, rfl, rfl, by decide, by decide, rfl, ws_of 992 (by decide +kernel) rfl, kf_10⟩
theorem fp_RX9_28 : FP true true (.array .int) RX9 28 10 14 28 := ⟨RX9, TX9, 14, rfl, rfl, by decide, by decide, rfl, ws_of 992 (by decide +kernel) rfl, kf_10, by decide +kernel, rfl, fun _ => rfl⟩
theorem fx_RX9_31 : FX true RX9 31 10 15 28 := ⟨RX9, TX9, 15, rfl, rfl, by decide, by decide, rfl, ws_of 993 (by decide +kernel) rfl, kf_10⟩
theorem fp_RX9_31 : FP true true (.array .int) RX9 31 10 15 28 := ⟨RX9, TX9, 15, rfl, rfl, by decide, by decide, rfl, ws_of 993 (by decide +kernel) rfl, kf_10, by decide +kernel, rfl, fun _ => rfl⟩
theorem fx_RX9_34 : FX true RX9 34 10 16 28 := ⟨RX9, TX9, 16, rfl, rfl, by decide, by decide, rfl, ws_of 994 (by decide +kernel) rfl, kf_10⟩
theorem fp_RX9_34 : FP true true (.array .int) RX9 34 10 16 28 := ⟨RX9, TX9, 16, rfl, rfl, by decide, by decide, rfl, ws_of 994 (by decide +kernel) rfl, kf_10, by decide +kernel, rfl, fun _ => rfl⟩
theorem fx_RX9_37 : FX true RX9 37 10 18 28 := ⟨RX9, TX9, 18, rfl, rfl, by decide, by decide, rfl, ws_of 996 (by decide +kernel) rfl, kf_10⟩
theorem fp_RX9_37 : FP true true (.array .int) RX9 37 10 18 28 := ⟨RX9, TX9, 18, rfl, rfl, by decide, by decide, rfl, ws_of 996 (by decide +kernel) rfl, kf_10, by decide +kernel, rfl, fun _ => rfl⟩
theorem fx_RX9_40 : FX true RX9 40 10 19 28 := ⟨RX9, TX9, 19, rfl, rfl, by decide, by decide, rfl, ws_of 997 (by decide +kernel) rfl, kf_10⟩
theorem fp_RX9_40 : FP true true (.array .boolean) RX9 40 10 19 28 := ⟨RX9, TX9, 19, rfl, rfl, by decide, by decide, rfl, ws_of 997 (by decide +kernel) rfl, kf_10, by decide +kernel, rfl, fun _ => rfl⟩
theorem fx_RX9_44 : FX true RX9 44 10 20 28 := ⟨RX9, TX9, 20, rfl, rfl, by decide, by decide, rfl, ws_of 998 (by decide +kernel) rfl, kf_10⟩
theorem fp_RX9_44 : FP true true (.array .int) RX9 44 10 20 28 := ⟨RX9, TX9, 20, rfl, rfl, by decide, by decide, rfl, ws_of 998 (by decide +kernel) rfl, kf_10, by decide +kernel, rfl, fun _ => rfl⟩
theorem fx_RX9_47 : FX true RX9 47 10 21 28 := ⟨RX9, TX9, 21, rfl, rfl, by decide, by decide, rfl, ws_of 999 (by decide +kernel) rfl, kf_10⟩
theorem fp_RX9_47 : FP true true (.array .int) RX9 47 10 21 28 := ⟨RX9, TX9, 21, rfl, rfl, by decide, by decide, rfl, ws_of 999 (by decide +kernel) rfl, kf_10, by decide +kernel, rfl, fun _ => rfl⟩
theorem fx_RX9_50 : FX true RX9 50 10 22 28 := ⟨RX9, TX9, 22, rfl, rfl, by decide, by decide, rfl, ws_of 1000 (by decide +kernel) rfl, kf_10⟩
theorem fp_RX9_50 : FP true true (.array .int) RX9 50 10 22 28 := ⟨RX9, TX9, 22, rfl, rfl, by decide, by decide, rfl, ws_of 1000 (by decide +kernel) rfl, kf_10, by decide +kernel, rfl, fun _ => rfl⟩
theorem fx_RX9_53 : FX true RX9 53 10 26 28 := ⟨RX9, TX9, 26, rfl, rfl, by decide, by decide, rfl, ws_of 1004 (by decide +kernel) rfl, kf_10⟩
theorem fp_RX9_53 : FP true true (.array .int) RX9 53 10 26 28 := ⟨RX9, TX9, 26, rfl, rfl, by decide, by decide, rfl, ws_of 1004 (by decide +kernel) rfl, kf_10, by decide +kernel, rfl, fun _ => rfl⟩
theorem fx_RX9_57 : FX false RX9 57 10 4 28 := ⟨RX9, TX9, 4, rfl, rfl, by decide, by decide, rfl, ws_of 982 (by decide +kernel) rfl, kf_10⟩
theorem fp_RX9_57 : FP false false .int RX9 57 10 4 28 := ⟨RX9, TX9, 4, rfl, rfl, by decide, by decide, rfl, ws_of 982 (by decide +kernel) rfl, kf_10, by decide +kernel, rfl, fun _ => rfl⟩
theorem fx_RX9_88 : FX false RX9 88 10 6 28 := ⟨RX9, TX9, 6, rfl, rfl, by decide, by decide, rfl, ws_of 984 (by decide +kernel) rfl, kf_10⟩
theorem fp_RX9_88 : FP false false .int RX9 88 10 6 28 := ⟨RX9, TX9, 6, rfl, rfl, by decide, by decide, rfl, ws_of 984 (by decide +kernel) rfl, kf_10, by decide +kernel, rfl, fun _ => rfl⟩
theorem fx_RX9_92 : FX false RX9 92 10 9 28 := ⟨RX9, TX9, 9, rfl, rfl, by decide, by decide, rfl, ws_of 987 (by decide +kernel) rfl, kf_10⟩
theorem fp_RX9_92 : FP false false .int RX9 92 10 9 28 := ⟨RX9, TX9, 9, rfl, rfl, by decide, by decide, rfl, ws_of 987 (by decide +kernel) rfl, kf_10, by decide +kernel, rfl, fun _ => rfl⟩
theorem fx_RX9_95 : FX false RX9 95 10 10 28 := ⟨RX9, TX9, 10, rfl, rfl, by decide, by decide, rfl, ws_of 988 (by decide +kernel) rfl, kf_10⟩
theorem fp_RX9_95 : FP false false .int RX9 95 10 10 28 := ⟨RX9, TX9, 10, rfl, rfl, by decide, by decide, rfl, ws_of 988 (by decide +kernel) rfl, kf_10, by decide +kernel, rfl, fun _ => rfl⟩
theorem fx_RX9_101 : FX false RX9 101 10 12 28 := ⟨RX9, TX9, 12, rfl, rfl, by decide, by decide, rfl, ws_of 990 (by decide +kernel) rfl, kf_10⟩
theorem fp_RX9_101 : FP false false .int RX9 101 10 12 28 := ⟨RX9, TX9, 12, rfl, rfl, by decide, by decide, rfl, ws_of 990 (by decide +kernel) rfl, kf_10, by decide +kernel, rfl, fun _ => rfl⟩
theorem fx_RX9_104 : FX false RX9 104 10 11 28 := ⟨RX9, TX9, 11, rfl, rfl, by decide, by decide, rfl, ws_of 989 (by decide +kernel) rfl, kf_10⟩
theorem fp_RX9_104 : FP false false .int RX9 104 10 11 28 := ⟨RX9, TX9, 11, rfl, rfl, by decide, by decide, rfl, ws_of 989 (by decide +kernel) rfl, kf_10, by decide +kernel, rfl, fun _ => rfl⟩
theorem fx_RX9_107 : FX false RX9 107 10 8 28 := ⟨RX9, TX9, 8, rfl, rfl, by decide, by decide, rfl, ws_of 986 (by decide +kernel) rfl, kf_10⟩
theorem fp_RX9_107 : FP false false .int RX9 107 10 8 28 := ⟨RX9, TX9, 8, rfl, rfl, by decide, by decide, rfl, ws_of 986 (by decide +kernel) rfl, kf_10, by decide +kernel, rfl, fun _ => rfl⟩
theorem fx_RX9_114 : FX false RX9 114 10 7 28 := ⟨RX9, TX9, 7, rfl, rfl, by decide, by decide, rfl, ws_of 985 (by decide +kernel) rfl, kf_10⟩
theorem fp_RX9_114 : FP false false .int RX9 114 10 7 28 := ⟨RX9, TX9, 7, rfl, rfl, by decide, by decide, rfl, ws_of 985 (by decide +kernel) rfl, kf_10, by decide +kernel, rfl, fun _ => rfl⟩
theorem fx_RX9_149 : FX false RX9 149 10 17 28 := ⟨RX9, TX9, 17, rfl, rfl, by decide, by decide, rfl, ws_of 995 (by decide +kernel) rfl, kf_10⟩
theorem fp_RX9_149 : FP false false .int RX9 149 10 17 28 := ⟨RX9, TX9, 17, rfl, rfl, by decide, by decide, rfl, ws_of 995 (by decide +kernel) rfl, kf_10, by decide +kernel, rfl, fun _ => rfl⟩
theorem fx_RX9_166 : FX false RX9 166 10 23 28 := ⟨RX9, TX9, 23, rfl, rfl, by decide, by decide, rfl, ws_of 1001 (by decide +kernel) rfl, kf_10⟩
theorem fp_RX9_166 : FP false false .int RX9 166 10 23 28 := ⟨RX9, TX9, 23, rfl, rfl, by decide, by decide, rfl, ws_of 1001 (by decide +kernel) rfl, kf_10, by decide +kernel, rfl, fun _ => rfl⟩
theorem fx_RX9_169 : FX false RX9 169 10 24 28 := ⟨RX9, TX9, 24, rfl, rfl, by decide, by decide, rfl, ws_of 1002 (by decide +kernel) rfl, kf_10⟩
theorem fp_RX9_169 : FP false false .int RX9 169 10 24 28 := ⟨RX9, TX9, 24, rfl, rfl, by decide, by decide, rfl, ws_of 1002 (by decide +kernel) rfl, kf_10, by decide +kernel, rfl, fun _ => rfl⟩
theorem fx_RX9_172 : FX false RX9 172 10 25 28 := ⟨RX9, TX9, 25, rfl, rfl, by decide, by decide, rfl, ws_of 1003 (by decide +kernel) rfl, kf_10⟩
theorem fp_RX9_172 : FP false false .int RX9 172 10 25 28 := ⟨RX9, TX9, 25, rfl, rfl, by decide, by decide, rfl, ws_of 1003 (by decide +kernel) rfl, kf_10, by decide +kernel, rfl, fun _ => rfl⟩
theorem fx_RX9_251 : FX false RX9 251 10 27 28 := ⟨RX9, TX9, 27, rfl, rfl, by decide, by decide, rfl, ws_of 1005 (by decide +kernel) rfl, kf_10⟩
theorem fp_RX9_251 : FP false false .int RX9 251 10 27 28 := ⟨RX9, TX9, 27, rfl, rfl, by decide, by decide, rfl, ws_of 1005 (by decide +kernel) rfl, kf_10, by decide +kernel, rfl, fun _ => rfl⟩
theorem fx_RJ5_15 : FX true RJ5 15 0 0 4 := ⟨RJ4, TJ4, 0, rfl, rfl, by decide, by decide, rfl, ws_of 598 (by decide +kernel) rfl, kf_0⟩
theorem fp_RJ5_15 : FP true false (.array .byte) RJ5 15 0 0 4 := ⟨RJ4, TJ4, 0, rfl, rfl, by decide, by decide, rfl, ws_of 598 (by decide +kernel) rfl, kf_0, by decide +kernel, rfl, fun _ => rfl⟩
theorem fx_RJ5_22 : FX false RJ5 22 0 1 4 := ⟨RJ4, TJ4, 1, rfl, rfl, by decide, by decide, rfl, ws_of 599 (by decide +kernel) rfl, kf_0⟩
theorem fp_RJ5_22 : FP false false .byte RJ5 22 0 1 4 := ⟨RJ4, TJ4, 1, rfl, rfl, by decide, by decide, rfl, ws_of 599 (by decide +kernel) rfl, kf_0, by decide +kernel, rfl, fun _ => rfl⟩
theorem fx_RJ5_79 : FX false RJ5 79 0 3 4 := ⟨RJ4, TJ4, 3, rfl, rfl, by decide, by decide, rfl, ws_of 600 (by decide +kernel) rfl, kf_0⟩
theorem fp_RJ5_79 : FP false false .int RJ5 79 0 3 4 := ⟨RJ4, TJ4, 3, rfl, rfl, by decide, by decide, rfl, ws_of 600 (by decide +kernel) rfl, kf_0, by decide +kernel, rfl, fun _ => rfl⟩
theorem kc_RX8_80 : Cond.constant RX8 80 (-1000001) ∈ WS := ws_of 321 (by decide +kernel) rfl
theorem kc_RX8_118 : Cond.constant RX8 118 (-1000003) ∈ WS := ws_of 378 (by decide +kernel) rfl
theorem kc_RX8_129 : Cond.constant RX8 129 (-1000100) ∈ WS := ws_of 431 (by decide +kernel) rfl
theorem kc_RX8_146 : Cond.constant RX8 146 (-1000002) ∈ WS := ws_of 453 (by decide +kernel) rfl
theorem kc_RX8_295 : Cond.constant RX8 295 (999999) ∈ WS := ws_of 885 (by decide +kernel) rfl
theorem kc_RX8_323 : Cond.constant RX8 323 (-1000000) ∈ WS := ws_of 957 (by decide +kernel) rfl
theorem kc_RX8_338 : Cond.constant RX8 338 (-1000010) ∈ WS := ws_of 326 (by decide +kernel) rfl
theorem kc_RX1_101 : Cond.constant RX1 101 (-1000000) ∈ WS := ws_of 826 (by decide +kernel) rfl
theorem kc_RX4_72 : Cond.constant RX4 72 (-1000000) ∈ WS := ws_of 409 (by decide +kernel) rfl
theorem kc_RX7_90 : Cond.constant RX7 90 (-1000000) ∈ WS := ws_of 756 (by decide +kernel) rfl
theorem kc_RX9_56 : Cond.constant RX9 56 (-1000000) ∈ WS := ws_of 977 (by decide +kernel) rfl
theorem kc_RX9_61 : Cond.constant RX9 61 (-1000010) ∈ WS := ws_of 1079 (by decide +kernel) rfl
theorem kc_RX9_70 : Cond.constant RX9 70 (-1000001) ∈ WS := ws_of 1074 (by decide +kernel) rfl
theorem kc_RX9_91 : Cond.constant RX9 91 (-1000003) ∈ WS := ws_of 1111 (by decide +kernel) rfl
theorem kc_RX9_144 : Cond.constant RX9 144 (-1000100) ∈ WS := ws_of 1154 (by decide +kernel) rfl
theorem kc_RX9_194 : Cond.constant RX9 194 (-1000002) ∈ WS := ws_of 1170 (by decide +kernel) rfl
theorem kc_RX9_241 : Cond.constant RX9 241 (999999) ∈ WS := ws_of 1317 (by decide +kernel) rfl
theorem kc_RJ5_39 : Cond.constant RJ5 39 (2147483647) ∈ WS := ws_of 637 (by decide +kernel) rfl
theorem kc_RJ6_265 : Cond.constant RJ6 265 (1431655765) ∈ WS := ws_of 547 (by decide +kernel) rfl
theorem kc_RJ6_266 : Cond.constant RJ6 266 (858993459) ∈ WS := ws_of 548 (by decide +kernel) rfl
theorem kc_RJ6_267 : Cond.constant RJ6 267 (252645135) ∈ WS := ws_of 549 (by decide +kernel) rfl
theorem kc_RJ2_20 : Cond.constant RJ2 20 (1073741823) ∈ WS := ws_of 597 (by decide +kernel) rfl
theorem kc_RJ8_200 : Cond.constant RJ8 200 (2147483639) ∈ WS := ws_of 633 (by decide +kernel) rfl
theorem kl_RX8_279 : Cond.constantLong RX8 279 (-1000002) ∈ WS := ws_of 856 (by decide +kernel) rfl
theorem kl_RX8_281 : Cond.constantLong RX8 281 (-1000001) ∈ WS := ws_of 857 (by decide +kernel) rfl
theorem kl_RX1_132 : Cond.constantLong RX1 132 (10) ∈ WS := ws_of 877 (by decide +kernel) rfl
theorem kl_RX1_138 : Cond.constantLong RX1 138 (16807) ∈ WS := ws_of 890 (by decide +kernel) rfl
theorem kl_RX1_140 : Cond.constantLong RX1 140 (2147483647) ∈ WS := ws_of 891 (by decide +kernel) rfl
theorem kl_RX1_142 : Cond.constantLong RX1 142 (20) ∈ WS := ws_of 892 (by decide +kernel) rfl
theorem kl_RX9_232 : Cond.constantLong RX9 232 (-1000002) ∈ WS := ws_of 1307 (by decide +kernel) rfl
theorem kl_RX9_234 : Cond.constantLong RX9 234 (-1000001) ∈ WS := ws_of 1308 (by decide +kernel) rfl
theorem kl_RX9_236 : Cond.constantLong RX9 236 (10) ∈ WS := ws_of 1309 (by decide +kernel) rfl
theorem kl_RX9_242 : Cond.constantLong RX9 242 (16807) ∈ WS := ws_of 1318 (by decide +kernel) rfl
theorem kl_RX9_244 : Cond.constantLong RX9 244 (2147483647) ∈ WS := ws_of 1319 (by decide +kernel) rfl
theorem kl_RX9_246 : Cond.constantLong RX9 246 (20) ∈ WS := ws_of 1320 (by decide +kernel) rfl
def M_X0_init : MI := (yX0_init, cX0_init, 2, none, RX0, 1, 20)
def M_X0_clear : MI := (yX0_clear, cX0_clear, 1, none, RX0, 0, 0)
def M_X0_sizeOfReference : MI := (yX0_sizeOfReference, cX0_sizeOfReference, 4, (some .int), RX0, 3, 67)
def M_X0_sizeOfWord : MI := (yX0_sizeOfWord, cX0_sizeOfWord, 4, (some .int), RX0, 3, 67)
def M_X0_markOfReference : MI := (yX0_markOfReference, cX0_markOfReference, 4, (some .int), RX0, 2, 42)
def M_X0_markOfWord : MI := (yX0_markOfWord, cX0_markOfWord, 3, (some .int), RX0, 4, 90)
def M_X0_lentSize : MI := (yX0_lentSize, cX0_lentSize, 2, (some .int), RX0, 2, 46)
def M_X0_lentMark : MI := (yX0_lentMark, cX0_lentMark, 2, (some .int), RX0, 1, 21)
def M_X0_begin : MI := (yX0_begin, cX0_begin, 2, none, RX0, 0, 0)
def M_X1_init : MI := (yX1_init, cX1_init, 4, none, RX1, 2, 40)
def M_X1_guessBehind : MI := (yX1_guessBehind, cX1_guessBehind, 4, (some .int), RX1, 4, 97)
def M_X1_lying : MI := (yX1_lying, cX1_lying, 5, (some .int), RX1, 4, 95)
def M_X1_movedBy : MI := (yX1_movedBy, cX1_movedBy, 5, (some .int), RX1, 4, 95)
def M_X1_widestOf : MI := (yX1_widestOf, cX1_widestOf, 5, (some .int), RX1, 6, 141)
def M_X1_lastPageWith : MI := (yX1_lastPageWith, cX1_lastPageWith, 3, (some .int), RX1, 5, 119)
def M_X1_restlessFirst : MI := (yX1_restlessFirst, cX1_restlessFirst, 2, (some .int), RX1, 5, 119)
def M_X1_expect : MI := (yX1_expect, cX1_expect, 5, none, RX1, 0, 0)
def M_X1_kindsAsExpected : MI := (yX1_kindsAsExpected, cX1_kindsAsExpected, 3, (some .int), RX1, 5, 119)
def M_X1_numbersAsExpected : MI := (yX1_numbersAsExpected, cX1_numbersAsExpected, 3, (some .int), RX1, 5, 119)
def M_X1_firstsAsExpected : MI := (yX1_firstsAsExpected, cX1_firstsAsExpected, 4, (some .int), RX1, 5, 119)
def M_X1_comesAsExpected : MI := (yX1_comesAsExpected, cX1_comesAsExpected, 3, (some .boolean), RX1, 4, 97)
def M_X1_weightOfRest : MI := (yX1_weightOfRest, cX1_weightOfRest, 8, (some .long), RX1, 6, 142)
def M_X1_weightOfAll : MI := (yX1_weightOfAll, cX1_weightOfAll, 5, (some .long), RX1, 1, 22)
def M_X1_gatherGrowing : MI := (yX1_gatherGrowing, cX1_gatherGrowing, 3, (some .int), RX1, 0, 0)
def M_X1_weightOf : MI := (yX1_weightOf, cX1_weightOf, 6, (some .long), RX1, 0, 0)
def M_X1_settlesGrown : MI := (yX1_settlesGrown, cX1_settlesGrown, 4, (some .boolean), RX1, 5, 119)
def M_X1_editsThatChange : MI := (yX1_editsThatChange, cX1_editsThatChange, 8, (some .int), RX1, 4, 97)
def M_X2_init : MI := (yX2_init, cX2_init, 1, none, RX2, 1, 20)
def M_X2_setOut : MI := (yX2_setOut, cX2_setOut, 9, none, RX2, 2, 46)
def M_X2_hasElsewhere : MI := (yX2_hasElsewhere, cX2_hasElsewhere, 3, (some .boolean), RX2, 0, 0)
def M_X3_init : MI := (yX3_init, cX3_init, 2, none, RX3, 2, 40)
def M_X3_remember : MI := (yX3_remember, cX3_remember, 2, none, RX3, 2, 47)
def M_X3_bringBack : MI := (yX3_bringBack, cX3_bringBack, 2, none, RX3, 2, 47)
def M_X3_forget : MI := (yX3_forget, cX3_forget, 1, none, RX3, 0, 0)
def M_X4_init : MI := (yX4_init, cX4_init, 1, none, RX4, 1, 20)
def M_X4_reads : MI := (yX4_reads, cX4_reads, 5, (some .boolean), RX4, 3, 67)
def M_X4_readLaw : MI := (yX4_readLaw, cX4_readLaw, 2, none, RX4, 1, 24)
def M_X4_readItem : MI := (yX4_readItem, cX4_readItem, 3, none, RX4, 2, 45)
def M_X4_readNumberOf : MI := (yX4_readNumberOf, cX4_readNumberOf, 2, (some .int), RX4, 1, 24)
def M_X4_readSign : MI := (yX4_readSign, cX4_readSign, 2, none, RX4, 0, 0)
def M_X4_readNumber : MI := (yX4_readNumber, cX4_readNumber, 5, (some .int), RX4, 0, 0)
def M_X4_lookAtReferences : MI := (yX4_lookAtReferences, cX4_lookAtReferences, 3, none, RX4, 2, 43)
def M_X4_kindOf : MI := (yX4_kindOf, cX4_kindOf, 1, (some .int), RX4, 0, 0)
def M_X5_init : MI := (yX5_init, cX5_init, 1, none, RX5, 1, 23)
def M_X5_isNumber : MI := (yX5_isNumber, cX5_isNumber, 1, (some .boolean), RX5, 0, 0)
def M_X5_isLane : MI := (yX5_isLane, cX5_isLane, 1, (some .boolean), RX5, 0, 0)
def M_X5_isMissing : MI := (yX5_isMissing, cX5_isMissing, 2, (some .boolean), RX5, 0, 0)
def M_X5_areOfOneLane : MI := (yX5_areOfOneLane, cX5_areOfOneLane, 3, (some .boolean), RX5, 0, 0)
def M_X5_hasPlaces : MI := (yX5_hasPlaces, cX5_hasPlaces, 4, (some .boolean), RX5, 0, 0)
def M_X5_make : MI := (yX5_make, cX5_make, 4, none, RX5, 1, 23)
def M_X5_put : MI := (yX5_put, cX5_put, 4, (some .int), RX5, 0, 0)
def M_X5_carry : MI := (yX5_carry, cX5_carry, 6, none, RX5, 1, 26)
def M_X5_lose : MI := (yX5_lose, cX5_lose, 2, (some .int), RX5, 0, 0)
def M_X5_present : MI := (yX5_present, cX5_present, 3, (some .int), RX5, 1, 21)
def M_X6_init : MI := (yX6_init, cX6_init, 1, none, RX6, 2, 40)
def M_X6_outlined : MI := (yX6_outlined, cX6_outlined, 2, (some (.object "RefsSettle$Outline")), RX6, 3, 74)
def M_X6_goRound : MI := (yX6_goRound, cX6_goRound, 4, (some .int), RX6, 3, 74)
def M_X6_bringToRest : MI := (yX6_bringToRest, cX6_bringToRest, 4, none, RX6, 4, 96)
def M_X6_keep : MI := (yX6_keep, cX6_keep, 2, none, RX6, 1, 26)
def M_X6_ringSince : MI := (yX6_ringSince, cX6_ringSince, 3, (some .int), RX6, 1, 22)
def M_X6_freezeSince : MI := (yX6_freezeSince, cX6_freezeSince, 4, none, RX6, 3, 73)
def M_X6_freezeIfRestless : MI := (yX6_freezeIfRestless, cX6_freezeIfRestless, 8, none, RX6, 2, 46)
def M_X6_isAtRest : MI := (yX6_isAtRest, cX6_isAtRest, 2, (some .boolean), RX6, 3, 74)
def M_X6_areSame : MI := (yX6_areSame, cX6_areSame, 3, (some .boolean), RX6, 0, 0)
def M_X7_init : MI := (yX7_init, cX7_init, 1, none, RX7, 1, 20)
def M_X7_takeFrom : MI := (yX7_takeFrom, cX7_takeFrom, 2, none, RX7, 1, 26)
def M_X7_beginAnew : MI := (yX7_beginAnew, cX7_beginAnew, 1, none, RX7, 1, 23)
def M_X7_holds : MI := (yX7_holds, cX7_holds, 2, (some .boolean), RX7, 0, 0)
def M_X7_isReference : MI := (yX7_isReference, cX7_isReference, 2, (some .boolean), RX7, 0, 0)
def M_X7_isOfKind : MI := (yX7_isOfKind, cX7_isOfKind, 3, (some .boolean), RX7, 1, 21)
def M_X7_mayBeNumber : MI := (yX7_mayBeNumber, cX7_mayBeNumber, 3, (some .boolean), RX7, 1, 21)
def M_X7_wideBy : MI := (yX7_wideBy, cX7_wideBy, 5, (some .int), RX7, 1, 22)
def M_X7_signOf : MI := (yX7_signOf, cX7_signOf, 5, (some .int), RX7, 9, 204)
def M_X7_frozenBits : MI := (yX7_frozenBits, cX7_frozenBits, 3, (some .int), RX7, 0, 0)
def M_X7_lastGuess : MI := (yX7_lastGuess, cX7_lastGuess, 1, (some .int), RX7, 0, 0)
def M_X7_signsOf : MI := (yX7_signsOf, cX7_signsOf, 3, (some .int), RX7, 0, 0)
def M_X7_appendRoman : MI := (yX7_appendRoman, cX7_appendRoman, 6, none, RX7, 8, 179)
def M_X8_init : MI := (yX8_init, cX8_init, 1, none, RX8, 3, 63)
def M_X8_row : MI := (yX8_row, cX8_row, 4, (some .int), RX8, 2, 46)
def M_X8_set : MI := (yX8_set, cX8_set, 4, (some .int), RX8, 1, 23)
def M_X8_copy : MI := (yX8_copy, cX8_copy, 6, (some .int), RX8, 2, 51)
def M_X8_drop : MI := (yX8_drop, cX8_drop, 2, (some .int), RX8, 1, 21)
def M_X8_feed : MI := (yX8_feed, cX8_feed, 2, (some .int), RX8, 0, 0)
def M_X8_sheet : MI := (yX8_sheet, cX8_sheet, 2, (some .int), RX8, 4, 91)
def M_X8_fault : MI := (yX8_fault, cX8_fault, 1, (some .int), RX8, 0, 0)
def M_X8_round : MI := (yX8_round, cX8_round, 1, (some .int), RX8, 4, 97)
def M_X8_settle : MI := (yX8_settle, cX8_settle, 1, (some .int), RX8, 5, 119)
def M_X8_number : MI := (yX8_number, cX8_number, 4, (some .int), RX8, 3, 68)
def M_X8_rule : MI := (yX8_rule, cX8_rule, 3, (some .int), RX8, 4, 90)
def M_X8_anew : MI := (yX8_anew, cX8_anew, 2, (some .int), RX8, 3, 68)
def M_X8_undo : MI := (yX8_undo, cX8_undo, 1, (some .int), RX8, 3, 68)
def M_X8_item : MI := (yX8_item, cX8_item, 3, (some .int), RX8, 4, 95)
def M_X8_print : MI := (yX8_print, cX8_print, 3, (some .int), RX8, 10, 228)
def M_X8_behind : MI := (yX8_behind, cX8_behind, 3, (some .int), RX8, 5, 120)
def M_X8_lies : MI := (yX8_lies, cX8_lies, 1, (some .int), RX8, 5, 119)
def M_X8_settled : MI := (yX8_settled, cX8_settled, 2, (some .int), RX8, 5, 119)
def M_X8_ends : MI := (yX8_ends, cX8_ends, 2, (some .int), RX8, 5, 119)
def M_X8_moves : MI := (yX8_moves, cX8_moves, 2, (some .int), RX8, 5, 119)
def M_X8_room : MI := (yX8_room, cX8_room, 2, (some .int), RX8, 7, 165)
def M_X8_restless : MI := (yX8_restless, cX8_restless, 1, (some .int), RX8, 6, 140)
def M_X8_fits : MI := (yX8_fits, cX8_fits, 6, (some .int), RX8, 6, 142)
def M_X8_chance : MI := (yX8_chance, cX8_chance, 11, (some .long), RX8, 7, 169)
def M_X8_drawn : MI := (yX8_drawn, cX8_drawn, 5, (some .int), RX8, 5, 124)
def M_X8_image : MI := (yX8_image, cX8_image, 2, (some .int), RX8, 2, 47)
def M_X8_restore : MI := (yX8_restore, cX8_restore, 2, (some .int), RX8, 2, 47)
def M_X8_kind : MI := (yX8_kind, cX8_kind, 2, (some .int), RX8, 1, 21)
def M_X8_as : MI := (yX8_as, cX8_as, 3, (some .int), RX8, 2, 43)
def M_X8_ask : MI := (yX8_ask, cX8_ask, 3, (some .int), RX8, 5, 112)
def M_X8_trace : MI := (yX8_trace, cX8_trace, 2, (some .int), RX8, 0, 0)
def M_X8_count : MI := (yX8_count, cX8_count, 2, (some .int), RX8, 2, 43)
def M_X8_status : MI := (yX8_status, cX8_status, 1, (some .int), RX8, 0, 0)
def M_X8_isWithoutSheet : MI := (yX8_isWithoutSheet, cX8_isWithoutSheet, 1, (some .boolean), RX8, 0, 0)
def M_X8_found : MI := (yX8_found, cX8_found, 2, (some .int), RX8, 0, 0)
def M_X8_sound : MI := (yX8_sound, cX8_sound, 2, (some .int), RX8, 0, 0)
def M_X8_changeWidth : MI := (yX8_changeWidth, cX8_changeWidth, 3, (some .int), RX8, 3, 68)
def M_X8_changeLines : MI := (yX8_changeLines, cX8_changeLines, 3, (some .int), RX8, 3, 68)
def M_X8_changeFirst : MI := (yX8_changeFirst, cX8_changeFirst, 3, (some .int), RX8, 3, 68)
def M_X8_greatestCommon : MI := (yX8_greatestCommon, cX8_greatestCommon, 7, (some .long), RX8, 0, 0)
def M_X9_init : MI := (yX9_init, cX9_init, 2, none, RX9, 1, 20)
def M_X9_in : MI := (yX9_in, cX9_in, 3, (some .boolean), RX9, 0, 0)
def M_X9_has : MI := (yX9_has, cX9_has, 2, (some .boolean), RX9, 0, 0)
def M_X9_found : MI := (yX9_found, cX9_found, 2, (some .int), RX9, 0, 0)
def M_X9_well : MI := (yX9_well, cX9_well, 2, (some .int), RX9, 0, 0)
def M_X9_copies : MI := (yX9_copies, cX9_copies, 5, none, RX9, 0, 0)
def M_X9_isRow : MI := (yX9_isRow, cX9_isRow, 1, (some .boolean), RX9, 1, 22)
def M_X9_isMissing : MI := (yX9_isMissing, cX9_isMissing, 2, (some .boolean), RX9, 0, 0)
def M_X9_lowest : MI := (yX9_lowest, cX9_lowest, 2, (some .int), RX9, 0, 0)
def M_X9_row : MI := (yX9_row, cX9_row, 5, (some .int), RX9, 2, 42)
def M_X9_set : MI := (yX9_set, cX9_set, 4, (some .int), RX9, 2, 42)
def M_X9_isPart : MI := (yX9_isPart, cX9_isPart, 4, (some .boolean), RX9, 0, 0)
def M_X9_copy : MI := (yX9_copy, cX9_copy, 7, (some .int), RX9, 2, 42)
def M_X9_drop : MI := (yX9_drop, cX9_drop, 2, (some .int), RX9, 2, 42)
def M_X9_feed : MI := (yX9_feed, cX9_feed, 2, (some .int), RX9, 1, 22)
def M_X9_byteAt : MI := (yX9_byteAt, cX9_byteAt, 2, (some .int), RX9, 0, 0)
def M_X9_advances : MI := (yX9_advances, cX9_advances, 2, none, RX9, 1, 22)
def M_X9_isWell : MI := (yX9_isWell, cX9_isWell, 1, (some .boolean), RX9, 0, 0)
def M_X9_takes : MI := (yX9_takes, cX9_takes, 4, (some .int), RX9, 2, 43)
def M_X9_figure : MI := (yX9_figure, cX9_figure, 3, (some .int), RX9, 3, 66)
def M_X9_kindOf : MI := (yX9_kindOf, cX9_kindOf, 1, (some .int), RX9, 0, 0)
def M_X9_follows : MI := (yX9_follows, cX9_follows, 3, (some .int), RX9, 4, 88)
def M_X9_must : MI := (yX9_must, cX9_must, 3, none, RX9, 3, 66)
def M_X9_readsItem : MI := (yX9_readsItem, cX9_readsItem, 4, none, RX9, 4, 88)
def M_X9_areThere : MI := (yX9_areThere, cX9_areThere, 3, (some .boolean), RX9, 0, 0)
def M_X9_sheet : MI := (yX9_sheet, cX9_sheet, 2, (some .int), RX9, 5, 111)
def M_X9_fault : MI := (yX9_fault, cX9_fault, 1, (some .int), RX9, 0, 0)
def M_X9_isSheet : MI := (yX9_isSheet, cX9_isSheet, 1, (some .boolean), RX9, 0, 0)
def M_X9_isItem : MI := (yX9_isItem, cX9_isItem, 2, (some .boolean), RX9, 1, 22)
def M_X9_romanSigns : MI := (yX9_romanSigns, cX9_romanSigns, 1, (some .int), RX9, 0, 0)
def M_X9_signs : MI := (yX9_signs, cX9_signs, 3, (some .int), RX9, 1, 20)
def M_X9_wide : MI := (yX9_wide, cX9_wide, 4, (some .int), RX9, 2, 42)
def M_X9_setsOut : MI := (yX9_setsOut, cX9_setsOut, 10, none, RX9, 3, 65)
def M_X9_rounds : MI := (yX9_rounds, cX9_rounds, 4, (some .int), RX9, 4, 94)
def M_X9_isSettled : MI := (yX9_isSettled, cX9_isSettled, 4, (some .boolean), RX9, 4, 94)
def M_X9_begins : MI := (yX9_begins, cX9_begins, 2, none, RX9, 0, 0)
def M_X9_keepsGuesses : MI := (yX9_keepsGuesses, cX9_keepsGuesses, 4, none, RX9, 0, 0)
def M_X9_areGuesses : MI := (yX9_areGuesses, cX9_areGuesses, 5, (some .boolean), RX9, 0, 0)
def M_X9_freezes : MI := (yX9_freezes, cX9_freezes, 10, none, RX9, 2, 42)
def M_X9_settles : MI := (yX9_settles, cX9_settles, 5, none, RX9, 5, 117)
def M_X9_notes : MI := (yX9_notes, cX9_notes, 2, none, RX9, 1, 24)
def M_X9_round : MI := (yX9_round, cX9_round, 1, (some .int), RX9, 5, 117)
def M_X9_settle : MI := (yX9_settle, cX9_settle, 1, (some .int), RX9, 6, 141)
def M_X9_isNumber : MI := (yX9_isNumber, cX9_isNumber, 3, (some .boolean), RX9, 2, 43)
def M_X9_number : MI := (yX9_number, cX9_number, 4, (some .int), RX9, 3, 65)
def M_X9_rule : MI := (yX9_rule, cX9_rule, 5, (some .int), RX9, 2, 45)
def M_X9_frozenOnes : MI := (yX9_frozenOnes, cX9_frozenOnes, 3, (some .int), RX9, 0, 0)
def M_X9_ones : MI := (yX9_ones, cX9_ones, 3, (some .int), RX9, 0, 0)
def M_X9_anew : MI := (yX9_anew, cX9_anew, 2, (some .int), RX9, 2, 45)
def M_X9_undo : MI := (yX9_undo, cX9_undo, 1, (some .int), RX9, 1, 24)
def M_X9_item : MI := (yX9_item, cX9_item, 3, (some .int), RX9, 4, 94)
def M_X9_romanSign : MI := (yX9_romanSign, cX9_romanSign, 5, (some .int), RX9, 0, 0)
def M_X9_print : MI := (yX9_print, cX9_print, 7, (some .int), RX9, 2, 43)
def M_X9_behind : MI := (yX9_behind, cX9_behind, 4, (some .int), RX9, 5, 117)
def M_X9_lies : MI := (yX9_lies, cX9_lies, 4, (some .int), RX9, 4, 94)
def M_X9_settled : MI := (yX9_settled, cX9_settled, 2, (some .int), RX9, 6, 141)
def M_X9_last : MI := (yX9_last, cX9_last, 1, (some .int), RX9, 0, 0)
def M_X9_ends : MI := (yX9_ends, cX9_ends, 2, (some .int), RX9, 6, 141)
def M_X9_moves : MI := (yX9_moves, cX9_moves, 5, (some .int), RX9, 4, 94)
def M_X9_lastBy : MI := (yX9_lastBy, cX9_lastBy, 3, (some .int), RX9, 6, 141)
def M_X9_room : MI := (yX9_room, cX9_room, 5, (some .int), RX9, 7, 163)
def M_X9_restless : MI := (yX9_restless, cX9_restless, 2, (some .int), RX9, 7, 163)
def M_X9_isSeen : MI := (yX9_isSeen, cX9_isSeen, 8, (some .boolean), RX9, 5, 117)
def M_X9_fits : MI := (yX9_fits, cX9_fits, 13, (some .int), RX9, 6, 144)
def M_X9_chance : MI := (yX9_chance, cX9_chance, 14, (some .long), RX9, 6, 141)
def M_X9_drawn : MI := (yX9_drawn, cX9_drawn, 9, (some .int), RX9, 5, 117)
def M_X9_image : MI := (yX9_image, cX9_image, 2, (some .int), RX9, 1, 24)
def M_X9_restore : MI := (yX9_restore, cX9_restore, 2, (some .int), RX9, 1, 24)
def M_X9_kindIn : MI := (yX9_kindIn, cX9_kindIn, 2, (some .int), RX9, 0, 0)
def M_X9_kind : MI := (yX9_kind, cX9_kind, 2, (some .int), RX9, 2, 43)
def M_X9_as : MI := (yX9_as, cX9_as, 5, (some .int), RX9, 2, 43)
def M_X9_traces : MI := (yX9_traces, cX9_traces, 2, none, RX9, 0, 0)
def M_X9_referenceMark : MI := (yX9_referenceMark, cX9_referenceMark, 4, (some .int), RX9, 1, 21)
def M_X9_wordSize : MI := (yX9_wordSize, cX9_wordSize, 4, (some .int), RX9, 3, 65)
def M_X9_referenceSize : MI := (yX9_referenceSize, cX9_referenceSize, 4, (some .int), RX9, 3, 65)
def M_X9_wordMark : MI := (yX9_wordMark, cX9_wordMark, 2, (some .int), RX9, 4, 88)
def M_X9_ask : MI := (yX9_ask, cX9_ask, 4, (some .int), RX9, 5, 109)
def M_X9_trace : MI := (yX9_trace, cX9_trace, 2, (some .int), RX9, 1, 22)
def M_X9_count : MI := (yX9_count, cX9_count, 4, (some .int), RX9, 1, 22)
def M_X9_status : MI := (yX9_status, cX9_status, 1, (some .int), RX9, 0, 0)
def M_J5_init_d00df : MI := (yJ5_init_d00df, cJ5_init_d00df, 2, none, RJ5, 2, 40)
def M_J5_length_8abf5 : MI := (yJ5_length_8abf5, cJ5_length_8abf5, 1, (some .int), RJ5, 0, 0)
def M_J5_ensureCapacityInternal_d00df : MI := (yJ5_ensureCapacityInternal_d00df, cJ5_ensureCapacityInternal_d00df, 3, none, RJ5, 3, 70)
def M_J5_newCapacity_0f7a4 : MI := (yJ5_newCapacity_0f7a4, cJ5_newCapacity_0f7a4, 6, (some .int), RJ5, 2, 45)
def M_J5_inflate_da8c8 : MI := (yJ5_inflate_da8c8, cJ5_inflate_da8c8, 2, none, RJ5, 5, 116)
def M_J5_charAt_5068e : MI := (yJ5_charAt_5068e, cJ5_charAt_5068e, 5, (some .char), RJ5, 2, 43)
def M_J5_append_3fe6f : MI := (yJ5_append_3fe6f, cJ5_append_3fe6f, 2, (some (.object "java/lang/AbstractStringBuilder")), RJ5, 6, 137)
def M_J5_append_c97b9 : MI := (yJ5_append_c97b9, cJ5_append_c97b9, 4, (some (.object "java/lang/AbstractStringBuilder")), RJ5, 4, 92)
def M_J5_isLatin1_aae02 : MI := (yJ5_isLatin1_aae02, cJ5_isLatin1_aae02, 1, (some .boolean), RJ5, 0, 0)
def M_J6_getChars_ba4f3 : MI := (yJ6_getChars_ba4f3, cJ6_getChars_ba4f3, 7, (some .int), RJ6, 0, 0)
def M_J6_stringSize_0f7a4 : MI := (yJ6_stringSize_0f7a4, cJ6_stringSize_0f7a4, 4, (some .int), RJ6, 0, 0)
def M_J6_bitCount_0f7a4 : MI := (yJ6_bitCount_0f7a4, cJ6_bitCount_0f7a4, 1, (some .int), RJ6, 0, 0)
def M_J9_max_7cf53 : MI := (yJ9_max_7cf53, cJ9_max_7cf53, 2, (some .int), RJ9, 0, 0)
def M_J9_min_7cf53 : MI := (yJ9_min_7cf53, cJ9_min_7cf53, 2, (some .int), RJ9, 0, 0)
def M_J0_checkIndex_df160 : MI := (yJ0_checkIndex_df160, cJ0_checkIndex_df160, 2, none, RJ0, 1, 22)
def M_J0_checkBoundsOffCount_cabcc : MI := (yJ0_checkBoundsOffCount_cabcc, cJ0_checkBoundsOffCount_cabcc, 3, (some .int), RJ0, 1, 23)
def M_J0_checkBoundsBeginEnd_23922 : MI := (yJ0_checkBoundsBeginEnd_23922, cJ0_checkBoundsBeginEnd_23922, 3, none, RJ0, 1, 23)
def M_J4_init_da8c8 : MI := (yJ4_init_da8c8, cJ4_init_da8c8, 1, none, RJ4, 3, 61)
def M_J4_append_cf468 : MI := (yJ4_append_cf468, cJ4_append_cf468, 2, (some (.object "java/lang/StringBuilder")), RJ4, 7, 158)
def M_J4_append_bf812 : MI := (yJ4_append_bf812, cJ4_append_bf812, 2, (some (.object "java/lang/StringBuilder")), RJ4, 5, 115)
def M_J4_charAt_5068e : MI := (yJ4_charAt_5068e, cJ4_charAt_5068e, 2, (some .char), RJ4, 3, 67)
def M_J4_length_8abf5 : MI := (yJ4_length_8abf5, cJ4_length_8abf5, 1, (some .int), RJ4, 1, 20)
def M_J1_canEncode_fc78d : MI := (yJ1_canEncode_fc78d, cJ1_canEncode_fc78d, 1, (some .boolean), RJ1, 0, 0)
def M_J1_inflate_0e8fd : MI := (yJ1_inflate_0e8fd, cJ1_inflate_0e8fd, 5, none, RJ1, 4, 92)
def M_J2_newBytesFor_77867 : MI := (yJ2_newBytesFor_77867, cJ2_newBytesFor_77867, 1, (some (.array .byte)), RJ2, 1, 20)
def M_J2_newBytesLength_0f7a4 : MI := (yJ2_newBytesLength_0f7a4, cJ2_newBytesLength_0f7a4, 1, (some .int), RJ2, 0, 0)
def M_J2_putChar_b72d1 : MI := (yJ2_putChar_b72d1, cJ2_putChar_b72d1, 3, none, RJ2, 1, 20)
def M_J2_getChar_3b067 : MI := (yJ2_getChar_3b067, cJ2_getChar_3b067, 2, (some .char), RJ2, 1, 20)
def M_J2_length_9d52b : MI := (yJ2_length_9d52b, cJ2_length_9d52b, 1, (some .int), RJ2, 0, 0)
def M_J2_putCharSB_b72d1 : MI := (yJ2_putCharSB_b72d1, cJ2_putCharSB_b72d1, 3, none, RJ2, 3, 64)
def M_J2_getChars_46870 : MI := (yJ2_getChars_46870, cJ2_getChars_46870, 5, (some .int), RJ2, 3, 68)
def M_J2_inflate_0e8fd : MI := (yJ2_inflate_0e8fd, cJ2_inflate_0e8fd, 6, none, RJ2, 3, 67)
def M_J2_getChars_ba4f3 : MI := (yJ2_getChars_ba4f3, cJ2_getChars_ba4f3, 7, (some .int), RJ2, 2, 42)
def M_J2_checkIndex_2214a : MI := (yJ2_checkIndex_2214a, cJ2_checkIndex_2214a, 2, none, RJ2, 2, 43)
def M_J2_checkBoundsBeginEnd_d044e : MI := (yJ2_checkBoundsBeginEnd_d044e, cJ2_checkBoundsBeginEnd_d044e, 3, none, RJ2, 2, 45)
def M_J2_checkBoundsOffCount_d044e : MI := (yJ2_checkBoundsOffCount_d044e, cJ2_checkBoundsOffCount_d044e, 3, none, RJ2, 2, 45)
def M_J7_fill_53178 : MI := (yJ7_fill_53178, cJ7_fill_53178, 4, none, RJ7, 0, 0)
def M_J7_copyOf_9075b : MI := (yJ7_copyOf_9075b, cJ7_copyOf_9075b, 3, (some (.array .byte)), RJ7, 1, 26)
def M_J8_newLength_cabcc : MI := (yJ8_newLength_cabcc, cJ8_newLength_cabcc, 4, (some .int), RJ8, 1, 22)
def M_J8_hugeLength_7cf53 : MI := (yJ8_hugeLength_7cf53, cJ8_hugeLength_7cf53, 3, (some .int), RJ8, 0, 0)
def M_J3_checkIndex_8e157 : MI := (yJ3_checkIndex_8e157, cJ3_checkIndex_8e157, 3, (some .int), RJ3, 0, 0)
def M_J3_checkFromToIndex_8c36e : MI := (yJ3_checkFromToIndex_8c36e, cJ3_checkFromToIndex_8c36e, 4, (some .int), RJ3, 0, 0)
def M_J3_checkFromIndexSize_8c36e : MI := (yJ3_checkFromIndexSize_8c36e, cJ3_checkFromIndexSize_8c36e, 4, (some .int), RJ3, 0, 0)
def M_L_law : MI := (yL_law, cL_law, 4, (some .boolean), RL, 13, 502)
theorem mw_X0_init : Cond.code M_X0_init.1 M_X0_init.2.1 M_X0_init.2.2.1 M_X0_init.2.2.2.1 ∈ WS := ws_of 257 (by decide +kernel) rfl
theorem mw_X0_clear : Cond.code M_X0_clear.1 M_X0_clear.2.1 M_X0_clear.2.2.1 M_X0_clear.2.2.2.1 ∈ WS := ws_of 921 (by decide +kernel) rfl
theorem mw_X0_sizeOfReference : Cond.code M_X0_sizeOfReference.1 M_X0_sizeOfReference.2.1 M_X0_sizeOfReference.2.2.1 M_X0_sizeOfReference.2.2.2.1 ∈ WS := ws_of 925 (by decide +kernel) rfl
theorem mw_X0_sizeOfWord : Cond.code M_X0_sizeOfWord.1 M_X0_sizeOfWord.2.1 M_X0_sizeOfWord.2.2.1 M_X0_sizeOfWord.2.2.2.1 ∈ WS := ws_of 947 (by decide +kernel) rfl
theorem mw_X0_markOfReference : Cond.code M_X0_markOfReference.1 M_X0_markOfReference.2.1 M_X0_markOfReference.2.2.1 M_X0_markOfReference.2.2.2.1 ∈ WS := ws_of 938 (by decide +kernel) rfl
theorem mw_X0_markOfWord : Cond.code M_X0_markOfWord.1 M_X0_markOfWord.2.1 M_X0_markOfWord.2.2.1 M_X0_markOfWord.2.2.2.1 ∈ WS := ws_of 951 (by decide +kernel) rfl
theorem mw_X0_lentSize : Cond.code M_X0_lentSize.1 M_X0_lentSize.2.1 M_X0_lentSize.2.2.1 M_X0_lentSize.2.2.2.1 ∈ WS := ws_of 933 (by decide +kernel) rfl
theorem mw_X0_lentMark : Cond.code M_X0_lentMark.1 M_X0_lentMark.2.1 M_X0_lentMark.2.2.1 M_X0_lentMark.2.2.2.1 ∈ WS := ws_of 942 (by decide +kernel) rfl
theorem mw_X0_begin : Cond.code M_X0_begin.1 M_X0_begin.2.1 M_X0_begin.2.2.1 M_X0_begin.2.2.2.1 ∈ WS := ws_of 929 (by decide +kernel) rfl
theorem mw_X1_init : Cond.code M_X1_init.1 M_X1_init.2.1 M_X1_init.2.2.1 M_X1_init.2.2.2.1 ∈ WS := ws_of 201 (by decide +kernel) rfl
theorem mw_X1_guessBehind : Cond.code M_X1_guessBehind.1 M_X1_guessBehind.2.1 M_X1_guessBehind.2.2.1 M_X1_guessBehind.2.2.2.1 ∈ WS := ws_of 764 (by decide +kernel) rfl
theorem mw_X1_lying : Cond.code M_X1_lying.1 M_X1_lying.2.1 M_X1_lying.2.2.1 M_X1_lying.2.2.2.1 ∈ WS := ws_of 774 (by decide +kernel) rfl
theorem mw_X1_movedBy : Cond.code M_X1_movedBy.1 M_X1_movedBy.2.1 M_X1_movedBy.2.2.1 M_X1_movedBy.2.2.2.1 ∈ WS := ws_of 797 (by decide +kernel) rfl
theorem mw_X1_widestOf : Cond.code M_X1_widestOf.1 M_X1_widestOf.2.1 M_X1_widestOf.2.2.1 M_X1_widestOf.2.2.2.1 ∈ WS := ws_of 810 (by decide +kernel) rfl
theorem mw_X1_lastPageWith : Cond.code M_X1_lastPageWith.1 M_X1_lastPageWith.2.1 M_X1_lastPageWith.2.2.1 M_X1_lastPageWith.2.2.2.1 ∈ WS := ws_of 814 (by decide +kernel) rfl
theorem mw_X1_restlessFirst : Cond.code M_X1_restlessFirst.1 M_X1_restlessFirst.2.1 M_X1_restlessFirst.2.2.1 M_X1_restlessFirst.2.2.2.1 ∈ WS := ws_of 825 (by decide +kernel) rfl
theorem mw_X1_expect : Cond.code M_X1_expect.1 M_X1_expect.2.1 M_X1_expect.2.2.1 M_X1_expect.2.2.2.1 ∈ WS := ws_of 834 (by decide +kernel) rfl
theorem mw_X1_kindsAsExpected : Cond.code M_X1_kindsAsExpected.1 M_X1_kindsAsExpected.2.1 M_X1_kindsAsExpected.2.2.1 M_X1_kindsAsExpected.2.2.2.1 ∈ WS := ws_of 838 (by decide +kernel) rfl
theorem mw_X1_numbersAsExpected : Cond.code M_X1_numbersAsExpected.1 M_X1_numbersAsExpected.2.1 M_X1_numbersAsExpected.2.2.1 M_X1_numbersAsExpected.2.2.2.1 ∈ WS := ws_of 847 (by decide +kernel) rfl
theorem mw_X1_firstsAsExpected : Cond.code M_X1_firstsAsExpected.1 M_X1_firstsAsExpected.2.1 M_X1_firstsAsExpected.2.2.1 M_X1_firstsAsExpected.2.2.2.1 ∈ WS := ws_of 851 (by decide +kernel) rfl
theorem mw_X1_comesAsExpected : Cond.code M_X1_comesAsExpected.1 M_X1_comesAsExpected.2.1 M_X1_comesAsExpected.2.2.1 M_X1_comesAsExpected.2.2.2.1 ∈ WS := ws_of 843 (by decide +kernel) rfl
theorem mw_X1_weightOfRest : Cond.code M_X1_weightOfRest.1 M_X1_weightOfRest.2.1 M_X1_weightOfRest.2.2.1 M_X1_weightOfRest.2.2.2.1 ∈ WS := ws_of 861 (by decide +kernel) rfl
theorem mw_X1_weightOfAll : Cond.code M_X1_weightOfAll.1 M_X1_weightOfAll.2.1 M_X1_weightOfAll.2.2.1 M_X1_weightOfAll.2.2.2.1 ∈ WS := ws_of 876 (by decide +kernel) rfl
theorem mw_X1_gatherGrowing : Cond.code M_X1_gatherGrowing.1 M_X1_gatherGrowing.2.1 M_X1_gatherGrowing.2.2.1 M_X1_gatherGrowing.2.2.2.1 ∈ WS := ws_of 865 (by decide +kernel) rfl
theorem mw_X1_weightOf : Cond.code M_X1_weightOf.1 M_X1_weightOf.2.1 M_X1_weightOf.2.2.1 M_X1_weightOf.2.2.2.1 ∈ WS := ws_of 868 (by decide +kernel) rfl
theorem mw_X1_settlesGrown : Cond.code M_X1_settlesGrown.1 M_X1_settlesGrown.2.1 M_X1_settlesGrown.2.2.1 M_X1_settlesGrown.2.2.2.1 ∈ WS := ws_of 872 (by decide +kernel) rfl
theorem mw_X1_editsThatChange : Cond.code M_X1_editsThatChange.1 M_X1_editsThatChange.2.1 M_X1_editsThatChange.2.2.1 M_X1_editsThatChange.2.2.2.1 ∈ WS := ws_of 889 (by decide +kernel) rfl
theorem mw_X2_init : Cond.code M_X2_init.1 M_X2_init.2.1 M_X2_init.2.2.1 M_X2_init.2.2.2.1 ∈ WS := ws_of 151 (by decide +kernel) rfl
theorem mw_X2_setOut : Cond.code M_X2_setOut.1 M_X2_setOut.2.1 M_X2_setOut.2.2.1 M_X2_setOut.2.2.2.1 ∈ WS := ws_of 466 (by decide +kernel) rfl
theorem mw_X2_hasElsewhere : Cond.code M_X2_hasElsewhere.1 M_X2_hasElsewhere.2.1 M_X2_hasElsewhere.2.2.1 M_X2_hasElsewhere.2.2.2.1 ∈ WS := ws_of 802 (by decide +kernel) rfl
theorem mw_X3_init : Cond.code M_X3_init.1 M_X3_init.2.1 M_X3_init.2.2.1 M_X3_init.2.2.2.1 ∈ WS := ws_of 237 (by decide +kernel) rfl
theorem mw_X3_remember : Cond.code M_X3_remember.1 M_X3_remember.2.1 M_X3_remember.2.2.1 M_X3_remember.2.2.2.1 ∈ WS := ws_of 457 (by decide +kernel) rfl
theorem mw_X3_bringBack : Cond.code M_X3_bringBack.1 M_X3_bringBack.2.1 M_X3_bringBack.2.2.1 M_X3_bringBack.2.2.2.1 ∈ WS := ws_of 558 (by decide +kernel) rfl
theorem mw_X3_forget : Cond.code M_X3_forget.1 M_X3_forget.2.1 M_X3_forget.2.2.1 M_X3_forget.2.2.2.1 ∈ WS := ws_of 440 (by decide +kernel) rfl
theorem mw_X4_init : Cond.code M_X4_init.1 M_X4_init.2.1 M_X4_init.2.2.1 M_X4_init.2.2.2.1 ∈ WS := ws_of 58 (by decide +kernel) rfl
theorem mw_X4_reads : Cond.code M_X4_reads.1 M_X4_reads.2.1 M_X4_reads.2.2.1 M_X4_reads.2.2.2.1 ∈ WS := ws_of 386 (by decide +kernel) rfl
theorem mw_X4_readLaw : Cond.code M_X4_readLaw.1 M_X4_readLaw.2.1 M_X4_readLaw.2.2.1 M_X4_readLaw.2.2.2.1 ∈ WS := ws_of 393 (by decide +kernel) rfl
theorem mw_X4_readItem : Cond.code M_X4_readItem.1 M_X4_readItem.2.1 M_X4_readItem.2.2.1 M_X4_readItem.2.2.2.1 ∈ WS := ws_of 405 (by decide +kernel) rfl
theorem mw_X4_readNumberOf : Cond.code M_X4_readNumberOf.1 M_X4_readNumberOf.2.1 M_X4_readNumberOf.2.2.1 M_X4_readNumberOf.2.2.2.1 ∈ WS := ws_of 413 (by decide +kernel) rfl
theorem mw_X4_readSign : Cond.code M_X4_readSign.1 M_X4_readSign.2.1 M_X4_readSign.2.2.1 M_X4_readSign.2.2.2.1 ∈ WS := ws_of 397 (by decide +kernel) rfl
theorem mw_X4_readNumber : Cond.code M_X4_readNumber.1 M_X4_readNumber.2.1 M_X4_readNumber.2.2.1 M_X4_readNumber.2.2.2.1 ∈ WS := ws_of 401 (by decide +kernel) rfl
theorem mw_X4_lookAtReferences : Cond.code M_X4_lookAtReferences.1 M_X4_lookAtReferences.2.1 M_X4_lookAtReferences.2.2.1 M_X4_lookAtReferences.2.2.2.1 ∈ WS := ws_of 417 (by decide +kernel) rfl
theorem mw_X4_kindOf : Cond.code M_X4_kindOf.1 M_X4_kindOf.2.1 M_X4_kindOf.2.2.1 M_X4_kindOf.2.2.2.1 ∈ WS := ws_of 408 (by decide +kernel) rfl
theorem mw_X5_init : Cond.code M_X5_init.1 M_X5_init.2.1 M_X5_init.2.2.1 M_X5_init.2.2.2.1 ∈ WS := ws_of 35 (by decide +kernel) rfl
theorem mw_X5_isNumber : Cond.code M_X5_isNumber.1 M_X5_isNumber.2.1 M_X5_isNumber.2.2.1 M_X5_isNumber.2.2.2.1 ∈ WS := ws_of 317 (by decide +kernel) rfl
theorem mw_X5_isLane : Cond.code M_X5_isLane.1 M_X5_isLane.2.1 M_X5_isLane.2.2.1 M_X5_isLane.2.2.2.1 ∈ WS := ws_of 320 (by decide +kernel) rfl
theorem mw_X5_isMissing : Cond.code M_X5_isMissing.1 M_X5_isMissing.2.1 M_X5_isMissing.2.2.1 M_X5_isMissing.2.2.2.1 ∈ WS := ws_of 342 (by decide +kernel) rfl
theorem mw_X5_areOfOneLane : Cond.code M_X5_areOfOneLane.1 M_X5_areOfOneLane.2.1 M_X5_areOfOneLane.2.2.1 M_X5_areOfOneLane.2.2.2.1 ∈ WS := ws_of 358 (by decide +kernel) rfl
theorem mw_X5_hasPlaces : Cond.code M_X5_hasPlaces.1 M_X5_hasPlaces.2.1 M_X5_hasPlaces.2.2.1 M_X5_hasPlaces.2.2.2.1 ∈ WS := ws_of 346 (by decide +kernel) rfl
theorem mw_X5_make : Cond.code M_X5_make.1 M_X5_make.2.1 M_X5_make.2.2.1 M_X5_make.2.2.2.1 ∈ WS := ws_of 330 (by decide +kernel) rfl
theorem mw_X5_put : Cond.code M_X5_put.1 M_X5_put.2.1 M_X5_put.2.2.1 M_X5_put.2.2.2.1 ∈ WS := ws_of 350 (by decide +kernel) rfl
theorem mw_X5_carry : Cond.code M_X5_carry.1 M_X5_carry.2.1 M_X5_carry.2.2.1 M_X5_carry.2.2.2.1 ∈ WS := ws_of 362 (by decide +kernel) rfl
theorem mw_X5_lose : Cond.code M_X5_lose.1 M_X5_lose.2.1 M_X5_lose.2.2.1 M_X5_lose.2.2.2.1 ∈ WS := ws_of 373 (by decide +kernel) rfl
theorem mw_X5_present : Cond.code M_X5_present.1 M_X5_present.2.1 M_X5_present.2.2.1 M_X5_present.2.2.2.1 ∈ WS := ws_of 965 (by decide +kernel) rfl
theorem mw_X6_init : Cond.code M_X6_init.1 M_X6_init.2.1 M_X6_init.2.2.1 M_X6_init.2.2.2.1 ∈ WS := ws_of 145 (by decide +kernel) rfl
theorem mw_X6_outlined : Cond.code M_X6_outlined.1 M_X6_outlined.2.1 M_X6_outlined.2.2.1 M_X6_outlined.2.2.2.1 ∈ WS := ws_of 567 (by decide +kernel) rfl
theorem mw_X6_goRound : Cond.code M_X6_goRound.1 M_X6_goRound.2.1 M_X6_goRound.2.2.1 M_X6_goRound.2.2.2.1 ∈ WS := ws_of 462 (by decide +kernel) rfl
theorem mw_X6_bringToRest : Cond.code M_X6_bringToRest.1 M_X6_bringToRest.2.1 M_X6_bringToRest.2.2.1 M_X6_bringToRest.2.2.2.1 ∈ WS := ws_of 486 (by decide +kernel) rfl
theorem mw_X6_keep : Cond.code M_X6_keep.1 M_X6_keep.2.1 M_X6_keep.2.2.1 M_X6_keep.2.2.2.1 ∈ WS := ws_of 497 (by decide +kernel) rfl
theorem mw_X6_ringSince : Cond.code M_X6_ringSince.1 M_X6_ringSince.2.1 M_X6_ringSince.2.2.1 M_X6_ringSince.2.2.2.1 ∈ WS := ws_of 502 (by decide +kernel) rfl
theorem mw_X6_freezeSince : Cond.code M_X6_freezeSince.1 M_X6_freezeSince.2.1 M_X6_freezeSince.2.2.1 M_X6_freezeSince.2.2.2.1 ∈ WS := ws_of 506 (by decide +kernel) rfl
theorem mw_X6_freezeIfRestless : Cond.code M_X6_freezeIfRestless.1 M_X6_freezeIfRestless.2.1 M_X6_freezeIfRestless.2.2.1 M_X6_freezeIfRestless.2.2.2.1 ∈ WS := ws_of 510 (by decide +kernel) rfl
theorem mw_X6_isAtRest : Cond.code M_X6_isAtRest.1 M_X6_isAtRest.2.1 M_X6_isAtRest.2.2.1 M_X6_isAtRest.2.2.2.1 ∈ WS := ws_of 490 (by decide +kernel) rfl
theorem mw_X6_areSame : Cond.code M_X6_areSame.1 M_X6_areSame.2.1 M_X6_areSame.2.2.1 M_X6_areSame.2.2.2.1 ∈ WS := ws_of 493 (by decide +kernel) rfl
theorem mw_X7_init : Cond.code M_X7_init.1 M_X7_init.2.1 M_X7_init.2.2.1 M_X7_init.2.2.2.1 ∈ WS := ws_of 79 (by decide +kernel) rfl
theorem mw_X7_takeFrom : Cond.code M_X7_takeFrom.1 M_X7_takeFrom.2.1 M_X7_takeFrom.2.2.1 M_X7_takeFrom.2.2.2.1 ∈ WS := ws_of 435 (by decide +kernel) rfl
theorem mw_X7_beginAnew : Cond.code M_X7_beginAnew.1 M_X7_beginAnew.2.1 M_X7_beginAnew.2.2.1 M_X7_beginAnew.2.2.2.1 ∈ WS := ws_of 429 (by decide +kernel) rfl
theorem mw_X7_holds : Cond.code M_X7_holds.1 M_X7_holds.2.1 M_X7_holds.2.2.1 M_X7_holds.2.2.2.1 ∈ WS := ws_of 425 (by decide +kernel) rfl
theorem mw_X7_isReference : Cond.code M_X7_isReference.1 M_X7_isReference.2.1 M_X7_isReference.2.2.1 M_X7_isReference.2.2.2.1 ∈ WS := ws_of 575 (by decide +kernel) rfl
theorem mw_X7_isOfKind : Cond.code M_X7_isOfKind.1 M_X7_isOfKind.2.1 M_X7_isOfKind.2.2.1 M_X7_isOfKind.2.2.2.1 ∈ WS := ws_of 912 (by decide +kernel) rfl
theorem mw_X7_mayBeNumber : Cond.code M_X7_mayBeNumber.1 M_X7_mayBeNumber.2.1 M_X7_mayBeNumber.2.2.1 M_X7_mayBeNumber.2.2.2.1 ∈ WS := ws_of 421 (by decide +kernel) rfl
theorem mw_X7_wideBy : Cond.code M_X7_wideBy.1 M_X7_wideBy.2.1 M_X7_wideBy.2.2.1 M_X7_wideBy.2.2.2.1 ∈ WS := ws_of 470 (by decide +kernel) rfl
theorem mw_X7_signOf : Cond.code M_X7_signOf.1 M_X7_signOf.2.1 M_X7_signOf.2.2.1 M_X7_signOf.2.2.2.1 ∈ WS := ws_of 579 (by decide +kernel) rfl
theorem mw_X7_frozenBits : Cond.code M_X7_frozenBits.1 M_X7_frozenBits.2.1 M_X7_frozenBits.2.2.1 M_X7_frozenBits.2.2.2.1 ∈ WS := ws_of 543 (by decide +kernel) rfl
theorem mw_X7_lastGuess : Cond.code M_X7_lastGuess.1 M_X7_lastGuess.2.1 M_X7_lastGuess.2.2.1 M_X7_lastGuess.2.2.2.1 ∈ WS := ws_of 785 (by decide +kernel) rfl
theorem mw_X7_signsOf : Cond.code M_X7_signsOf.1 M_X7_signsOf.2.1 M_X7_signsOf.2.2.1 M_X7_signsOf.2.2.2.1 ∈ WS := ws_of 473 (by decide +kernel) rfl
theorem mw_X7_appendRoman : Cond.code M_X7_appendRoman.1 M_X7_appendRoman.2.1 M_X7_appendRoman.2.2.1 M_X7_appendRoman.2.2.2.1 ∈ WS := ws_of 613 (by decide +kernel) rfl
theorem mw_X8_init : Cond.code M_X8_init.1 M_X8_init.2.1 M_X8_init.2.2.1 M_X8_init.2.2.2.1 ∈ WS := ws_of 27 (by decide +kernel) rfl
theorem mw_X8_row : Cond.code M_X8_row.1 M_X8_row.2.1 M_X8_row.2.2.1 M_X8_row.2.2.2.1 ∈ WS := ws_of 314 (by decide +kernel) rfl
theorem mw_X8_set : Cond.code M_X8_set.1 M_X8_set.2.1 M_X8_set.2.2.1 M_X8_set.2.2.2.1 ∈ WS := ws_of 338 (by decide +kernel) rfl
theorem mw_X8_copy : Cond.code M_X8_copy.1 M_X8_copy.2.1 M_X8_copy.2.2.1 M_X8_copy.2.2.2.1 ∈ WS := ws_of 354 (by decide +kernel) rfl
theorem mw_X8_drop : Cond.code M_X8_drop.1 M_X8_drop.2.1 M_X8_drop.2.2.1 M_X8_drop.2.2.2.1 ∈ WS := ws_of 369 (by decide +kernel) rfl
theorem mw_X8_feed : Cond.code M_X8_feed.1 M_X8_feed.2.1 M_X8_feed.2.2.1 M_X8_feed.2.2.2.1 ∈ WS := ws_of 377 (by decide +kernel) rfl
theorem mw_X8_sheet : Cond.code M_X8_sheet.1 M_X8_sheet.2.1 M_X8_sheet.2.2.1 M_X8_sheet.2.2.2.1 ∈ WS := ws_of 382 (by decide +kernel) rfl
theorem mw_X8_fault : Cond.code M_X8_fault.1 M_X8_fault.2.1 M_X8_fault.2.2.1 M_X8_fault.2.2.2.1 ∈ WS := ws_of 444 (by decide +kernel) rfl
theorem mw_X8_round : Cond.code M_X8_round.1 M_X8_round.2.1 M_X8_round.2.2.1 M_X8_round.2.2.2.1 ∈ WS := ws_of 448 (by decide +kernel) rfl
theorem mw_X8_settle : Cond.code M_X8_settle.1 M_X8_settle.2.1 M_X8_settle.2.2.1 M_X8_settle.2.2.2.1 ∈ WS := ws_of 482 (by decide +kernel) rfl
theorem mw_X8_number : Cond.code M_X8_number.1 M_X8_number.2.1 M_X8_number.2.2.1 M_X8_number.2.2.2.1 ∈ WS := ws_of 517 (by decide +kernel) rfl
theorem mw_X8_rule : Cond.code M_X8_rule.1 M_X8_rule.2.1 M_X8_rule.2.2.1 M_X8_rule.2.2.2.1 ∈ WS := ws_of 523 (by decide +kernel) rfl
theorem mw_X8_anew : Cond.code M_X8_anew.1 M_X8_anew.2.1 M_X8_anew.2.2.1 M_X8_anew.2.2.2.1 ∈ WS := ws_of 539 (by decide +kernel) rfl
theorem mw_X8_undo : Cond.code M_X8_undo.1 M_X8_undo.2.1 M_X8_undo.2.2.1 M_X8_undo.2.2.2.1 ∈ WS := ws_of 554 (by decide +kernel) rfl
theorem mw_X8_item : Cond.code M_X8_item.1 M_X8_item.2.1 M_X8_item.2.2.1 M_X8_item.2.2.2.1 ∈ WS := ws_of 562 (by decide +kernel) rfl
theorem mw_X8_print : Cond.code M_X8_print.1 M_X8_print.2.1 M_X8_print.2.2.1 M_X8_print.2.2.2.1 ∈ WS := ws_of 571 (by decide +kernel) rfl
theorem mw_X8_behind : Cond.code M_X8_behind.1 M_X8_behind.2.1 M_X8_behind.2.2.1 M_X8_behind.2.2.2.1 ∈ WS := ws_of 760 (by decide +kernel) rfl
theorem mw_X8_lies : Cond.code M_X8_lies.1 M_X8_lies.2.1 M_X8_lies.2.2.1 M_X8_lies.2.2.2.1 ∈ WS := ws_of 770 (by decide +kernel) rfl
theorem mw_X8_settled : Cond.code M_X8_settled.1 M_X8_settled.2.1 M_X8_settled.2.2.1 M_X8_settled.2.2.2.1 ∈ WS := ws_of 781 (by decide +kernel) rfl
theorem mw_X8_ends : Cond.code M_X8_ends.1 M_X8_ends.2.1 M_X8_ends.2.2.1 M_X8_ends.2.2.2.1 ∈ WS := ws_of 789 (by decide +kernel) rfl
theorem mw_X8_moves : Cond.code M_X8_moves.1 M_X8_moves.2.1 M_X8_moves.2.2.1 M_X8_moves.2.2.2.1 ∈ WS := ws_of 793 (by decide +kernel) rfl
theorem mw_X8_room : Cond.code M_X8_room.1 M_X8_room.2.1 M_X8_room.2.2.1 M_X8_room.2.2.2.1 ∈ WS := ws_of 806 (by decide +kernel) rfl
theorem mw_X8_restless : Cond.code M_X8_restless.1 M_X8_restless.2.1 M_X8_restless.2.2.1 M_X8_restless.2.2.2.1 ∈ WS := ws_of 821 (by decide +kernel) rfl
theorem mw_X8_fits : Cond.code M_X8_fits.1 M_X8_fits.2.1 M_X8_fits.2.2.1 M_X8_fits.2.2.2.1 ∈ WS := ws_of 830 (by decide +kernel) rfl
theorem mw_X8_chance : Cond.code M_X8_chance.1 M_X8_chance.2.1 M_X8_chance.2.2.1 M_X8_chance.2.2.2.1 ∈ WS := ws_of 855 (by decide +kernel) rfl
theorem mw_X8_drawn : Cond.code M_X8_drawn.1 M_X8_drawn.2.1 M_X8_drawn.2.2.1 M_X8_drawn.2.2.2.1 ∈ WS := ws_of 884 (by decide +kernel) rfl
theorem mw_X8_image : Cond.code M_X8_image.1 M_X8_image.2.1 M_X8_image.2.2.1 M_X8_image.2.2.2.1 ∈ WS := ws_of 896 (by decide +kernel) rfl
theorem mw_X8_restore : Cond.code M_X8_restore.1 M_X8_restore.2.1 M_X8_restore.2.2.1 M_X8_restore.2.2.2.1 ∈ WS := ws_of 900 (by decide +kernel) rfl
theorem mw_X8_kind : Cond.code M_X8_kind.1 M_X8_kind.2.1 M_X8_kind.2.2.1 M_X8_kind.2.2.2.1 ∈ WS := ws_of 904 (by decide +kernel) rfl
theorem mw_X8_as : Cond.code M_X8_as.1 M_X8_as.2.1 M_X8_as.2.2.1 M_X8_as.2.2.2.1 ∈ WS := ws_of 908 (by decide +kernel) rfl
theorem mw_X8_ask : Cond.code M_X8_ask.1 M_X8_ask.2.1 M_X8_ask.2.2.1 M_X8_ask.2.2.2.1 ∈ WS := ws_of 917 (by decide +kernel) rfl
theorem mw_X8_trace : Cond.code M_X8_trace.1 M_X8_trace.2.1 M_X8_trace.2.2.1 M_X8_trace.2.2.2.1 ∈ WS := ws_of 956 (by decide +kernel) rfl
theorem mw_X8_count : Cond.code M_X8_count.1 M_X8_count.2.1 M_X8_count.2.2.1 M_X8_count.2.2.2.1 ∈ WS := ws_of 961 (by decide +kernel) rfl
theorem mw_X8_status : Cond.code M_X8_status.1 M_X8_status.2.1 M_X8_status.2.2.1 M_X8_status.2.2.2.1 ∈ WS := ws_of 970 (by decide +kernel) rfl
theorem mw_X8_isWithoutSheet : Cond.code M_X8_isWithoutSheet.1 M_X8_isWithoutSheet.2.1 M_X8_isWithoutSheet.2.2.1 M_X8_isWithoutSheet.2.2.2.1 ∈ WS := ws_of 452 (by decide +kernel) rfl
theorem mw_X8_found : Cond.code M_X8_found.1 M_X8_found.2.1 M_X8_found.2.2.1 M_X8_found.2.2.2.1 ∈ WS := ws_of 325 (by decide +kernel) rfl
theorem mw_X8_sound : Cond.code M_X8_sound.1 M_X8_sound.2.1 M_X8_sound.2.2.1 M_X8_sound.2.2.2.1 ∈ WS := ws_of 334 (by decide +kernel) rfl
theorem mw_X8_changeWidth : Cond.code M_X8_changeWidth.1 M_X8_changeWidth.2.1 M_X8_changeWidth.2.2.1 M_X8_changeWidth.2.2.2.1 ∈ WS := ws_of 527 (by decide +kernel) rfl
theorem mw_X8_changeLines : Cond.code M_X8_changeLines.1 M_X8_changeLines.2.1 M_X8_changeLines.2.2.1 M_X8_changeLines.2.2.2.1 ∈ WS := ws_of 531 (by decide +kernel) rfl
theorem mw_X8_changeFirst : Cond.code M_X8_changeFirst.1 M_X8_changeFirst.2.1 M_X8_changeFirst.2.2.1 M_X8_changeFirst.2.2.2.1 ∈ WS := ws_of 535 (by decide +kernel) rfl
theorem mw_X8_greatestCommon : Cond.code M_X8_greatestCommon.1 M_X8_greatestCommon.2.1 M_X8_greatestCommon.2.2.1 M_X8_greatestCommon.2.2.2.1 ∈ WS := ws_of 880 (by decide +kernel) rfl
theorem mw_X9_init : Cond.code M_X9_init.1 M_X9_init.2.1 M_X9_init.2.2.1 M_X9_init.2.2.2.1 ∈ WS := ws_of 975 (by decide +kernel) rfl
theorem mw_X9_in : Cond.code M_X9_in.1 M_X9_in.2.1 M_X9_in.2.2.1 M_X9_in.2.2.2.1 ∈ WS := ws_of 1073 (by decide +kernel) rfl
theorem mw_X9_has : Cond.code M_X9_has.1 M_X9_has.2.1 M_X9_has.2.2.1 M_X9_has.2.2.2.1 ∈ WS := ws_of 1312 (by decide +kernel) rfl
theorem mw_X9_found : Cond.code M_X9_found.1 M_X9_found.2.1 M_X9_found.2.2.1 M_X9_found.2.2.2.1 ∈ WS := ws_of 1078 (by decide +kernel) rfl
theorem mw_X9_well : Cond.code M_X9_well.1 M_X9_well.2.1 M_X9_well.2.2.1 M_X9_well.2.2.2.1 ∈ WS := ws_of 1083 (by decide +kernel) rfl
theorem mw_X9_copies : Cond.code M_X9_copies.1 M_X9_copies.2.1 M_X9_copies.2.2.1 M_X9_copies.2.2.2.1 ∈ WS := ws_of 1157 (by decide +kernel) rfl
theorem mw_X9_isRow : Cond.code M_X9_isRow.1 M_X9_isRow.2.1 M_X9_isRow.2.2.1 M_X9_isRow.2.2.2.1 ∈ WS := ws_of 1070 (by decide +kernel) rfl
theorem mw_X9_isMissing : Cond.code M_X9_isMissing.1 M_X9_isMissing.2.1 M_X9_isMissing.2.2.1 M_X9_isMissing.2.2.2.1 ∈ WS := ws_of 1091 (by decide +kernel) rfl
theorem mw_X9_lowest : Cond.code M_X9_lowest.1 M_X9_lowest.2.1 M_X9_lowest.2.2.1 M_X9_lowest.2.2.2.1 ∈ WS := ws_of 1094 (by decide +kernel) rfl
theorem mw_X9_row : Cond.code M_X9_row.1 M_X9_row.2.1 M_X9_row.2.2.1 M_X9_row.2.2.2.1 ∈ WS := ws_of 1067 (by decide +kernel) rfl
theorem mw_X9_set : Cond.code M_X9_set.1 M_X9_set.2.1 M_X9_set.2.2.1 M_X9_set.2.2.2.1 ∈ WS := ws_of 1087 (by decide +kernel) rfl
theorem mw_X9_isPart : Cond.code M_X9_isPart.1 M_X9_isPart.2.1 M_X9_isPart.2.2.1 M_X9_isPart.2.2.2.1 ∈ WS := ws_of 1102 (by decide +kernel) rfl
theorem mw_X9_copy : Cond.code M_X9_copy.1 M_X9_copy.2.1 M_X9_copy.2.2.1 M_X9_copy.2.2.2.1 ∈ WS := ws_of 1098 (by decide +kernel) rfl
theorem mw_X9_drop : Cond.code M_X9_drop.1 M_X9_drop.2.1 M_X9_drop.2.2.1 M_X9_drop.2.2.2.1 ∈ WS := ws_of 1106 (by decide +kernel) rfl
theorem mw_X9_feed : Cond.code M_X9_feed.1 M_X9_feed.2.1 M_X9_feed.2.2.1 M_X9_feed.2.2.2.1 ∈ WS := ws_of 1110 (by decide +kernel) rfl
theorem mw_X9_byteAt : Cond.code M_X9_byteAt.1 M_X9_byteAt.2.1 M_X9_byteAt.2.2.1 M_X9_byteAt.2.2.2.1 ∈ WS := ws_of 1123 (by decide +kernel) rfl
theorem mw_X9_advances : Cond.code M_X9_advances.1 M_X9_advances.2.1 M_X9_advances.2.2.1 M_X9_advances.2.2.2.1 ∈ WS := ws_of 1119 (by decide +kernel) rfl
theorem mw_X9_isWell : Cond.code M_X9_isWell.1 M_X9_isWell.2.1 M_X9_isWell.2.2.1 M_X9_isWell.2.2.2.1 ∈ WS := ws_of 1131 (by decide +kernel) rfl
theorem mw_X9_takes : Cond.code M_X9_takes.1 M_X9_takes.2.1 M_X9_takes.2.2.1 M_X9_takes.2.2.2.1 ∈ WS := ws_of 1127 (by decide +kernel) rfl
theorem mw_X9_figure : Cond.code M_X9_figure.1 M_X9_figure.2.1 M_X9_figure.2.2.1 M_X9_figure.2.2.2.1 ∈ WS := ws_of 1135 (by decide +kernel) rfl
theorem mw_X9_kindOf : Cond.code M_X9_kindOf.1 M_X9_kindOf.2.1 M_X9_kindOf.2.2.1 M_X9_kindOf.2.2.2.1 ∈ WS := ws_of 1142 (by decide +kernel) rfl
theorem mw_X9_follows : Cond.code M_X9_follows.1 M_X9_follows.2.1 M_X9_follows.2.2.1 M_X9_follows.2.2.2.1 ∈ WS := ws_of 1139 (by decide +kernel) rfl
theorem mw_X9_must : Cond.code M_X9_must.1 M_X9_must.2.1 M_X9_must.2.2.1 M_X9_must.2.2.2.1 ∈ WS := ws_of 1150 (by decide +kernel) rfl
theorem mw_X9_readsItem : Cond.code M_X9_readsItem.1 M_X9_readsItem.2.1 M_X9_readsItem.2.2.1 M_X9_readsItem.2.2.2.1 ∈ WS := ws_of 1146 (by decide +kernel) rfl
theorem mw_X9_areThere : Cond.code M_X9_areThere.1 M_X9_areThere.2.1 M_X9_areThere.2.2.1 M_X9_areThere.2.2.2.1 ∈ WS := ws_of 1153 (by decide +kernel) rfl
theorem mw_X9_sheet : Cond.code M_X9_sheet.1 M_X9_sheet.2.1 M_X9_sheet.2.2.1 M_X9_sheet.2.2.2.1 ∈ WS := ws_of 1115 (by decide +kernel) rfl
theorem mw_X9_fault : Cond.code M_X9_fault.1 M_X9_fault.2.1 M_X9_fault.2.2.1 M_X9_fault.2.2.2.1 ∈ WS := ws_of 1161 (by decide +kernel) rfl
theorem mw_X9_isSheet : Cond.code M_X9_isSheet.1 M_X9_isSheet.2.1 M_X9_isSheet.2.2.1 M_X9_isSheet.2.2.2.1 ∈ WS := ws_of 1169 (by decide +kernel) rfl
theorem mw_X9_isItem : Cond.code M_X9_isItem.1 M_X9_isItem.2.1 M_X9_isItem.2.2.1 M_X9_isItem.2.2.2.1 ∈ WS := ws_of 1223 (by decide +kernel) rfl
theorem mw_X9_romanSigns : Cond.code M_X9_romanSigns.1 M_X9_romanSigns.2.1 M_X9_romanSigns.2.2.1 M_X9_romanSigns.2.2.2.1 ∈ WS := ws_of 1191 (by decide +kernel) rfl
theorem mw_X9_signs : Cond.code M_X9_signs.1 M_X9_signs.2.1 M_X9_signs.2.2.1 M_X9_signs.2.2.2.1 ∈ WS := ws_of 1188 (by decide +kernel) rfl
theorem mw_X9_wide : Cond.code M_X9_wide.1 M_X9_wide.2.1 M_X9_wide.2.2.1 M_X9_wide.2.2.2.1 ∈ WS := ws_of 1185 (by decide +kernel) rfl
theorem mw_X9_setsOut : Cond.code M_X9_setsOut.1 M_X9_setsOut.2.1 M_X9_setsOut.2.2.1 M_X9_setsOut.2.2.2.1 ∈ WS := ws_of 1182 (by decide +kernel) rfl
theorem mw_X9_rounds : Cond.code M_X9_rounds.1 M_X9_rounds.2.1 M_X9_rounds.2.2.1 M_X9_rounds.2.2.2.1 ∈ WS := ws_of 1178 (by decide +kernel) rfl
theorem mw_X9_isSettled : Cond.code M_X9_isSettled.1 M_X9_isSettled.2.1 M_X9_isSettled.2.2.1 M_X9_isSettled.2.2.2.1 ∈ WS := ws_of 1207 (by decide +kernel) rfl
theorem mw_X9_begins : Cond.code M_X9_begins.1 M_X9_begins.2.1 M_X9_begins.2.2.1 M_X9_begins.2.2.2.1 ∈ WS := ws_of 1244 (by decide +kernel) rfl
theorem mw_X9_keepsGuesses : Cond.code M_X9_keepsGuesses.1 M_X9_keepsGuesses.2.1 M_X9_keepsGuesses.2.2.1 M_X9_keepsGuesses.2.2.2.1 ∈ WS := ws_of 1203 (by decide +kernel) rfl
theorem mw_X9_areGuesses : Cond.code M_X9_areGuesses.1 M_X9_areGuesses.2.1 M_X9_areGuesses.2.2.1 M_X9_areGuesses.2.2.2.1 ∈ WS := ws_of 1211 (by decide +kernel) rfl
theorem mw_X9_freezes : Cond.code M_X9_freezes.1 M_X9_freezes.2.1 M_X9_freezes.2.2.1 M_X9_freezes.2.2.2.1 ∈ WS := ws_of 1215 (by decide +kernel) rfl
theorem mw_X9_settles : Cond.code M_X9_settles.1 M_X9_settles.2.1 M_X9_settles.2.2.1 M_X9_settles.2.2.2.1 ∈ WS := ws_of 1199 (by decide +kernel) rfl
theorem mw_X9_notes : Cond.code M_X9_notes.1 M_X9_notes.2.1 M_X9_notes.2.2.1 M_X9_notes.2.2.2.1 ∈ WS := ws_of 1174 (by decide +kernel) rfl
theorem mw_X9_round : Cond.code M_X9_round.1 M_X9_round.2.1 M_X9_round.2.2.1 M_X9_round.2.2.2.1 ∈ WS := ws_of 1165 (by decide +kernel) rfl
theorem mw_X9_settle : Cond.code M_X9_settle.1 M_X9_settle.2.1 M_X9_settle.2.2.1 M_X9_settle.2.2.2.1 ∈ WS := ws_of 1195 (by decide +kernel) rfl
theorem mw_X9_isNumber : Cond.code M_X9_isNumber.1 M_X9_isNumber.2.1 M_X9_isNumber.2.2.1 M_X9_isNumber.2.2.2.1 ∈ WS := ws_of 1227 (by decide +kernel) rfl
theorem mw_X9_number : Cond.code M_X9_number.1 M_X9_number.2.1 M_X9_number.2.2.1 M_X9_number.2.2.2.1 ∈ WS := ws_of 1219 (by decide +kernel) rfl
theorem mw_X9_rule : Cond.code M_X9_rule.1 M_X9_rule.2.1 M_X9_rule.2.2.1 M_X9_rule.2.2.2.1 ∈ WS := ws_of 1231 (by decide +kernel) rfl
theorem mw_X9_frozenOnes : Cond.code M_X9_frozenOnes.1 M_X9_frozenOnes.2.1 M_X9_frozenOnes.2.2.1 M_X9_frozenOnes.2.2.2.1 ∈ WS := ws_of 1238 (by decide +kernel) rfl
theorem mw_X9_ones : Cond.code M_X9_ones.1 M_X9_ones.2.1 M_X9_ones.2.2.1 M_X9_ones.2.2.2.1 ∈ WS := ws_of 1241 (by decide +kernel) rfl
theorem mw_X9_anew : Cond.code M_X9_anew.1 M_X9_anew.2.1 M_X9_anew.2.2.1 M_X9_anew.2.2.2.1 ∈ WS := ws_of 1235 (by decide +kernel) rfl
theorem mw_X9_undo : Cond.code M_X9_undo.1 M_X9_undo.2.1 M_X9_undo.2.2.1 M_X9_undo.2.2.2.1 ∈ WS := ws_of 1248 (by decide +kernel) rfl
theorem mw_X9_item : Cond.code M_X9_item.1 M_X9_item.2.1 M_X9_item.2.2.1 M_X9_item.2.2.2.1 ∈ WS := ws_of 1252 (by decide +kernel) rfl
theorem mw_X9_romanSign : Cond.code M_X9_romanSign.1 M_X9_romanSign.2.1 M_X9_romanSign.2.2.1 M_X9_romanSign.2.2.2.1 ∈ WS := ws_of 1259 (by decide +kernel) rfl
theorem mw_X9_print : Cond.code M_X9_print.1 M_X9_print.2.1 M_X9_print.2.2.1 M_X9_print.2.2.2.1 ∈ WS := ws_of 1256 (by decide +kernel) rfl
theorem mw_X9_behind : Cond.code M_X9_behind.1 M_X9_behind.2.1 M_X9_behind.2.2.1 M_X9_behind.2.2.2.1 ∈ WS := ws_of 1263 (by decide +kernel) rfl
theorem mw_X9_lies : Cond.code M_X9_lies.1 M_X9_lies.2.1 M_X9_lies.2.2.1 M_X9_lies.2.2.2.1 ∈ WS := ws_of 1267 (by decide +kernel) rfl
theorem mw_X9_settled : Cond.code M_X9_settled.1 M_X9_settled.2.1 M_X9_settled.2.2.1 M_X9_settled.2.2.2.1 ∈ WS := ws_of 1271 (by decide +kernel) rfl
theorem mw_X9_last : Cond.code M_X9_last.1 M_X9_last.2.1 M_X9_last.2.2.1 M_X9_last.2.2.2.1 ∈ WS := ws_of 1274 (by decide +kernel) rfl
theorem mw_X9_ends : Cond.code M_X9_ends.1 M_X9_ends.2.1 M_X9_ends.2.2.1 M_X9_ends.2.2.2.1 ∈ WS := ws_of 1278 (by decide +kernel) rfl
theorem mw_X9_moves : Cond.code M_X9_moves.1 M_X9_moves.2.1 M_X9_moves.2.2.1 M_X9_moves.2.2.2.1 ∈ WS := ws_of 1282 (by decide +kernel) rfl
theorem mw_X9_lastBy : Cond.code M_X9_lastBy.1 M_X9_lastBy.2.1 M_X9_lastBy.2.2.1 M_X9_lastBy.2.2.2.1 ∈ WS := ws_of 1290 (by decide +kernel) rfl
theorem mw_X9_room : Cond.code M_X9_room.1 M_X9_room.2.1 M_X9_room.2.2.1 M_X9_room.2.2.2.1 ∈ WS := ws_of 1286 (by decide +kernel) rfl
theorem mw_X9_restless : Cond.code M_X9_restless.1 M_X9_restless.2.1 M_X9_restless.2.2.1 M_X9_restless.2.2.2.1 ∈ WS := ws_of 1294 (by decide +kernel) rfl
theorem mw_X9_isSeen : Cond.code M_X9_isSeen.1 M_X9_isSeen.2.1 M_X9_isSeen.2.2.1 M_X9_isSeen.2.2.2.1 ∈ WS := ws_of 1302 (by decide +kernel) rfl
theorem mw_X9_fits : Cond.code M_X9_fits.1 M_X9_fits.2.1 M_X9_fits.2.2.1 M_X9_fits.2.2.2.1 ∈ WS := ws_of 1298 (by decide +kernel) rfl
theorem mw_X9_chance : Cond.code M_X9_chance.1 M_X9_chance.2.1 M_X9_chance.2.2.1 M_X9_chance.2.2.2.1 ∈ WS := ws_of 1306 (by decide +kernel) rfl
theorem mw_X9_drawn : Cond.code M_X9_drawn.1 M_X9_drawn.2.1 M_X9_drawn.2.2.1 M_X9_drawn.2.2.2.1 ∈ WS := ws_of 1316 (by decide +kernel) rfl
theorem mw_X9_image : Cond.code M_X9_image.1 M_X9_image.2.1 M_X9_image.2.2.1 M_X9_image.2.2.2.1 ∈ WS := ws_of 1324 (by decide +kernel) rfl
theorem mw_X9_restore : Cond.code M_X9_restore.1 M_X9_restore.2.1 M_X9_restore.2.2.1 M_X9_restore.2.2.2.1 ∈ WS := ws_of 1328 (by decide +kernel) rfl
theorem mw_X9_kindIn : Cond.code M_X9_kindIn.1 M_X9_kindIn.2.1 M_X9_kindIn.2.2.1 M_X9_kindIn.2.2.2.1 ∈ WS := ws_of 1336 (by decide +kernel) rfl
theorem mw_X9_kind : Cond.code M_X9_kind.1 M_X9_kind.2.1 M_X9_kind.2.2.1 M_X9_kind.2.2.2.1 ∈ WS := ws_of 1332 (by decide +kernel) rfl
theorem mw_X9_as : Cond.code M_X9_as.1 M_X9_as.2.1 M_X9_as.2.2.1 M_X9_as.2.2.2.1 ∈ WS := ws_of 1340 (by decide +kernel) rfl
theorem mw_X9_traces : Cond.code M_X9_traces.1 M_X9_traces.2.1 M_X9_traces.2.2.1 M_X9_traces.2.2.2.1 ∈ WS := ws_of 1352 (by decide +kernel) rfl
theorem mw_X9_referenceMark : Cond.code M_X9_referenceMark.1 M_X9_referenceMark.2.1 M_X9_referenceMark.2.2.1 M_X9_referenceMark.2.2.2.1 ∈ WS := ws_of 1360 (by decide +kernel) rfl
theorem mw_X9_wordSize : Cond.code M_X9_wordSize.1 M_X9_wordSize.2.1 M_X9_wordSize.2.2.1 M_X9_wordSize.2.2.2.1 ∈ WS := ws_of 1348 (by decide +kernel) rfl
theorem mw_X9_referenceSize : Cond.code M_X9_referenceSize.1 M_X9_referenceSize.2.1 M_X9_referenceSize.2.2.1 M_X9_referenceSize.2.2.2.1 ∈ WS := ws_of 1356 (by decide +kernel) rfl
theorem mw_X9_wordMark : Cond.code M_X9_wordMark.1 M_X9_wordMark.2.1 M_X9_wordMark.2.2.1 M_X9_wordMark.2.2.2.1 ∈ WS := ws_of 1364 (by decide +kernel) rfl
theorem mw_X9_ask : Cond.code M_X9_ask.1 M_X9_ask.2.1 M_X9_ask.2.2.1 M_X9_ask.2.2.2.1 ∈ WS := ws_of 1344 (by decide +kernel) rfl
theorem mw_X9_trace : Cond.code M_X9_trace.1 M_X9_trace.2.1 M_X9_trace.2.2.1 M_X9_trace.2.2.2.1 ∈ WS := ws_of 1368 (by decide +kernel) rfl
theorem mw_X9_count : Cond.code M_X9_count.1 M_X9_count.2.1 M_X9_count.2.2.1 M_X9_count.2.2.2.1 ∈ WS := ws_of 1372 (by decide +kernel) rfl
theorem mw_X9_status : Cond.code M_X9_status.1 M_X9_status.2.1 M_X9_status.2.2.1 M_X9_status.2.2.2.1 ∈ WS := ws_of 1376 (by decide +kernel) rfl
theorem mw_J5_init_d00df : Cond.code M_J5_init_d00df.1 M_J5_init_d00df.2.1 M_J5_init_d00df.2.2.1 M_J5_init_d00df.2.2.2.1 ∈ WS := ws_of 587 (by decide +kernel) rfl
theorem mw_J5_length_8abf5 : Cond.code M_J5_length_8abf5.1 M_J5_length_8abf5.2.1 M_J5_length_8abf5.2.2.1 M_J5_length_8abf5.2.2.2.1 ∈ WS := ws_of 743 (by decide +kernel) rfl
theorem mw_J5_ensureCapacityInternal_d00df : Cond.code M_J5_ensureCapacityInternal_d00df.1 M_J5_ensureCapacityInternal_d00df.2.1 M_J5_ensureCapacityInternal_d00df.2.2.1 M_J5_ensureCapacityInternal_d00df.2.2.2.1 ∈ WS := ws_of 624 (by decide +kernel) rfl
theorem mw_J5_newCapacity_0f7a4 : Cond.code M_J5_newCapacity_0f7a4.1 M_J5_newCapacity_0f7a4.2.1 M_J5_newCapacity_0f7a4.2.2.1 M_J5_newCapacity_0f7a4.2.2.2.1 ∈ WS := ws_of 628 (by decide +kernel) rfl
theorem mw_J5_inflate_da8c8 : Cond.code M_J5_inflate_da8c8.1 M_J5_inflate_da8c8.2.1 M_J5_inflate_da8c8.2.2.1 M_J5_inflate_da8c8.2.2.2.1 ∈ WS := ws_of 661 (by decide +kernel) rfl
theorem mw_J5_charAt_5068e : Cond.code M_J5_charAt_5068e.1 M_J5_charAt_5068e.2.1 M_J5_charAt_5068e.2.2.1 M_J5_charAt_5068e.2.2.2.1 ∈ WS := ws_of 750 (by decide +kernel) rfl
theorem mw_J5_append_3fe6f : Cond.code M_J5_append_3fe6f.1 M_J5_append_3fe6f.2.1 M_J5_append_3fe6f.2.2.1 M_J5_append_3fe6f.2.2.2.1 ∈ WS := ws_of 620 (by decide +kernel) rfl
theorem mw_J5_append_c97b9 : Cond.code M_J5_append_c97b9.1 M_J5_append_c97b9.2.1 M_J5_append_c97b9.2.2.1 M_J5_append_c97b9.2.2.2.1 ∈ WS := ws_of 709 (by decide +kernel) rfl
theorem mw_J5_isLatin1_aae02 : Cond.code M_J5_isLatin1_aae02.1 M_J5_isLatin1_aae02.2.1 M_J5_isLatin1_aae02.2.2.1 M_J5_isLatin1_aae02.2.2.2.1 ∈ WS := ws_of 654 (by decide +kernel) rfl
theorem mw_J6_getChars_ba4f3 : Cond.code M_J6_getChars_ba4f3.1 M_J6_getChars_ba4f3.2.1 M_J6_getChars_ba4f3.2.2.1 M_J6_getChars_ba4f3.2.2.2.1 ∈ WS := ws_of 715 (by decide +kernel) rfl
theorem mw_J6_stringSize_0f7a4 : Cond.code M_J6_stringSize_0f7a4.1 M_J6_stringSize_0f7a4.2.1 M_J6_stringSize_0f7a4.2.2.1 M_J6_stringSize_0f7a4.2.2.2.1 ∈ WS := ws_of 712 (by decide +kernel) rfl
theorem mw_J6_bitCount_0f7a4 : Cond.code M_J6_bitCount_0f7a4.1 M_J6_bitCount_0f7a4.2.1 M_J6_bitCount_0f7a4.2.2.1 M_J6_bitCount_0f7a4.2.2.2.1 ∈ WS := ws_of 546 (by decide +kernel) rfl
theorem mw_J9_max_7cf53 : Cond.code M_J9_max_7cf53.1 M_J9_max_7cf53.2.1 M_J9_max_7cf53.2.2.1 M_J9_max_7cf53.2.2.2.1 ∈ WS := ws_of 478 (by decide +kernel) rfl
theorem mw_J9_min_7cf53 : Cond.code M_J9_min_7cf53.1 M_J9_min_7cf53.2.1 M_J9_min_7cf53.2.2.1 M_J9_min_7cf53.2.2.2.1 ∈ WS := ws_of 389 (by decide +kernel) rfl
theorem mw_J0_checkIndex_df160 : Cond.code M_J0_checkIndex_df160.1 M_J0_checkIndex_df160.2.1 M_J0_checkIndex_df160.2.2.1 M_J0_checkIndex_df160.2.2.2.1 ∈ WS := ws_of 699 (by decide +kernel) rfl
theorem mw_J0_checkBoundsOffCount_cabcc : Cond.code M_J0_checkBoundsOffCount_cabcc.1 M_J0_checkBoundsOffCount_cabcc.2.1 M_J0_checkBoundsOffCount_cabcc.2.2.1 M_J0_checkBoundsOffCount_cabcc.2.2.2.1 ∈ WS := ws_of 676 (by decide +kernel) rfl
theorem mw_J0_checkBoundsBeginEnd_23922 : Cond.code M_J0_checkBoundsBeginEnd_23922.1 M_J0_checkBoundsBeginEnd_23922.2.1 M_J0_checkBoundsBeginEnd_23922.2.2.1 M_J0_checkBoundsBeginEnd_23922.2.2.2.1 ∈ WS := ws_of 728 (by decide +kernel) rfl
theorem mw_J4_init_da8c8 : Cond.code M_J4_init_da8c8.1 M_J4_init_da8c8.2.1 M_J4_init_da8c8.2.2.1 M_J4_init_da8c8.2.2.2.1 ∈ WS := ws_of 584 (by decide +kernel) rfl
theorem mw_J4_append_cf468 : Cond.code M_J4_append_cf468.1 M_J4_append_cf468.2.1 M_J4_append_cf468.2.2.1 M_J4_append_cf468.2.2.2.1 ∈ WS := ws_of 617 (by decide +kernel) rfl
theorem mw_J4_append_bf812 : Cond.code M_J4_append_bf812.1 M_J4_append_bf812.2.1 M_J4_append_bf812.2.2.1 M_J4_append_bf812.2.2.2.1 ∈ WS := ws_of 706 (by decide +kernel) rfl
theorem mw_J4_charAt_5068e : Cond.code M_J4_charAt_5068e.1 M_J4_charAt_5068e.2.1 M_J4_charAt_5068e.2.2.1 M_J4_charAt_5068e.2.2.2.1 ∈ WS := ws_of 747 (by decide +kernel) rfl
theorem mw_J4_length_8abf5 : Cond.code M_J4_length_8abf5.1 M_J4_length_8abf5.2.1 M_J4_length_8abf5.2.2.1 M_J4_length_8abf5.2.2.2.1 ∈ WS := ws_of 740 (by decide +kernel) rfl
theorem mw_J1_canEncode_fc78d : Cond.code M_J1_canEncode_fc78d.1 M_J1_canEncode_fc78d.2.1 M_J1_canEncode_fc78d.2.2.1 M_J1_canEncode_fc78d.2.2.2.1 ∈ WS := ws_of 657 (by decide +kernel) rfl
theorem mw_J1_inflate_0e8fd : Cond.code M_J1_inflate_0e8fd.1 M_J1_inflate_0e8fd.2.1 M_J1_inflate_0e8fd.2.2.1 M_J1_inflate_0e8fd.2.2.2.1 ∈ WS := ws_of 664 (by decide +kernel) rfl
theorem mw_J2_newBytesFor_77867 : Cond.code M_J2_newBytesFor_77867.1 M_J2_newBytesFor_77867.2.1 M_J2_newBytesFor_77867.2.2.1 M_J2_newBytesFor_77867.2.2.2.1 ∈ WS := ws_of 593 (by decide +kernel) rfl
theorem mw_J2_newBytesLength_0f7a4 : Cond.code M_J2_newBytesLength_0f7a4.1 M_J2_newBytesLength_0f7a4.2.1 M_J2_newBytesLength_0f7a4.2.2.1 M_J2_newBytesLength_0f7a4.2.2.2.1 ∈ WS := ws_of 596 (by decide +kernel) rfl
theorem mw_J2_putChar_b72d1 : Cond.code M_J2_putChar_b72d1.1 M_J2_putChar_b72d1.2.1 M_J2_putChar_b72d1.2.2.1 M_J2_putChar_b72d1.2.2.2.1 ∈ WS := ws_of 684 (by decide +kernel) rfl
theorem mw_J2_getChar_3b067 : Cond.code M_J2_getChar_3b067.1 M_J2_getChar_3b067.2.1 M_J2_getChar_3b067.2.2.1 M_J2_getChar_3b067.2.2.2.1 ∈ WS := ws_of 755 (by decide +kernel) rfl
theorem mw_J2_length_9d52b : Cond.code M_J2_length_9d52b.1 M_J2_length_9d52b.2.1 M_J2_length_9d52b.2.2.1 M_J2_length_9d52b.2.2.2.1 ∈ WS := ws_of 673 (by decide +kernel) rfl
theorem mw_J2_putCharSB_b72d1 : Cond.code M_J2_putCharSB_b72d1.1 M_J2_putCharSB_b72d1.2.1 M_J2_putCharSB_b72d1.2.2.1 M_J2_putCharSB_b72d1.2.2.2.1 ∈ WS := ws_of 693 (by decide +kernel) rfl
theorem mw_J2_getChars_46870 : Cond.code M_J2_getChars_46870.1 M_J2_getChars_46870.2.1 M_J2_getChars_46870.2.2.1 M_J2_getChars_46870.2.2.2.1 ∈ WS := ws_of 722 (by decide +kernel) rfl
theorem mw_J2_inflate_0e8fd : Cond.code M_J2_inflate_0e8fd.1 M_J2_inflate_0e8fd.2.1 M_J2_inflate_0e8fd.2.2.1 M_J2_inflate_0e8fd.2.2.2.1 ∈ WS := ws_of 667 (by decide +kernel) rfl
theorem mw_J2_getChars_ba4f3 : Cond.code M_J2_getChars_ba4f3.1 M_J2_getChars_ba4f3.2.1 M_J2_getChars_ba4f3.2.2.1 M_J2_getChars_ba4f3.2.2.2.1 ∈ WS := ws_of 734 (by decide +kernel) rfl
theorem mw_J2_checkIndex_2214a : Cond.code M_J2_checkIndex_2214a.1 M_J2_checkIndex_2214a.2.1 M_J2_checkIndex_2214a.2.2.1 M_J2_checkIndex_2214a.2.2.2.1 ∈ WS := ws_of 696 (by decide +kernel) rfl
theorem mw_J2_checkBoundsBeginEnd_d044e : Cond.code M_J2_checkBoundsBeginEnd_d044e.1 M_J2_checkBoundsBeginEnd_d044e.2.1 M_J2_checkBoundsBeginEnd_d044e.2.2.1 M_J2_checkBoundsBeginEnd_d044e.2.2.2.1 ∈ WS := ws_of 725 (by decide +kernel) rfl
theorem mw_J2_checkBoundsOffCount_d044e : Cond.code M_J2_checkBoundsOffCount_d044e.1 M_J2_checkBoundsOffCount_d044e.2.1 M_J2_checkBoundsOffCount_d044e.2.2.1 M_J2_checkBoundsOffCount_d044e.2.2.2.1 ∈ WS := ws_of 670 (by decide +kernel) rfl
theorem mw_J7_fill_53178 : Cond.code M_J7_fill_53178.1 M_J7_fill_53178.2.1 M_J7_fill_53178.2.2.1 M_J7_fill_53178.2.2.2.1 ∈ WS := ws_of 41 (by decide +kernel) rfl
theorem mw_J7_copyOf_9075b : Cond.code M_J7_copyOf_9075b.1 M_J7_copyOf_9075b.2.1 M_J7_copyOf_9075b.2.2.1 M_J7_copyOf_9075b.2.2.2.1 ∈ WS := ws_of 640 (by decide +kernel) rfl
theorem mw_J8_newLength_cabcc : Cond.code M_J8_newLength_cabcc.1 M_J8_newLength_cabcc.2.1 M_J8_newLength_cabcc.2.2.1 M_J8_newLength_cabcc.2.2.2.1 ∈ WS := ws_of 631 (by decide +kernel) rfl
theorem mw_J8_hugeLength_7cf53 : Cond.code M_J8_hugeLength_7cf53.1 M_J8_hugeLength_7cf53.2.1 M_J8_hugeLength_7cf53.2.2.1 M_J8_hugeLength_7cf53.2.2.2.1 ∈ WS := ws_of 636 (by decide +kernel) rfl
theorem mw_J3_checkIndex_8e157 : Cond.code M_J3_checkIndex_8e157.1 M_J3_checkIndex_8e157.2.1 M_J3_checkIndex_8e157.2.2.1 M_J3_checkIndex_8e157.2.2.2.1 ∈ WS := ws_of 702 (by decide +kernel) rfl
theorem mw_J3_checkFromToIndex_8c36e : Cond.code M_J3_checkFromToIndex_8c36e.1 M_J3_checkFromToIndex_8c36e.2.1 M_J3_checkFromToIndex_8c36e.2.2.1 M_J3_checkFromToIndex_8c36e.2.2.2.1 ∈ WS := ws_of 731 (by decide +kernel) rfl
theorem mw_J3_checkFromIndexSize_8c36e : Cond.code M_J3_checkFromIndexSize_8c36e.1 M_J3_checkFromIndexSize_8c36e.2.1 M_J3_checkFromIndexSize_8c36e.2.2.1 M_J3_checkFromIndexSize_8c36e.2.2.2.1 ∈ WS := ws_of 681 (by decide +kernel) rfl
theorem vl_RX0_28 : VL RX0 28 M_X0_begin 1 1 := ⟨ws_of 926 (by decide +kernel) rfl, ws_of 928 (by decide +kernel) rfl, ws_priv 21 (by decide +kernel) rfl, ws_of 10 (by decide +kernel) rfl, mw_X0_begin, ⟨by decide, by decide, by decide +kernel⟩, by decide, TX0, 3, rfl⟩
theorem vl_RX0_32 : VL RX0 32 M_X0_lentSize 1 1 := ⟨ws_of 930 (by decide +kernel) rfl, ws_of 932 (by decide +kernel) rfl, ws_priv 22 (by decide +kernel) rfl, ws_of 10 (by decide +kernel) rfl, mw_X0_lentSize, ⟨by decide, by decide, by decide +kernel⟩, by decide, TX0, 3, rfl⟩
theorem vl_RX0_36 : VL RX0 36 M_X0_markOfReference 1 1 := ⟨ws_of 935 (by decide +kernel) rfl, ws_of 936 (by decide +kernel) rfl, ws_of 937 (by decide +kernel) rfl, ws_of 10 (by decide +kernel) rfl, mw_X0_markOfReference, ⟨by decide, by decide, by decide +kernel⟩, by decide, TX0, 3, rfl⟩
theorem vl_RX0_39 : VL RX0 39 M_X0_lentMark 1 1 := ⟨ws_of 939 (by decide +kernel) rfl, ws_of 941 (by decide +kernel) rfl, ws_priv 23 (by decide +kernel) rfl, ws_of 10 (by decide +kernel) rfl, mw_X0_lentMark, ⟨by decide, by decide, by decide +kernel⟩, by decide, TX0, 3, rfl⟩
theorem vl_RX0_45 : VL RX0 45 M_X0_sizeOfWord 1 1 := ⟨ws_of 952 (by decide +kernel) rfl, ws_of 945 (by decide +kernel) rfl, ws_of 946 (by decide +kernel) rfl, ws_of 10 (by decide +kernel) rfl, mw_X0_sizeOfWord, ⟨by decide, by decide, by decide +kernel⟩, by decide, TX0, 3, rfl⟩
theorem vl_RX0_48 : VL RX0 48 M_X7_wideBy 8 2 := ⟨ws_of 934 (by decide +kernel) rfl, ws_of 468 (by decide +kernel) rfl, ws_of 469 (by decide +kernel) rfl, ws_of 5 (by decide +kernel) rfl, mw_X7_wideBy, ⟨by decide, by decide, by decide +kernel⟩, by decide, TX7, 9, rfl⟩
theorem vl_RX1_36 : VL RX1 36 M_X7_takeFrom 8 1 := ⟨ws_of 765 (by decide +kernel) rfl, ws_of 433 (by decide +kernel) rfl, ws_of 434 (by decide +kernel) rfl, ws_of 5 (by decide +kernel) rfl, mw_X7_takeFrom, ⟨by decide, by decide, by decide +kernel⟩, by decide, TX7, 9, rfl⟩
theorem vl_RX1_42 : VL RX1 42 M_X6_goRound 7 1 := ⟨ws_of 766 (by decide +kernel) rfl, ws_of 460 (by decide +kernel) rfl, ws_of 461 (by decide +kernel) rfl, ws_of 6 (by decide +kernel) rfl, mw_X6_goRound, ⟨by decide, by decide, by decide +kernel⟩, by decide, TX6, 7, rfl⟩
theorem vl_RX1_51 : VL RX1 51 M_X6_outlined 7 1 := ⟨ws_of 775 (by decide +kernel) rfl, ws_of 565 (by decide +kernel) rfl, ws_of 566 (by decide +kernel) rfl, ws_of 6 (by decide +kernel) rfl, mw_X6_outlined, ⟨by decide, by decide, by decide +kernel⟩, by decide, TX6, 7, rfl⟩
theorem vl_RX1_62 : VL RX1 62 M_X7_isReference 8 1 := ⟨ws_of 776 (by decide +kernel) rfl, ws_of 573 (by decide +kernel) rfl, ws_of 574 (by decide +kernel) rfl, ws_of 5 (by decide +kernel) rfl, mw_X7_isReference, ⟨by decide, by decide, by decide +kernel⟩, by decide, TX7, 9, rfl⟩
theorem vl_RX1_66 : VL RX1 66 M_X7_holds 8 1 := ⟨ws_of 777 (by decide +kernel) rfl, ws_of 423 (by decide +kernel) rfl, ws_of 424 (by decide +kernel) rfl, ws_of 5 (by decide +kernel) rfl, mw_X7_holds, ⟨by decide, by decide, by decide +kernel⟩, by decide, TX7, 9, rfl⟩
theorem vl_RX1_72 : VL RX1 72 M_X2_setOut 3 2 := ⟨ws_of 798 (by decide +kernel) rfl, ws_of 464 (by decide +kernel) rfl, ws_of 465 (by decide +kernel) rfl, ws_of 7 (by decide +kernel) rfl, mw_X2_setOut, ⟨by decide, by decide, by decide +kernel⟩, by decide, TX2, 3, rfl⟩
theorem vl_RX1_76 : VL RX1 76 M_X2_hasElsewhere 3 2 := ⟨ws_of 799 (by decide +kernel) rfl, ws_of 800 (by decide +kernel) rfl, ws_of 801 (by decide +kernel) rfl, ws_of 7 (by decide +kernel) rfl, mw_X2_hasElsewhere, ⟨by decide, by decide, by decide +kernel⟩, by decide, TX2, 3, rfl⟩
theorem vl_RX1_80 : VL RX1 80 M_X1_lastPageWith 2 2 := ⟨ws_of 811 (by decide +kernel) rfl, ws_of 813 (by decide +kernel) rfl, ws_priv 17 (by decide +kernel) rfl, ws_of 8 (by decide +kernel) rfl, mw_X1_lastPageWith, ⟨by decide, by decide, by decide +kernel⟩, by decide, TX1, 9, rfl⟩
theorem vl_RX1_84 : VL RX1 84 M_X7_beginAnew 8 0 := ⟨ws_of 815 (by decide +kernel) rfl, ws_of 427 (by decide +kernel) rfl, ws_of 428 (by decide +kernel) rfl, ws_of 5 (by decide +kernel) rfl, mw_X7_beginAnew, ⟨by decide, by decide, by decide +kernel⟩, by decide, TX7, 9, rfl⟩
theorem vl_RX1_87 : VL RX1 87 M_X6_bringToRest 7 2 := ⟨ws_of 816 (by decide +kernel) rfl, ws_of 484 (by decide +kernel) rfl, ws_of 485 (by decide +kernel) rfl, ws_of 6 (by decide +kernel) rfl, mw_X6_bringToRest, ⟨by decide, by decide, by decide +kernel⟩, by decide, TX6, 7, rfl⟩
theorem vl_RX1_91 : VL RX1 91 M_X7_lastGuess 8 0 := ⟨ws_of 817 (by decide +kernel) rfl, ws_of 783 (by decide +kernel) rfl, ws_of 784 (by decide +kernel) rfl, ws_of 5 (by decide +kernel) rfl, mw_X7_lastGuess, ⟨by decide, by decide, by decide +kernel⟩, by decide, TX7, 9, rfl⟩
theorem vl_RX1_114 : VL RX1 114 M_X7_mayBeNumber 8 2 := ⟨ws_of 839 (by decide +kernel) rfl, ws_of 419 (by decide +kernel) rfl, ws_of 420 (by decide +kernel) rfl, ws_of 5 (by decide +kernel) rfl, mw_X7_mayBeNumber, ⟨by decide, by decide, by decide +kernel⟩, by decide, TX7, 9, rfl⟩
theorem vl_RX1_118 : VL RX1 118 M_X1_comesAsExpected 2 0 := ⟨ws_of 840 (by decide +kernel) rfl, ws_of 842 (by decide +kernel) rfl, ws_priv 18 (by decide +kernel) rfl, ws_of 8 (by decide +kernel) rfl, mw_X1_comesAsExpected, ⟨by decide, by decide, by decide +kernel⟩, by decide, TX1, 9, rfl⟩
theorem vl_RX1_122 : VL RX1 122 M_X1_gatherGrowing 2 0 := ⟨ws_of 862 (by decide +kernel) rfl, ws_of 864 (by decide +kernel) rfl, ws_priv 19 (by decide +kernel) rfl, ws_of 8 (by decide +kernel) rfl, mw_X1_gatherGrowing, ⟨by decide, by decide, by decide +kernel⟩, by decide, TX1, 9, rfl⟩
theorem sl_RX1_125 : SL RX1 125 M_X1_weightOf 3 := ⟨ws_of 866 (by decide +kernel) rfl, ws_of 867 (by decide +kernel) rfl, ws_of 8 (by decide +kernel) rfl, mw_X1_weightOf, ⟨by decide, by decide, by decide +kernel⟩⟩
theorem vl_RX1_129 : VL RX1 129 M_X1_settlesGrown 2 2 := ⟨ws_of 869 (by decide +kernel) rfl, ws_of 871 (by decide +kernel) rfl, ws_priv 20 (by decide +kernel) rfl, ws_of 8 (by decide +kernel) rfl, mw_X1_settlesGrown, ⟨by decide, by decide, by decide +kernel⟩, by decide, TX1, 9, rfl⟩
theorem vl_RX2_36 : VL RX2 36 M_X7_wideBy 8 2 := ⟨ws_of 467 (by decide +kernel) rfl, ws_of 468 (by decide +kernel) rfl, ws_of 469 (by decide +kernel) rfl, ws_of 5 (by decide +kernel) rfl, mw_X7_wideBy, ⟨by decide, by decide, by decide +kernel⟩, by decide, TX7, 9, rfl⟩
theorem vl_RX3_23 : VL RX3 23 M_X7_takeFrom 8 1 := ⟨ws_of 458 (by decide +kernel) rfl, ws_of 433 (by decide +kernel) rfl, ws_of 434 (by decide +kernel) rfl, ws_of 5 (by decide +kernel) rfl, mw_X7_takeFrom, ⟨by decide, by decide, by decide +kernel⟩, by decide, TX7, 9, rfl⟩
theorem sl_RX4_15 : SL RX4 15 M_J9_min_7cf53 2 := ⟨ws_of 387 (by decide +kernel) rfl, ws_of 388 (by decide +kernel) rfl, ws_of 13 (by decide +kernel) rfl, mw_J9_min_7cf53, ⟨by decide, by decide, by decide +kernel⟩⟩
theorem vl_RX4_39 : VL RX4 39 M_X4_readLaw 5 1 := ⟨ws_of 390 (by decide +kernel) rfl, ws_of 392 (by decide +kernel) rfl, ws_priv 2 (by decide +kernel) rfl, ws_of 4 (by decide +kernel) rfl, mw_X4_readLaw, ⟨by decide, by decide, by decide +kernel⟩, by decide, TX4, 4, rfl⟩
theorem vl_RX4_43 : VL RX4 43 M_X4_readItem 5 1 := ⟨ws_of 402 (by decide +kernel) rfl, ws_of 404 (by decide +kernel) rfl, ws_priv 5 (by decide +kernel) rfl, ws_of 4 (by decide +kernel) rfl, mw_X4_readItem, ⟨by decide, by decide, by decide +kernel⟩, by decide, TX4, 4, rfl⟩
theorem vl_RX4_46 : VL RX4 46 M_X4_lookAtReferences 5 1 := ⟨ws_of 414 (by decide +kernel) rfl, ws_of 416 (by decide +kernel) rfl, ws_priv 7 (by decide +kernel) rfl, ws_of 4 (by decide +kernel) rfl, mw_X4_lookAtReferences, ⟨by decide, by decide, by decide +kernel⟩, by decide, TX4, 4, rfl⟩
theorem vl_RX4_49 : VL RX4 49 M_X7_beginAnew 8 0 := ⟨ws_of 426 (by decide +kernel) rfl, ws_of 427 (by decide +kernel) rfl, ws_of 428 (by decide +kernel) rfl, ws_of 5 (by decide +kernel) rfl, mw_X7_beginAnew, ⟨by decide, by decide, by decide +kernel⟩, by decide, TX7, 9, rfl⟩
theorem vl_RX4_52 : VL RX4 52 M_X4_readSign 5 1 := ⟨ws_of 394 (by decide +kernel) rfl, ws_of 396 (by decide +kernel) rfl, ws_priv 3 (by decide +kernel) rfl, ws_of 4 (by decide +kernel) rfl, mw_X4_readSign, ⟨by decide, by decide, by decide +kernel⟩, by decide, TX4, 4, rfl⟩
theorem vl_RX4_56 : VL RX4 56 M_X4_readNumber 5 2 := ⟨ws_of 398 (by decide +kernel) rfl, ws_of 400 (by decide +kernel) rfl, ws_priv 4 (by decide +kernel) rfl, ws_of 4 (by decide +kernel) rfl, mw_X4_readNumber, ⟨by decide, by decide, by decide +kernel⟩, by decide, TX4, 4, rfl⟩
theorem sl_RX4_68 : SL RX4 68 M_X4_kindOf 1 := ⟨ws_of 406 (by decide +kernel) rfl, ws_of 407 (by decide +kernel) rfl, ws_of 4 (by decide +kernel) rfl, mw_X4_kindOf, ⟨by decide, by decide, by decide +kernel⟩⟩
theorem vl_RX4_79 : VL RX4 79 M_X4_readNumberOf 5 1 := ⟨ws_of 410 (by decide +kernel) rfl, ws_of 412 (by decide +kernel) rfl, ws_priv 6 (by decide +kernel) rfl, ws_of 4 (by decide +kernel) rfl, mw_X4_readNumberOf, ⟨by decide, by decide, by decide +kernel⟩, by decide, TX4, 4, rfl⟩
theorem vl_RX4_82 : VL RX4 82 M_X7_mayBeNumber 8 2 := ⟨ws_of 418 (by decide +kernel) rfl, ws_of 419 (by decide +kernel) rfl, ws_of 420 (by decide +kernel) rfl, ws_of 5 (by decide +kernel) rfl, mw_X7_mayBeNumber, ⟨by decide, by decide, by decide +kernel⟩, by decide, TX7, 9, rfl⟩
theorem sl_RX5_21 : SL RX5 21 M_J7_fill_53178 2 := ⟨ws_of 39 (by decide +kernel) rfl, ws_of 40 (by decide +kernel) rfl, ws_of 3 (by decide +kernel) rfl, mw_J7_fill_53178, ⟨by decide, by decide, by decide +kernel⟩⟩
theorem ac_RX5_27 : Cond.methodLink RX5 27 arraycopyName ∈ WS ∧ Cond.native arraycopyName ∈ WS ∧ Cond.static arraycopyName ∈ WS ∧ Cond.initialized "java/lang/System" ∈ WS := ⟨ws_of 363 (by decide +kernel) rfl, ws_of 365 (by decide +kernel) rfl, ws_of 364 (by decide +kernel) rfl, ws_of 12 (by decide +kernel) rfl⟩
theorem vl_RX5_33 : VL RX5 33 M_X5_isMissing 6 1 := ⟨ws_of 966 (by decide +kernel) rfl, ws_of 340 (by decide +kernel) rfl, ws_of 341 (by decide +kernel) rfl, ws_of 2 (by decide +kernel) rfl, mw_X5_isMissing, ⟨by decide, by decide, by decide +kernel⟩, by decide, TX5, 3, rfl⟩
theorem vl_RX6_23 : VL RX6 23 M_X2_setOut 3 2 := ⟨ws_of 463 (by decide +kernel) rfl, ws_of 464 (by decide +kernel) rfl, ws_of 465 (by decide +kernel) rfl, ws_of 7 (by decide +kernel) rfl, mw_X2_setOut, ⟨by decide, by decide, by decide +kernel⟩, by decide, TX2, 3, rfl⟩
theorem vl_RX6_52 : VL RX6 52 M_X6_isAtRest 7 1 := ⟨ws_of 487 (by decide +kernel) rfl, ws_of 489 (by decide +kernel) rfl, ws_priv 9 (by decide +kernel) rfl, ws_of 6 (by decide +kernel) rfl, mw_X6_isAtRest, ⟨by decide, by decide, by decide +kernel⟩, by decide, TX6, 7, rfl⟩
theorem vl_RX6_60 : VL RX6 60 M_X6_keep 7 1 := ⟨ws_of 494 (by decide +kernel) rfl, ws_of 496 (by decide +kernel) rfl, ws_priv 10 (by decide +kernel) rfl, ws_of 6 (by decide +kernel) rfl, mw_X6_keep, ⟨by decide, by decide, by decide +kernel⟩, by decide, TX6, 7, rfl⟩
theorem ac_RX6_64 : Cond.methodLink RX6 64 arraycopyName ∈ WS ∧ Cond.native arraycopyName ∈ WS ∧ Cond.static arraycopyName ∈ WS ∧ Cond.initialized "java/lang/System" ∈ WS := ⟨ws_of 498 (by decide +kernel) rfl, ws_of 365 (by decide +kernel) rfl, ws_of 364 (by decide +kernel) rfl, ws_of 12 (by decide +kernel) rfl⟩
theorem vl_RX6_70 : VL RX6 70 M_X6_ringSince 7 1 := ⟨ws_of 499 (by decide +kernel) rfl, ws_of 501 (by decide +kernel) rfl, ws_priv 11 (by decide +kernel) rfl, ws_of 6 (by decide +kernel) rfl, mw_X6_ringSince, ⟨by decide, by decide, by decide +kernel⟩, by decide, TX6, 7, rfl⟩
theorem vl_RX6_74 : VL RX6 74 M_X6_freezeSince 7 2 := ⟨ws_of 503 (by decide +kernel) rfl, ws_of 505 (by decide +kernel) rfl, ws_priv 12 (by decide +kernel) rfl, ws_of 6 (by decide +kernel) rfl, mw_X6_freezeSince, ⟨by decide, by decide, by decide +kernel⟩, by decide, TX6, 7, rfl⟩
theorem sl_RX6_77 : SL RX6 77 M_X6_areSame 2 := ⟨ws_of 491 (by decide +kernel) rfl, ws_of 492 (by decide +kernel) rfl, ws_of 6 (by decide +kernel) rfl, mw_X6_areSame, ⟨by decide, by decide, by decide +kernel⟩⟩
theorem vl_RX6_81 : VL RX6 81 M_X6_freezeIfRestless 7 3 := ⟨ws_of 507 (by decide +kernel) rfl, ws_of 509 (by decide +kernel) rfl, ws_priv 13 (by decide +kernel) rfl, ws_of 6 (by decide +kernel) rfl, mw_X6_freezeIfRestless, ⟨by decide, by decide, by decide +kernel⟩, by decide, TX6, 7, rfl⟩
theorem vl_RX6_85 : VL RX6 85 M_X7_wideBy 8 2 := ⟨ws_of 511 (by decide +kernel) rfl, ws_of 468 (by decide +kernel) rfl, ws_of 469 (by decide +kernel) rfl, ws_of 5 (by decide +kernel) rfl, mw_X7_wideBy, ⟨by decide, by decide, by decide +kernel⟩, by decide, TX7, 9, rfl⟩
theorem sl_RX6_89 : SL RX6 89 M_J9_min_7cf53 2 := ⟨ws_of 512 (by decide +kernel) rfl, ws_of 388 (by decide +kernel) rfl, ws_of 13 (by decide +kernel) rfl, mw_J9_min_7cf53, ⟨by decide, by decide, by decide +kernel⟩⟩
theorem sl_RX6_95 : SL RX6 95 M_J9_max_7cf53 2 := ⟨ws_of 513 (by decide +kernel) rfl, ws_of 477 (by decide +kernel) rfl, ws_of 13 (by decide +kernel) rfl, mw_J9_max_7cf53, ⟨by decide, by decide, by decide +kernel⟩⟩
theorem ac_RX7_40 : Cond.methodLink RX7 40 arraycopyName ∈ WS ∧ Cond.native arraycopyName ∈ WS ∧ Cond.static arraycopyName ∈ WS ∧ Cond.initialized "java/lang/System" ∈ WS := ⟨ws_of 436 (by decide +kernel) rfl, ws_of 365 (by decide +kernel) rfl, ws_of 364 (by decide +kernel) rfl, ws_of 12 (by decide +kernel) rfl⟩
theorem sl_RX7_46 : SL RX7 46 M_J7_fill_53178 2 := ⟨ws_of 430 (by decide +kernel) rfl, ws_of 40 (by decide +kernel) rfl, ws_of 3 (by decide +kernel) rfl, mw_J7_fill_53178, ⟨by decide, by decide, by decide +kernel⟩⟩
theorem vl_RX7_52 : VL RX7 52 M_X7_isReference 8 1 := ⟨ws_of 913 (by decide +kernel) rfl, ws_of 573 (by decide +kernel) rfl, ws_of 574 (by decide +kernel) rfl, ws_of 5 (by decide +kernel) rfl, mw_X7_isReference, ⟨by decide, by decide, by decide +kernel⟩, by decide, TX7, 9, rfl⟩
theorem vl_RX7_56 : VL RX7 56 M_X7_holds 8 1 := ⟨ws_of 422 (by decide +kernel) rfl, ws_of 423 (by decide +kernel) rfl, ws_of 424 (by decide +kernel) rfl, ws_of 5 (by decide +kernel) rfl, mw_X7_holds, ⟨by decide, by decide, by decide +kernel⟩, by decide, TX7, 9, rfl⟩
theorem sl_RX7_59 : SL RX7 59 M_X7_signsOf 2 := ⟨ws_of 471 (by decide +kernel) rfl, ws_of 472 (by decide +kernel) rfl, ws_of 5 (by decide +kernel) rfl, mw_X7_signsOf, ⟨by decide, by decide, by decide +kernel⟩⟩
theorem sl_RX7_63 : SL RX7 63 M_J9_max_7cf53 2 := ⟨ws_of 476 (by decide +kernel) rfl, ws_of 477 (by decide +kernel) rfl, ws_of 13 (by decide +kernel) rfl, mw_J9_max_7cf53, ⟨by decide, by decide, by decide +kernel⟩⟩
theorem il_RX7_70 : IL RX7 70 M_J4_init_da8c8 0 := ⟨ws_of 582 (by decide +kernel) rfl, ws_of 583 (by decide +kernel) rfl, rfl, rfl, ws_of 17 (by decide +kernel) rfl, mw_J4_init_da8c8, ⟨by decide, by decide, by decide +kernel⟩⟩
theorem sl_RX7_71 : SL RX7 71 M_X7_appendRoman 5 := ⟨ws_of 611 (by decide +kernel) rfl, ws_of 612 (by decide +kernel) rfl, ws_of 5 (by decide +kernel) rfl, mw_X7_appendRoman, ⟨by decide, by decide, by decide +kernel⟩⟩
theorem vl_RX7_75 : VL RX7 75 M_J4_append_bf812 0 1 := ⟨ws_of 703 (by decide +kernel) rfl, ws_of 704 (by decide +kernel) rfl, ws_of 705 (by decide +kernel) rfl, ws_of 17 (by decide +kernel) rfl, mw_J4_append_bf812, ⟨by decide, by decide, by decide +kernel⟩, by decide, TJ4, 4, rfl⟩
theorem vl_RX7_79 : VL RX7 79 M_J4_append_cf468 0 1 := ⟨ws_of 614 (by decide +kernel) rfl, ws_of 615 (by decide +kernel) rfl, ws_of 616 (by decide +kernel) rfl, ws_of 17 (by decide +kernel) rfl, mw_J4_append_cf468, ⟨by decide, by decide, by decide +kernel⟩, by decide, TJ4, 4, rfl⟩
theorem vl_RX7_82 : VL RX7 82 M_J4_length_8abf5 0 0 := ⟨ws_of 737 (by decide +kernel) rfl, ws_of 738 (by decide +kernel) rfl, ws_of 739 (by decide +kernel) rfl, ws_of 17 (by decide +kernel) rfl, mw_J4_length_8abf5, ⟨by decide, by decide, by decide +kernel⟩, by decide, TJ4, 4, rfl⟩
theorem vl_RX7_86 : VL RX7 86 M_J4_charAt_5068e 0 1 := ⟨ws_of 744 (by decide +kernel) rfl, ws_of 745 (by decide +kernel) rfl, ws_of 746 (by decide +kernel) rfl, ws_of 17 (by decide +kernel) rfl, mw_J4_charAt_5068e, ⟨by decide, by decide, by decide +kernel⟩, by decide, TJ4, 4, rfl⟩
theorem il_RX8_9 : IL RX8 9 M_X5_init 0 := ⟨ws_of 33 (by decide +kernel) rfl, ws_of 34 (by decide +kernel) rfl, rfl, rfl, ws_of 2 (by decide +kernel) rfl, mw_X5_init, ⟨by decide, by decide, by decide +kernel⟩⟩
theorem il_RX8_46 : IL RX8 46 M_X1_init 3 := ⟨ws_of 199 (by decide +kernel) rfl, ws_of 200 (by decide +kernel) rfl, rfl, rfl, ws_of 8 (by decide +kernel) rfl, mw_X1_init, ⟨by decide, by decide, by decide +kernel⟩⟩
theorem il_RX8_55 : IL RX8 55 M_X3_init 0 := ⟨ws_of 235 (by decide +kernel) rfl, ws_of 236 (by decide +kernel) rfl, rfl, rfl, ws_of 9 (by decide +kernel) rfl, mw_X3_init, ⟨by decide, by decide, by decide +kernel⟩⟩
theorem il_RX8_66 : IL RX8 66 M_X0_init 1 := ⟨ws_of 255 (by decide +kernel) rfl, ws_of 256 (by decide +kernel) rfl, rfl, rfl, ws_of 10 (by decide +kernel) rfl, mw_X0_init, ⟨by decide, by decide, by decide +kernel⟩⟩
theorem sl_RX8_73 : SL RX8 73 M_X5_isNumber 1 := ⟨ws_of 315 (by decide +kernel) rfl, ws_of 316 (by decide +kernel) rfl, ws_of 2 (by decide +kernel) rfl, mw_X5_isNumber, ⟨by decide, by decide, by decide +kernel⟩⟩
theorem sl_RX8_77 : SL RX8 77 M_X5_isLane 1 := ⟨ws_of 318 (by decide +kernel) rfl, ws_of 319 (by decide +kernel) rfl, ws_of 2 (by decide +kernel) rfl, mw_X5_isLane, ⟨by decide, by decide, by decide +kernel⟩⟩
theorem vl_RX8_81 : VL RX8 81 M_X8_found 9 1 := ⟨ws_of 322 (by decide +kernel) rfl, ws_of 324 (by decide +kernel) rfl, ws_priv 0 (by decide +kernel) rfl, ws_of 1 (by decide +kernel) rfl, mw_X8_found, ⟨by decide, by decide, by decide +kernel⟩, by decide, TX8, 13, rfl⟩
theorem vl_RX8_85 : VL RX8 85 M_X5_make 6 3 := ⟨ws_of 327 (by decide +kernel) rfl, ws_of 328 (by decide +kernel) rfl, ws_of 329 (by decide +kernel) rfl, ws_of 2 (by decide +kernel) rfl, mw_X5_make, ⟨by decide, by decide, by decide +kernel⟩, by decide, TX5, 3, rfl⟩
theorem vl_RX8_89 : VL RX8 89 M_X8_sound 9 1 := ⟨ws_of 331 (by decide +kernel) rfl, ws_of 333 (by decide +kernel) rfl, ws_priv 1 (by decide +kernel) rfl, ws_of 1 (by decide +kernel) rfl, mw_X8_sound, ⟨by decide, by decide, by decide +kernel⟩, by decide, TX8, 13, rfl⟩
theorem vl_RX8_92 : VL RX8 92 M_X5_isMissing 6 1 := ⟨ws_of 339 (by decide +kernel) rfl, ws_of 340 (by decide +kernel) rfl, ws_of 341 (by decide +kernel) rfl, ws_of 2 (by decide +kernel) rfl, mw_X5_isMissing, ⟨by decide, by decide, by decide +kernel⟩, by decide, TX5, 3, rfl⟩
theorem vl_RX8_95 : VL RX8 95 M_X5_hasPlaces 6 3 := ⟨ws_of 343 (by decide +kernel) rfl, ws_of 344 (by decide +kernel) rfl, ws_of 345 (by decide +kernel) rfl, ws_of 2 (by decide +kernel) rfl, mw_X5_hasPlaces, ⟨by decide, by decide, by decide +kernel⟩, by decide, TX5, 3, rfl⟩
theorem vl_RX8_99 : VL RX8 99 M_X5_put 6 3 := ⟨ws_of 347 (by decide +kernel) rfl, ws_of 348 (by decide +kernel) rfl, ws_of 349 (by decide +kernel) rfl, ws_of 2 (by decide +kernel) rfl, mw_X5_put, ⟨by decide, by decide, by decide +kernel⟩, by decide, TX5, 3, rfl⟩
theorem vl_RX8_103 : VL RX8 103 M_X5_areOfOneLane 6 2 := ⟨ws_of 355 (by decide +kernel) rfl, ws_of 356 (by decide +kernel) rfl, ws_of 357 (by decide +kernel) rfl, ws_of 2 (by decide +kernel) rfl, mw_X5_areOfOneLane, ⟨by decide, by decide, by decide +kernel⟩, by decide, TX5, 3, rfl⟩
theorem vl_RX8_107 : VL RX8 107 M_X5_carry 6 5 := ⟨ws_of 359 (by decide +kernel) rfl, ws_of 360 (by decide +kernel) rfl, ws_of 361 (by decide +kernel) rfl, ws_of 2 (by decide +kernel) rfl, mw_X5_carry, ⟨by decide, by decide, by decide +kernel⟩, by decide, TX5, 3, rfl⟩
theorem vl_RX8_111 : VL RX8 111 M_X5_lose 6 1 := ⟨ws_of 370 (by decide +kernel) rfl, ws_of 371 (by decide +kernel) rfl, ws_of 372 (by decide +kernel) rfl, ws_of 2 (by decide +kernel) rfl, mw_X5_lose, ⟨by decide, by decide, by decide +kernel⟩, by decide, TX5, 3, rfl⟩
theorem vl_RX8_119 : VL RX8 119 M_X4_reads 5 3 := ⟨ws_of 383 (by decide +kernel) rfl, ws_of 384 (by decide +kernel) rfl, ws_of 385 (by decide +kernel) rfl, ws_of 4 (by decide +kernel) rfl, mw_X4_reads, ⟨by decide, by decide, by decide +kernel⟩, by decide, TX4, 4, rfl⟩
theorem vl_RX8_133 : VL RX8 133 M_X7_takeFrom 8 1 := ⟨ws_of 432 (by decide +kernel) rfl, ws_of 433 (by decide +kernel) rfl, ws_of 434 (by decide +kernel) rfl, ws_of 5 (by decide +kernel) rfl, mw_X7_takeFrom, ⟨by decide, by decide, by decide +kernel⟩, by decide, TX7, 9, rfl⟩
theorem vl_RX8_136 : VL RX8 136 M_X3_forget 4 0 := ⟨ws_of 437 (by decide +kernel) rfl, ws_of 438 (by decide +kernel) rfl, ws_of 439 (by decide +kernel) rfl, ws_of 9 (by decide +kernel) rfl, mw_X3_forget, ⟨by decide, by decide, by decide +kernel⟩, by decide, TX3, 3, rfl⟩
theorem vl_RX8_142 : VL RX8 142 M_X8_isWithoutSheet 9 0 := ⟨ws_of 449 (by decide +kernel) rfl, ws_of 451 (by decide +kernel) rfl, ws_priv 8 (by decide +kernel) rfl, ws_of 1 (by decide +kernel) rfl, mw_X8_isWithoutSheet, ⟨by decide, by decide, by decide +kernel⟩, by decide, TX8, 13, rfl⟩
theorem vl_RX8_150 : VL RX8 150 M_X3_remember 4 1 := ⟨ws_of 454 (by decide +kernel) rfl, ws_of 455 (by decide +kernel) rfl, ws_of 456 (by decide +kernel) rfl, ws_of 9 (by decide +kernel) rfl, mw_X3_remember, ⟨by decide, by decide, by decide +kernel⟩, by decide, TX3, 3, rfl⟩
theorem vl_RX8_153 : VL RX8 153 M_X6_goRound 7 1 := ⟨ws_of 459 (by decide +kernel) rfl, ws_of 460 (by decide +kernel) rfl, ws_of 461 (by decide +kernel) rfl, ws_of 6 (by decide +kernel) rfl, mw_X6_goRound, ⟨by decide, by decide, by decide +kernel⟩, by decide, TX6, 7, rfl⟩
theorem vl_RX8_157 : VL RX8 157 M_X6_bringToRest 7 2 := ⟨ws_of 483 (by decide +kernel) rfl, ws_of 484 (by decide +kernel) rfl, ws_of 485 (by decide +kernel) rfl, ws_of 6 (by decide +kernel) rfl, mw_X6_bringToRest, ⟨by decide, by decide, by decide +kernel⟩, by decide, TX6, 7, rfl⟩
theorem vl_RX8_162 : VL RX8 162 M_X7_holds 8 1 := ⟨ws_of 518 (by decide +kernel) rfl, ws_of 423 (by decide +kernel) rfl, ws_of 424 (by decide +kernel) rfl, ws_of 5 (by decide +kernel) rfl, mw_X7_holds, ⟨by decide, by decide, by decide +kernel⟩, by decide, TX7, 9, rfl⟩
theorem vl_RX8_168 : VL RX8 168 M_X7_mayBeNumber 8 2 := ⟨ws_of 519 (by decide +kernel) rfl, ws_of 419 (by decide +kernel) rfl, ws_of 420 (by decide +kernel) rfl, ws_of 5 (by decide +kernel) rfl, mw_X7_mayBeNumber, ⟨by decide, by decide, by decide +kernel⟩, by decide, TX7, 9, rfl⟩
theorem vl_RX8_174 : VL RX8 174 M_X8_changeWidth 9 1 := ⟨ws_of 524 (by decide +kernel) rfl, ws_of 526 (by decide +kernel) rfl, ws_priv 14 (by decide +kernel) rfl, ws_of 1 (by decide +kernel) rfl, mw_X8_changeWidth, ⟨by decide, by decide, by decide +kernel⟩, by decide, TX8, 13, rfl⟩
theorem vl_RX8_177 : VL RX8 177 M_X8_changeLines 9 1 := ⟨ws_of 528 (by decide +kernel) rfl, ws_of 530 (by decide +kernel) rfl, ws_priv 15 (by decide +kernel) rfl, ws_of 1 (by decide +kernel) rfl, mw_X8_changeLines, ⟨by decide, by decide, by decide +kernel⟩, by decide, TX8, 13, rfl⟩
theorem vl_RX8_180 : VL RX8 180 M_X8_changeFirst 9 1 := ⟨ws_of 532 (by decide +kernel) rfl, ws_of 534 (by decide +kernel) rfl, ws_priv 16 (by decide +kernel) rfl, ws_of 1 (by decide +kernel) rfl, mw_X8_changeFirst, ⟨by decide, by decide, by decide +kernel⟩, by decide, TX8, 13, rfl⟩
theorem vl_RX8_183 : VL RX8 183 M_X7_frozenBits 8 0 := ⟨ws_of 540 (by decide +kernel) rfl, ws_of 541 (by decide +kernel) rfl, ws_of 542 (by decide +kernel) rfl, ws_of 5 (by decide +kernel) rfl, mw_X7_frozenBits, ⟨by decide, by decide, by decide +kernel⟩, by decide, TX7, 9, rfl⟩
theorem sl_RX8_187 : SL RX8 187 M_J6_bitCount_0f7a4 1 := ⟨ws_of 544 (by decide +kernel) rfl, ws_of 545 (by decide +kernel) rfl, ws_of 15 (by decide +kernel) rfl, mw_J6_bitCount_0f7a4, ⟨by decide, by decide, by decide +kernel⟩⟩
theorem vl_RX8_192 : VL RX8 192 M_X7_beginAnew 8 0 := ⟨ws_of 550 (by decide +kernel) rfl, ws_of 427 (by decide +kernel) rfl, ws_of 428 (by decide +kernel) rfl, ws_of 5 (by decide +kernel) rfl, mw_X7_beginAnew, ⟨by decide, by decide, by decide +kernel⟩, by decide, TX7, 9, rfl⟩
theorem vl_RX8_198 : VL RX8 198 M_X3_bringBack 4 1 := ⟨ws_of 555 (by decide +kernel) rfl, ws_of 556 (by decide +kernel) rfl, ws_of 557 (by decide +kernel) rfl, ws_of 9 (by decide +kernel) rfl, mw_X3_bringBack, ⟨by decide, by decide, by decide +kernel⟩, by decide, TX3, 3, rfl⟩
theorem vl_RX8_207 : VL RX8 207 M_X7_wideBy 8 2 := ⟨ws_of 563 (by decide +kernel) rfl, ws_of 468 (by decide +kernel) rfl, ws_of 469 (by decide +kernel) rfl, ws_of 5 (by decide +kernel) rfl, mw_X7_wideBy, ⟨by decide, by decide, by decide +kernel⟩, by decide, TX7, 9, rfl⟩
theorem vl_RX8_211 : VL RX8 211 M_X6_outlined 7 1 := ⟨ws_of 564 (by decide +kernel) rfl, ws_of 565 (by decide +kernel) rfl, ws_of 566 (by decide +kernel) rfl, ws_of 6 (by decide +kernel) rfl, mw_X6_outlined, ⟨by decide, by decide, by decide +kernel⟩, by decide, TX6, 7, rfl⟩
theorem vl_RX8_226 : VL RX8 226 M_X7_isReference 8 1 := ⟨ws_of 572 (by decide +kernel) rfl, ws_of 573 (by decide +kernel) rfl, ws_of 574 (by decide +kernel) rfl, ws_of 5 (by decide +kernel) rfl, mw_X7_isReference, ⟨by decide, by decide, by decide +kernel⟩, by decide, TX7, 9, rfl⟩
theorem vl_RX8_229 : VL RX8 229 M_X7_signOf 8 2 := ⟨ws_of 576 (by decide +kernel) rfl, ws_of 577 (by decide +kernel) rfl, ws_of 578 (by decide +kernel) rfl, ws_of 5 (by decide +kernel) rfl, mw_X7_signOf, ⟨by decide, by decide, by decide +kernel⟩, by decide, TX7, 9, rfl⟩
theorem vl_RX8_233 : VL RX8 233 M_X1_guessBehind 2 2 := ⟨ws_of 761 (by decide +kernel) rfl, ws_of 762 (by decide +kernel) rfl, ws_of 763 (by decide +kernel) rfl, ws_of 8 (by decide +kernel) rfl, mw_X1_guessBehind, ⟨by decide, by decide, by decide +kernel⟩, by decide, TX1, 9, rfl⟩
theorem vl_RX8_236 : VL RX8 236 M_X1_lying 2 0 := ⟨ws_of 771 (by decide +kernel) rfl, ws_of 772 (by decide +kernel) rfl, ws_of 773 (by decide +kernel) rfl, ws_of 8 (by decide +kernel) rfl, mw_X1_lying, ⟨by decide, by decide, by decide +kernel⟩, by decide, TX1, 9, rfl⟩
theorem vl_RX8_245 : VL RX8 245 M_X7_lastGuess 8 0 := ⟨ws_of 782 (by decide +kernel) rfl, ws_of 783 (by decide +kernel) rfl, ws_of 784 (by decide +kernel) rfl, ws_of 5 (by decide +kernel) rfl, mw_X7_lastGuess, ⟨by decide, by decide, by decide +kernel⟩, by decide, TX7, 9, rfl⟩
theorem vl_RX8_252 : VL RX8 252 M_X1_movedBy 2 1 := ⟨ws_of 794 (by decide +kernel) rfl, ws_of 795 (by decide +kernel) rfl, ws_of 796 (by decide +kernel) rfl, ws_of 8 (by decide +kernel) rfl, mw_X1_movedBy, ⟨by decide, by decide, by decide +kernel⟩, by decide, TX1, 9, rfl⟩
theorem vl_RX8_255 : VL RX8 255 M_X1_widestOf 2 1 := ⟨ws_of 807 (by decide +kernel) rfl, ws_of 808 (by decide +kernel) rfl, ws_of 809 (by decide +kernel) rfl, ws_of 8 (by decide +kernel) rfl, mw_X1_widestOf, ⟨by decide, by decide, by decide +kernel⟩, by decide, TX1, 9, rfl⟩
theorem vl_RX8_258 : VL RX8 258 M_X1_restlessFirst 2 0 := ⟨ws_of 822 (by decide +kernel) rfl, ws_of 823 (by decide +kernel) rfl, ws_of 824 (by decide +kernel) rfl, ws_of 8 (by decide +kernel) rfl, mw_X1_restlessFirst, ⟨by decide, by decide, by decide +kernel⟩, by decide, TX1, 9, rfl⟩
theorem vl_RX8_265 : VL RX8 265 M_X1_expect 2 4 := ⟨ws_of 831 (by decide +kernel) rfl, ws_of 832 (by decide +kernel) rfl, ws_of 833 (by decide +kernel) rfl, ws_of 8 (by decide +kernel) rfl, mw_X1_expect, ⟨by decide, by decide, by decide +kernel⟩, by decide, TX1, 9, rfl⟩
theorem vl_RX8_269 : VL RX8 269 M_X1_kindsAsExpected 2 0 := ⟨ws_of 835 (by decide +kernel) rfl, ws_of 836 (by decide +kernel) rfl, ws_of 837 (by decide +kernel) rfl, ws_of 8 (by decide +kernel) rfl, mw_X1_kindsAsExpected, ⟨by decide, by decide, by decide +kernel⟩, by decide, TX1, 9, rfl⟩
theorem vl_RX8_272 : VL RX8 272 M_X1_numbersAsExpected 2 0 := ⟨ws_of 844 (by decide +kernel) rfl, ws_of 845 (by decide +kernel) rfl, ws_of 846 (by decide +kernel) rfl, ws_of 8 (by decide +kernel) rfl, mw_X1_numbersAsExpected, ⟨by decide, by decide, by decide +kernel⟩, by decide, TX1, 9, rfl⟩
theorem vl_RX8_275 : VL RX8 275 M_X1_firstsAsExpected 2 1 := ⟨ws_of 848 (by decide +kernel) rfl, ws_of 849 (by decide +kernel) rfl, ws_of 850 (by decide +kernel) rfl, ws_of 8 (by decide +kernel) rfl, mw_X1_firstsAsExpected, ⟨by decide, by decide, by decide +kernel⟩, by decide, TX1, 9, rfl⟩
theorem vl_RX8_283 : VL RX8 283 M_X1_weightOfRest 2 1 := ⟨ws_of 858 (by decide +kernel) rfl, ws_of 859 (by decide +kernel) rfl, ws_of 860 (by decide +kernel) rfl, ws_of 8 (by decide +kernel) rfl, mw_X1_weightOfRest, ⟨by decide, by decide, by decide +kernel⟩, by decide, TX1, 9, rfl⟩
theorem vl_RX8_287 : VL RX8 287 M_X1_weightOfAll 2 0 := ⟨ws_of 873 (by decide +kernel) rfl, ws_of 874 (by decide +kernel) rfl, ws_of 875 (by decide +kernel) rfl, ws_of 8 (by decide +kernel) rfl, mw_X1_weightOfAll, ⟨by decide, by decide, by decide +kernel⟩, by decide, TX1, 9, rfl⟩
theorem sl_RX8_291 : SL RX8 291 M_X8_greatestCommon 2 := ⟨ws_of 878 (by decide +kernel) rfl, ws_of 879 (by decide +kernel) rfl, ws_of 1 (by decide +kernel) rfl, mw_X8_greatestCommon, ⟨by decide, by decide, by decide +kernel⟩⟩
theorem vl_RX8_296 : VL RX8 296 M_X1_editsThatChange 2 2 := ⟨ws_of 886 (by decide +kernel) rfl, ws_of 887 (by decide +kernel) rfl, ws_of 888 (by decide +kernel) rfl, ws_of 8 (by decide +kernel) rfl, mw_X1_editsThatChange, ⟨by decide, by decide, by decide +kernel⟩, by decide, TX1, 9, rfl⟩
theorem vl_RX8_299 : VL RX8 299 M_X7_isOfKind 8 2 := ⟨ws_of 909 (by decide +kernel) rfl, ws_of 910 (by decide +kernel) rfl, ws_of 911 (by decide +kernel) rfl, ws_of 5 (by decide +kernel) rfl, mw_X7_isOfKind, ⟨by decide, by decide, by decide +kernel⟩, by decide, TX7, 9, rfl⟩
theorem vl_RX8_302 : VL RX8 302 M_X0_clear 1 0 := ⟨ws_of 918 (by decide +kernel) rfl, ws_of 919 (by decide +kernel) rfl, ws_of 920 (by decide +kernel) rfl, ws_of 10 (by decide +kernel) rfl, mw_X0_clear, ⟨by decide, by decide, by decide +kernel⟩, by decide, TX0, 3, rfl⟩
theorem vl_RX8_305 : VL RX8 305 M_X0_sizeOfReference 1 1 := ⟨ws_of 922 (by decide +kernel) rfl, ws_of 923 (by decide +kernel) rfl, ws_of 924 (by decide +kernel) rfl, ws_of 10 (by decide +kernel) rfl, mw_X0_sizeOfReference, ⟨by decide, by decide, by decide +kernel⟩, by decide, TX0, 3, rfl⟩
theorem vl_RX8_308 : VL RX8 308 M_X0_markOfReference 1 1 := ⟨ws_of 943 (by decide +kernel) rfl, ws_of 936 (by decide +kernel) rfl, ws_of 937 (by decide +kernel) rfl, ws_of 10 (by decide +kernel) rfl, mw_X0_markOfReference, ⟨by decide, by decide, by decide +kernel⟩, by decide, TX0, 3, rfl⟩
theorem vl_RX8_311 : VL RX8 311 M_X0_sizeOfWord 1 1 := ⟨ws_of 944 (by decide +kernel) rfl, ws_of 945 (by decide +kernel) rfl, ws_of 946 (by decide +kernel) rfl, ws_of 10 (by decide +kernel) rfl, mw_X0_sizeOfWord, ⟨by decide, by decide, by decide +kernel⟩, by decide, TX0, 3, rfl⟩
theorem vl_RX8_314 : VL RX8 314 M_X0_markOfWord 1 1 := ⟨ws_of 948 (by decide +kernel) rfl, ws_of 949 (by decide +kernel) rfl, ws_of 950 (by decide +kernel) rfl, ws_of 10 (by decide +kernel) rfl, mw_X0_markOfWord, ⟨by decide, by decide, by decide +kernel⟩, by decide, TX0, 3, rfl⟩
theorem vl_RX8_324 : VL RX8 324 M_X5_present 6 0 := ⟨ws_of 962 (by decide +kernel) rfl, ws_of 963 (by decide +kernel) rfl, ws_of 964 (by decide +kernel) rfl, ws_of 2 (by decide +kernel) rfl, mw_X5_present, ⟨by decide, by decide, by decide +kernel⟩, by decide, TX5, 3, rfl⟩
theorem sl_RX9_62 : SL RX9 62 M_X9_in 3 := ⟨ws_of 1071 (by decide +kernel) rfl, ws_of 1072 (by decide +kernel) rfl, ws_of 11 (by decide +kernel) rfl, mw_X9_in, ⟨by decide, by decide, by decide +kernel⟩⟩
theorem sl_RX9_66 : SL RX9 66 M_X9_isRow 1 := ⟨ws_of 1068 (by decide +kernel) rfl, ws_of 1069 (by decide +kernel) rfl, ws_of 11 (by decide +kernel) rfl, mw_X9_isRow, ⟨by decide, by decide, by decide +kernel⟩⟩
theorem vl_RX9_71 : VL RX9 71 M_X9_found 10 1 := ⟨ws_of 1075 (by decide +kernel) rfl, ws_of 1077 (by decide +kernel) rfl, ws_priv 24 (by decide +kernel) rfl, ws_of 11 (by decide +kernel) rfl, mw_X9_found, ⟨by decide, by decide, by decide +kernel⟩, by decide, TX9, 28, rfl⟩
theorem vl_RX9_75 : VL RX9 75 M_X9_well 10 1 := ⟨ws_of 1080 (by decide +kernel) rfl, ws_of 1082 (by decide +kernel) rfl, ws_priv 25 (by decide +kernel) rfl, ws_of 11 (by decide +kernel) rfl, mw_X9_well, ⟨by decide, by decide, by decide +kernel⟩, by decide, TX9, 28, rfl⟩
theorem vl_RX9_78 : VL RX9 78 M_X9_isMissing 10 1 := ⟨ws_of 1088 (by decide +kernel) rfl, ws_of 1090 (by decide +kernel) rfl, ws_priv 26 (by decide +kernel) rfl, ws_of 11 (by decide +kernel) rfl, mw_X9_isMissing, ⟨by decide, by decide, by decide +kernel⟩, by decide, TX9, 28, rfl⟩
theorem sl_RX9_81 : SL RX9 81 M_X9_lowest 2 := ⟨ws_of 1092 (by decide +kernel) rfl, ws_of 1093 (by decide +kernel) rfl, ws_of 11 (by decide +kernel) rfl, mw_X9_lowest, ⟨by decide, by decide, by decide +kernel⟩⟩
theorem vl_RX9_85 : VL RX9 85 M_X9_isPart 10 3 := ⟨ws_of 1099 (by decide +kernel) rfl, ws_of 1101 (by decide +kernel) rfl, ws_priv 27 (by decide +kernel) rfl, ws_of 11 (by decide +kernel) rfl, mw_X9_isPart, ⟨by decide, by decide, by decide +kernel⟩, by decide, TX9, 28, rfl⟩
theorem vl_RX9_98 : VL RX9 98 M_X9_byteAt 10 1 := ⟨ws_of 1120 (by decide +kernel) rfl, ws_of 1122 (by decide +kernel) rfl, ws_priv 29 (by decide +kernel) rfl, ws_of 11 (by decide +kernel) rfl, mw_X9_byteAt, ⟨by decide, by decide, by decide +kernel⟩, by decide, TX9, 28, rfl⟩
theorem vl_RX9_110 : VL RX9 110 M_X9_isWell 10 0 := ⟨ws_of 1128 (by decide +kernel) rfl, ws_of 1130 (by decide +kernel) rfl, ws_priv 31 (by decide +kernel) rfl, ws_of 11 (by decide +kernel) rfl, mw_X9_isWell, ⟨by decide, by decide, by decide +kernel⟩, by decide, TX9, 28, rfl⟩
theorem vl_RX9_117 : VL RX9 117 M_X9_advances 10 0 := ⟨ws_of 1116 (by decide +kernel) rfl, ws_of 1118 (by decide +kernel) rfl, ws_priv 28 (by decide +kernel) rfl, ws_of 11 (by decide +kernel) rfl, mw_X9_advances, ⟨by decide, by decide, by decide +kernel⟩, by decide, TX9, 28, rfl⟩
theorem vl_RX9_120 : VL RX9 120 M_X9_takes 10 2 := ⟨ws_of 1124 (by decide +kernel) rfl, ws_of 1126 (by decide +kernel) rfl, ws_priv 30 (by decide +kernel) rfl, ws_of 11 (by decide +kernel) rfl, mw_X9_takes, ⟨by decide, by decide, by decide +kernel⟩, by decide, TX9, 28, rfl⟩
theorem vl_RX9_124 : VL RX9 124 M_X9_figure 10 2 := ⟨ws_of 1132 (by decide +kernel) rfl, ws_of 1134 (by decide +kernel) rfl, ws_priv 32 (by decide +kernel) rfl, ws_of 11 (by decide +kernel) rfl, mw_X9_figure, ⟨by decide, by decide, by decide +kernel⟩, by decide, TX9, 28, rfl⟩
theorem sl_RX9_127 : SL RX9 127 M_X9_kindOf 1 := ⟨ws_of 1140 (by decide +kernel) rfl, ws_of 1141 (by decide +kernel) rfl, ws_of 11 (by decide +kernel) rfl, mw_X9_kindOf, ⟨by decide, by decide, by decide +kernel⟩⟩
theorem vl_RX9_130 : VL RX9 130 M_X9_follows 10 2 := ⟨ws_of 1136 (by decide +kernel) rfl, ws_of 1138 (by decide +kernel) rfl, ws_priv 33 (by decide +kernel) rfl, ws_of 11 (by decide +kernel) rfl, mw_X9_follows, ⟨by decide, by decide, by decide +kernel⟩, by decide, TX9, 28, rfl⟩
theorem vl_RX9_133 : VL RX9 133 M_X9_readsItem 10 0 := ⟨ws_of 1143 (by decide +kernel) rfl, ws_of 1145 (by decide +kernel) rfl, ws_priv 34 (by decide +kernel) rfl, ws_of 11 (by decide +kernel) rfl, mw_X9_readsItem, ⟨by decide, by decide, by decide +kernel⟩, by decide, TX9, 28, rfl⟩
theorem vl_RX9_136 : VL RX9 136 M_X9_must 10 2 := ⟨ws_of 1147 (by decide +kernel) rfl, ws_of 1149 (by decide +kernel) rfl, ws_priv 35 (by decide +kernel) rfl, ws_of 11 (by decide +kernel) rfl, mw_X9_must, ⟨by decide, by decide, by decide +kernel⟩, by decide, TX9, 28, rfl⟩
theorem sl_RX9_140 : SL RX9 140 M_X9_areThere 1 := ⟨ws_of 1151 (by decide +kernel) rfl, ws_of 1152 (by decide +kernel) rfl, ws_of 11 (by decide +kernel) rfl, mw_X9_areThere, ⟨by decide, by decide, by decide +kernel⟩⟩
theorem sl_RX9_145 : SL RX9 145 M_X9_copies 4 := ⟨ws_of 1155 (by decide +kernel) rfl, ws_of 1156 (by decide +kernel) rfl, ws_of 11 (by decide +kernel) rfl, mw_X9_copies, ⟨by decide, by decide, by decide +kernel⟩⟩
theorem sl_RX9_152 : SL RX9 152 M_X9_romanSigns 1 := ⟨ws_of 1189 (by decide +kernel) rfl, ws_of 1190 (by decide +kernel) rfl, ws_of 11 (by decide +kernel) rfl, mw_X9_romanSigns, ⟨by decide, by decide, by decide +kernel⟩⟩
theorem sl_RX9_155 : SL RX9 155 M_X9_signs 2 := ⟨ws_of 1186 (by decide +kernel) rfl, ws_of 1187 (by decide +kernel) rfl, ws_of 11 (by decide +kernel) rfl, mw_X9_signs, ⟨by decide, by decide, by decide +kernel⟩⟩
theorem sl_RX9_158 : SL RX9 158 M_X9_wide 2 := ⟨ws_of 1183 (by decide +kernel) rfl, ws_of 1184 (by decide +kernel) rfl, ws_of 11 (by decide +kernel) rfl, mw_X9_wide, ⟨by decide, by decide, by decide +kernel⟩⟩
theorem vl_RX9_162 : VL RX9 162 M_X9_setsOut 10 3 := ⟨ws_of 1179 (by decide +kernel) rfl, ws_of 1181 (by decide +kernel) rfl, ws_priv 39 (by decide +kernel) rfl, ws_of 11 (by decide +kernel) rfl, mw_X9_setsOut, ⟨by decide, by decide, by decide +kernel⟩, by decide, TX9, 28, rfl⟩
theorem vl_RX9_175 : VL RX9 175 M_X9_keepsGuesses 10 2 := ⟨ws_of 1200 (by decide +kernel) rfl, ws_of 1202 (by decide +kernel) rfl, ws_priv 41 (by decide +kernel) rfl, ws_of 11 (by decide +kernel) rfl, mw_X9_keepsGuesses, ⟨by decide, by decide, by decide +kernel⟩, by decide, TX9, 28, rfl⟩
theorem vl_RX9_179 : VL RX9 179 M_X9_isSettled 10 1 := ⟨ws_of 1204 (by decide +kernel) rfl, ws_of 1206 (by decide +kernel) rfl, ws_priv 42 (by decide +kernel) rfl, ws_of 11 (by decide +kernel) rfl, mw_X9_isSettled, ⟨by decide, by decide, by decide +kernel⟩, by decide, TX9, 28, rfl⟩
theorem vl_RX9_182 : VL RX9 182 M_X9_rounds 10 1 := ⟨ws_of 1175 (by decide +kernel) rfl, ws_of 1177 (by decide +kernel) rfl, ws_priv 38 (by decide +kernel) rfl, ws_of 11 (by decide +kernel) rfl, mw_X9_rounds, ⟨by decide, by decide, by decide +kernel⟩, by decide, TX9, 28, rfl⟩
theorem vl_RX9_185 : VL RX9 185 M_X9_areGuesses 10 2 := ⟨ws_of 1208 (by decide +kernel) rfl, ws_of 1210 (by decide +kernel) rfl, ws_priv 43 (by decide +kernel) rfl, ws_of 11 (by decide +kernel) rfl, mw_X9_areGuesses, ⟨by decide, by decide, by decide +kernel⟩, by decide, TX9, 28, rfl⟩
theorem vl_RX9_189 : VL RX9 189 M_X9_freezes 10 3 := ⟨ws_of 1212 (by decide +kernel) rfl, ws_of 1214 (by decide +kernel) rfl, ws_priv 44 (by decide +kernel) rfl, ws_of 11 (by decide +kernel) rfl, mw_X9_freezes, ⟨by decide, by decide, by decide +kernel⟩, by decide, TX9, 28, rfl⟩
theorem vl_RX9_191 : VL RX9 191 M_X9_isSheet 10 0 := ⟨ws_of 1166 (by decide +kernel) rfl, ws_of 1168 (by decide +kernel) rfl, ws_priv 36 (by decide +kernel) rfl, ws_of 11 (by decide +kernel) rfl, mw_X9_isSheet, ⟨by decide, by decide, by decide +kernel⟩, by decide, TX9, 28, rfl⟩
theorem vl_RX9_195 : VL RX9 195 M_X9_notes 10 0 := ⟨ws_of 1171 (by decide +kernel) rfl, ws_of 1173 (by decide +kernel) rfl, ws_priv 37 (by decide +kernel) rfl, ws_of 11 (by decide +kernel) rfl, mw_X9_notes, ⟨by decide, by decide, by decide +kernel⟩, by decide, TX9, 28, rfl⟩
theorem vl_RX9_198 : VL RX9 198 M_X9_settles 10 1 := ⟨ws_of 1196 (by decide +kernel) rfl, ws_of 1198 (by decide +kernel) rfl, ws_priv 40 (by decide +kernel) rfl, ws_of 11 (by decide +kernel) rfl, mw_X9_settles, ⟨by decide, by decide, by decide +kernel⟩, by decide, TX9, 28, rfl⟩
theorem vl_RX9_202 : VL RX9 202 M_X9_isItem 10 1 := ⟨ws_of 1220 (by decide +kernel) rfl, ws_of 1222 (by decide +kernel) rfl, ws_priv 45 (by decide +kernel) rfl, ws_of 11 (by decide +kernel) rfl, mw_X9_isItem, ⟨by decide, by decide, by decide +kernel⟩, by decide, TX9, 28, rfl⟩
theorem vl_RX9_205 : VL RX9 205 M_X9_isNumber 10 2 := ⟨ws_of 1224 (by decide +kernel) rfl, ws_of 1226 (by decide +kernel) rfl, ws_priv 46 (by decide +kernel) rfl, ws_of 11 (by decide +kernel) rfl, mw_X9_isNumber, ⟨by decide, by decide, by decide +kernel⟩, by decide, TX9, 28, rfl⟩
theorem sl_RX9_209 : SL RX9 209 M_X9_frozenOnes 1 := ⟨ws_of 1236 (by decide +kernel) rfl, ws_of 1237 (by decide +kernel) rfl, ws_of 11 (by decide +kernel) rfl, mw_X9_frozenOnes, ⟨by decide, by decide, by decide +kernel⟩⟩
theorem sl_RX9_212 : SL RX9 212 M_X9_ones 1 := ⟨ws_of 1239 (by decide +kernel) rfl, ws_of 1240 (by decide +kernel) rfl, ws_of 11 (by decide +kernel) rfl, mw_X9_ones, ⟨by decide, by decide, by decide +kernel⟩⟩
theorem sl_RX9_215 : SL RX9 215 M_X9_begins 1 := ⟨ws_of 1242 (by decide +kernel) rfl, ws_of 1243 (by decide +kernel) rfl, ws_of 11 (by decide +kernel) rfl, mw_X9_begins, ⟨by decide, by decide, by decide +kernel⟩⟩
theorem sl_RX9_218 : SL RX9 218 M_X9_romanSign 5 := ⟨ws_of 1257 (by decide +kernel) rfl, ws_of 1258 (by decide +kernel) rfl, ws_of 11 (by decide +kernel) rfl, mw_X9_romanSign, ⟨by decide, by decide, by decide +kernel⟩⟩
theorem sl_RX9_222 : SL RX9 222 M_X9_last 1 := ⟨ws_of 1272 (by decide +kernel) rfl, ws_of 1273 (by decide +kernel) rfl, ws_of 11 (by decide +kernel) rfl, mw_X9_last, ⟨by decide, by decide, by decide +kernel⟩⟩
theorem vl_RX9_225 : VL RX9 225 M_X9_lastBy 10 2 := ⟨ws_of 1287 (by decide +kernel) rfl, ws_of 1289 (by decide +kernel) rfl, ws_priv 47 (by decide +kernel) rfl, ws_of 11 (by decide +kernel) rfl, mw_X9_lastBy, ⟨by decide, by decide, by decide +kernel⟩, by decide, TX9, 28, rfl⟩
theorem vl_RX9_228 : VL RX9 228 M_X9_isSeen 10 5 := ⟨ws_of 1299 (by decide +kernel) rfl, ws_of 1301 (by decide +kernel) rfl, ws_priv 48 (by decide +kernel) rfl, ws_of 11 (by decide +kernel) rfl, mw_X9_isSeen, ⟨by decide, by decide, by decide +kernel⟩, by decide, TX9, 28, rfl⟩
theorem sl_RX9_238 : SL RX9 238 M_X9_has 2 := ⟨ws_of 1310 (by decide +kernel) rfl, ws_of 1311 (by decide +kernel) rfl, ws_of 11 (by decide +kernel) rfl, mw_X9_has, ⟨by decide, by decide, by decide +kernel⟩⟩
theorem vl_RX9_248 : VL RX9 248 M_X9_kindIn 10 1 := ⟨ws_of 1333 (by decide +kernel) rfl, ws_of 1335 (by decide +kernel) rfl, ws_priv 49 (by decide +kernel) rfl, ws_of 11 (by decide +kernel) rfl, mw_X9_kindIn, ⟨by decide, by decide, by decide +kernel⟩, by decide, TX9, 28, rfl⟩
theorem vl_RX9_254 : VL RX9 254 M_X9_traces 10 1 := ⟨ws_of 1349 (by decide +kernel) rfl, ws_of 1351 (by decide +kernel) rfl, ws_priv 51 (by decide +kernel) rfl, ws_of 11 (by decide +kernel) rfl, mw_X9_traces, ⟨by decide, by decide, by decide +kernel⟩, by decide, TX9, 28, rfl⟩
theorem vl_RX9_258 : VL RX9 258 M_X9_referenceMark 10 1 := ⟨ws_of 1357 (by decide +kernel) rfl, ws_of 1359 (by decide +kernel) rfl, ws_priv 53 (by decide +kernel) rfl, ws_of 11 (by decide +kernel) rfl, mw_X9_referenceMark, ⟨by decide, by decide, by decide +kernel⟩, by decide, TX9, 28, rfl⟩
theorem vl_RX9_261 : VL RX9 261 M_X9_wordSize 10 1 := ⟨ws_of 1345 (by decide +kernel) rfl, ws_of 1347 (by decide +kernel) rfl, ws_priv 50 (by decide +kernel) rfl, ws_of 11 (by decide +kernel) rfl, mw_X9_wordSize, ⟨by decide, by decide, by decide +kernel⟩, by decide, TX9, 28, rfl⟩
theorem vl_RX9_264 : VL RX9 264 M_X9_referenceSize 10 1 := ⟨ws_of 1353 (by decide +kernel) rfl, ws_of 1355 (by decide +kernel) rfl, ws_priv 52 (by decide +kernel) rfl, ws_of 11 (by decide +kernel) rfl, mw_X9_referenceSize, ⟨by decide, by decide, by decide +kernel⟩, by decide, TX9, 28, rfl⟩
theorem vl_RX9_267 : VL RX9 267 M_X9_wordMark 10 1 := ⟨ws_of 1361 (by decide +kernel) rfl, ws_of 1363 (by decide +kernel) rfl, ws_priv 54 (by decide +kernel) rfl, ws_of 11 (by decide +kernel) rfl, mw_X9_wordMark, ⟨by decide, by decide, by decide +kernel⟩, by decide, TX9, 28, rfl⟩
theorem sl_RJ5_26 : SL RJ5 26 M_J2_newBytesFor_77867 1 := ⟨ws_of 591 (by decide +kernel) rfl, ws_of 592 (by decide +kernel) rfl, ws_of 19 (by decide +kernel) rfl, mw_J2_newBytesFor_77867, ⟨by decide, by decide, by decide +kernel⟩⟩
theorem sl_RJ5_108 : SL RJ5 108 M_J7_copyOf_9075b 2 := ⟨ws_of 638 (by decide +kernel) rfl, ws_of 639 (by decide +kernel) rfl, ws_of 3 (by decide +kernel) rfl, mw_J7_copyOf_9075b, ⟨by decide, by decide, by decide +kernel⟩⟩
theorem sl_RJ5_114 : SL RJ5 114 M_J8_newLength_cabcc 3 := ⟨ws_of 629 (by decide +kernel) rfl, ws_of 630 (by decide +kernel) rfl, ws_of 20 (by decide +kernel) rfl, mw_J8_newLength_cabcc, ⟨by decide, by decide, by decide +kernel⟩⟩
theorem sl_RJ5_125 : SL RJ5 125 M_J1_inflate_0e8fd 5 := ⟨ws_of 662 (by decide +kernel) rfl, ws_of 663 (by decide +kernel) rfl, ws_of 21 (by decide +kernel) rfl, mw_J1_inflate_0e8fd, ⟨by decide, by decide, by decide +kernel⟩⟩
theorem sl_RJ5_138 : SL RJ5 138 M_J9_min_7cf53 2 := ⟨ws_of 751 (by decide +kernel) rfl, ws_of 388 (by decide +kernel) rfl, ws_of 13 (by decide +kernel) rfl, mw_J9_min_7cf53, ⟨by decide, by decide, by decide +kernel⟩⟩
theorem sl_RJ5_144 : SL RJ5 144 M_J0_checkIndex_df160 2 := ⟨ws_of 752 (by decide +kernel) rfl, ws_of 698 (by decide +kernel) rfl, ws_of 18 (by decide +kernel) rfl, mw_J0_checkIndex_df160, ⟨by decide, by decide, by decide +kernel⟩⟩
theorem sl_RJ5_148 : SL RJ5 148 M_J2_getChar_3b067 2 := ⟨ws_of 753 (by decide +kernel) rfl, ws_of 754 (by decide +kernel) rfl, ws_of 19 (by decide +kernel) rfl, mw_J2_getChar_3b067, ⟨by decide, by decide, by decide +kernel⟩⟩
theorem sl_RJ5_191 : SL RJ5 191 M_J1_canEncode_fc78d 1 := ⟨ws_of 655 (by decide +kernel) rfl, ws_of 656 (by decide +kernel) rfl, ws_of 21 (by decide +kernel) rfl, mw_J1_canEncode_fc78d, ⟨by decide, by decide, by decide +kernel⟩⟩
theorem sl_RJ5_197 : SL RJ5 197 M_J2_putCharSB_b72d1 3 := ⟨ws_of 691 (by decide +kernel) rfl, ws_of 692 (by decide +kernel) rfl, ws_of 19 (by decide +kernel) rfl, mw_J2_putCharSB_b72d1, ⟨by decide, by decide, by decide +kernel⟩⟩
theorem sl_RJ5_245 : SL RJ5 245 M_J6_stringSize_0f7a4 1 := ⟨ws_of 710 (by decide +kernel) rfl, ws_of 711 (by decide +kernel) rfl, ws_of 15 (by decide +kernel) rfl, mw_J6_stringSize_0f7a4, ⟨by decide, by decide, by decide +kernel⟩⟩
theorem sl_RJ5_248 : SL RJ5 248 M_J6_getChars_ba4f3 3 := ⟨ws_of 713 (by decide +kernel) rfl, ws_of 714 (by decide +kernel) rfl, ws_of 15 (by decide +kernel) rfl, mw_J6_getChars_ba4f3, ⟨by decide, by decide, by decide +kernel⟩⟩
theorem sl_RJ5_251 : SL RJ5 251 M_J2_getChars_46870 4 := ⟨ws_of 720 (by decide +kernel) rfl, ws_of 721 (by decide +kernel) rfl, ws_of 19 (by decide +kernel) rfl, mw_J2_getChars_46870, ⟨by decide, by decide, by decide +kernel⟩⟩
theorem sl_RJ0_1059 : SL RJ0 1059 M_J3_checkIndex_8e157 3 := ⟨ws_of 700 (by decide +kernel) rfl, ws_of 701 (by decide +kernel) rfl, ws_of 22 (by decide +kernel) rfl, mw_J3_checkIndex_8e157, ⟨by decide, by decide, by decide +kernel⟩⟩
theorem sl_RJ0_1065 : SL RJ0 1065 M_J3_checkFromIndexSize_8c36e 4 := ⟨ws_of 679 (by decide +kernel) rfl, ws_of 680 (by decide +kernel) rfl, ws_of 22 (by decide +kernel) rfl, mw_J3_checkFromIndexSize_8c36e, ⟨by decide, by decide, by decide +kernel⟩⟩
theorem sl_RJ0_1062 : SL RJ0 1062 M_J3_checkFromToIndex_8c36e 4 := ⟨ws_of 729 (by decide +kernel) rfl, ws_of 730 (by decide +kernel) rfl, ws_of 22 (by decide +kernel) rfl, mw_J3_checkFromToIndex_8c36e, ⟨by decide, by decide, by decide +kernel⟩⟩
theorem il_RJ4_1 : IL RJ4 1 M_J5_init_d00df 1 := ⟨ws_of 585 (by decide +kernel) rfl, ws_of 586 (by decide +kernel) rfl, rfl, rfl, ws_of 16 (by decide +kernel) rfl, mw_J5_init_d00df, ⟨by decide, by decide, by decide +kernel⟩⟩
theorem sl_RJ1_240 : SL RJ1 240 M_J2_inflate_0e8fd 5 := ⟨ws_of 665 (by decide +kernel) rfl, ws_of 666 (by decide +kernel) rfl, ws_of 19 (by decide +kernel) rfl, mw_J2_inflate_0e8fd, ⟨by decide, by decide, by decide +kernel⟩⟩
theorem sl_RJ2_11 : SL RJ2 11 M_J2_newBytesLength_0f7a4 1 := ⟨ws_of 594 (by decide +kernel) rfl, ws_of 595 (by decide +kernel) rfl, ws_of 19 (by decide +kernel) rfl, mw_J2_newBytesLength_0f7a4, ⟨by decide, by decide, by decide +kernel⟩⟩
theorem sl_RJ2_48 : SL RJ2 48 M_J2_length_9d52b 1 := ⟨ws_of 671 (by decide +kernel) rfl, ws_of 672 (by decide +kernel) rfl, ws_of 19 (by decide +kernel) rfl, mw_J2_length_9d52b, ⟨by decide, by decide, by decide +kernel⟩⟩
theorem sl_RJ2_67 : SL RJ2 67 M_J2_checkIndex_2214a 2 := ⟨ws_of 694 (by decide +kernel) rfl, ws_of 695 (by decide +kernel) rfl, ws_of 19 (by decide +kernel) rfl, mw_J2_checkIndex_2214a, ⟨by decide, by decide, by decide +kernel⟩⟩
theorem sl_RJ2_111 : SL RJ2 111 M_J2_putChar_b72d1 3 := ⟨ws_of 682 (by decide +kernel) rfl, ws_of 683 (by decide +kernel) rfl, ws_of 19 (by decide +kernel) rfl, mw_J2_putChar_b72d1, ⟨by decide, by decide, by decide +kernel⟩⟩
theorem sl_RJ2_96 : SL RJ2 96 M_J2_checkBoundsBeginEnd_d044e 3 := ⟨ws_of 723 (by decide +kernel) rfl, ws_of 724 (by decide +kernel) rfl, ws_of 19 (by decide +kernel) rfl, mw_J2_checkBoundsBeginEnd_d044e, ⟨by decide, by decide, by decide +kernel⟩⟩
theorem sl_RJ2_393 : SL RJ2 393 M_J2_getChars_ba4f3 3 := ⟨ws_of 732 (by decide +kernel) rfl, ws_of 733 (by decide +kernel) rfl, ws_of 19 (by decide +kernel) rfl, mw_J2_getChars_ba4f3, ⟨by decide, by decide, by decide +kernel⟩⟩
theorem sl_RJ2_173 : SL RJ2 173 M_J2_checkBoundsOffCount_d044e 3 := ⟨ws_of 668 (by decide +kernel) rfl, ws_of 669 (by decide +kernel) rfl, ws_of 19 (by decide +kernel) rfl, mw_J2_checkBoundsOffCount_d044e, ⟨by decide, by decide, by decide +kernel⟩⟩
theorem sl_RJ2_414 : SL RJ2 414 M_J0_checkIndex_df160 2 := ⟨ws_of 697 (by decide +kernel) rfl, ws_of 698 (by decide +kernel) rfl, ws_of 18 (by decide +kernel) rfl, mw_J0_checkIndex_df160, ⟨by decide, by decide, by decide +kernel⟩⟩
theorem sl_RJ2_241 : SL RJ2 241 M_J0_checkBoundsBeginEnd_23922 3 := ⟨ws_of 726 (by decide +kernel) rfl, ws_of 727 (by decide +kernel) rfl, ws_of 18 (by decide +kernel) rfl, mw_J0_checkBoundsBeginEnd_23922, ⟨by decide, by decide, by decide +kernel⟩⟩
theorem sl_RJ2_419 : SL RJ2 419 M_J0_checkBoundsOffCount_cabcc 3 := ⟨ws_of 674 (by decide +kernel) rfl, ws_of 675 (by decide +kernel) rfl, ws_of 18 (by decide +kernel) rfl, mw_J0_checkBoundsOffCount_cabcc, ⟨by decide, by decide, by decide +kernel⟩⟩
theorem sl_RJ7_304 : SL RJ7 304 M_J9_min_7cf53 2 := ⟨ws_of 648 (by decide +kernel) rfl, ws_of 388 (by decide +kernel) rfl, ws_of 13 (by decide +kernel) rfl, mw_J9_min_7cf53, ⟨by decide, by decide, by decide +kernel⟩⟩
theorem ac_RJ7_150 : Cond.methodLink RJ7 150 arraycopyName ∈ WS ∧ Cond.native arraycopyName ∈ WS ∧ Cond.static arraycopyName ∈ WS ∧ Cond.initialized "java/lang/System" ∈ WS := ⟨ws_of 649 (by decide +kernel) rfl, ws_of 365 (by decide +kernel) rfl, ws_of 364 (by decide +kernel) rfl, ws_of 12 (by decide +kernel) rfl⟩
theorem sl_RJ8_194 : SL RJ8 194 M_J9_max_7cf53 2 := ⟨ws_of 632 (by decide +kernel) rfl, ws_of 477 (by decide +kernel) rfl, ws_of 13 (by decide +kernel) rfl, mw_J9_max_7cf53, ⟨by decide, by decide, by decide +kernel⟩⟩
theorem sl_RJ8_201 : SL RJ8 201 M_J8_hugeLength_7cf53 2 := ⟨ws_of 634 (by decide +kernel) rfl, ws_of 635 (by decide +kernel) rfl, ws_of 20 (by decide +kernel) rfl, mw_J8_hugeLength_7cf53, ⟨by decide, by decide, by decide +kernel⟩⟩
theorem il_RL_9 : IL RL 9 M_X8_init 0 := ⟨ws_of 25 (by decide +kernel) rfl, ws_of 26 (by decide +kernel) rfl, rfl, rfl, ws_of 1 (by decide +kernel) rfl, mw_X8_init, ⟨by decide, by decide, by decide +kernel⟩⟩
theorem il_RL_12 : IL RL 12 M_X9_init 0 := ⟨ws_of 973 (by decide +kernel) rfl, ws_of 974 (by decide +kernel) rfl, rfl, rfl, ws_of 11 (by decide +kernel) rfl, mw_X9_init, ⟨by decide, by decide, by decide +kernel⟩⟩
theorem vl_RL_13 : VL RL 13 M_X8_row 9 3 := ⟨ws_of 311 (by decide +kernel) rfl, ws_of 312 (by decide +kernel) rfl, ws_of 313 (by decide +kernel) rfl, ws_of 1 (by decide +kernel) rfl, mw_X8_row, ⟨by decide, by decide, by decide +kernel⟩, by decide, TX8, 13, rfl⟩
theorem vl_RL_17 : VL RL 17 M_X9_row 10 3 := ⟨ws_of 1064 (by decide +kernel) rfl, ws_of 1065 (by decide +kernel) rfl, ws_of 1066 (by decide +kernel) rfl, ws_of 11 (by decide +kernel) rfl, mw_X9_row, ⟨by decide, by decide, by decide +kernel⟩, by decide, TX9, 28, rfl⟩
theorem vl_RL_18 : VL RL 18 M_X8_set 9 3 := ⟨ws_of 335 (by decide +kernel) rfl, ws_of 336 (by decide +kernel) rfl, ws_of 337 (by decide +kernel) rfl, ws_of 1 (by decide +kernel) rfl, mw_X8_set, ⟨by decide, by decide, by decide +kernel⟩, by decide, TX8, 13, rfl⟩
theorem vl_RL_21 : VL RL 21 M_X9_set 10 3 := ⟨ws_of 1084 (by decide +kernel) rfl, ws_of 1085 (by decide +kernel) rfl, ws_of 1086 (by decide +kernel) rfl, ws_of 11 (by decide +kernel) rfl, mw_X9_set, ⟨by decide, by decide, by decide +kernel⟩, by decide, TX9, 28, rfl⟩
theorem vl_RL_22 : VL RL 22 M_X8_copy 9 5 := ⟨ws_of 351 (by decide +kernel) rfl, ws_of 352 (by decide +kernel) rfl, ws_of 353 (by decide +kernel) rfl, ws_of 1 (by decide +kernel) rfl, mw_X8_copy, ⟨by decide, by decide, by decide +kernel⟩, by decide, TX8, 13, rfl⟩
theorem vl_RL_26 : VL RL 26 M_X9_copy 10 5 := ⟨ws_of 1095 (by decide +kernel) rfl, ws_of 1096 (by decide +kernel) rfl, ws_of 1097 (by decide +kernel) rfl, ws_of 11 (by decide +kernel) rfl, mw_X9_copy, ⟨by decide, by decide, by decide +kernel⟩, by decide, TX9, 28, rfl⟩
theorem vl_RL_27 : VL RL 27 M_X8_drop 9 1 := ⟨ws_of 366 (by decide +kernel) rfl, ws_of 367 (by decide +kernel) rfl, ws_of 368 (by decide +kernel) rfl, ws_of 1 (by decide +kernel) rfl, mw_X8_drop, ⟨by decide, by decide, by decide +kernel⟩, by decide, TX8, 13, rfl⟩
theorem vl_RL_31 : VL RL 31 M_X9_drop 10 1 := ⟨ws_of 1103 (by decide +kernel) rfl, ws_of 1104 (by decide +kernel) rfl, ws_of 1105 (by decide +kernel) rfl, ws_of 11 (by decide +kernel) rfl, mw_X9_drop, ⟨by decide, by decide, by decide +kernel⟩, by decide, TX9, 28, rfl⟩
theorem vl_RL_32 : VL RL 32 M_X8_feed 9 1 := ⟨ws_of 374 (by decide +kernel) rfl, ws_of 375 (by decide +kernel) rfl, ws_of 376 (by decide +kernel) rfl, ws_of 1 (by decide +kernel) rfl, mw_X8_feed, ⟨by decide, by decide, by decide +kernel⟩, by decide, TX8, 13, rfl⟩
theorem vl_RL_35 : VL RL 35 M_X9_feed 10 1 := ⟨ws_of 1107 (by decide +kernel) rfl, ws_of 1108 (by decide +kernel) rfl, ws_of 1109 (by decide +kernel) rfl, ws_of 11 (by decide +kernel) rfl, mw_X9_feed, ⟨by decide, by decide, by decide +kernel⟩, by decide, TX9, 28, rfl⟩
theorem vl_RL_36 : VL RL 36 M_X8_sheet 9 0 := ⟨ws_of 379 (by decide +kernel) rfl, ws_of 380 (by decide +kernel) rfl, ws_of 381 (by decide +kernel) rfl, ws_of 1 (by decide +kernel) rfl, mw_X8_sheet, ⟨by decide, by decide, by decide +kernel⟩, by decide, TX8, 13, rfl⟩
theorem vl_RL_40 : VL RL 40 M_X9_sheet 10 0 := ⟨ws_of 1112 (by decide +kernel) rfl, ws_of 1113 (by decide +kernel) rfl, ws_of 1114 (by decide +kernel) rfl, ws_of 11 (by decide +kernel) rfl, mw_X9_sheet, ⟨by decide, by decide, by decide +kernel⟩, by decide, TX9, 28, rfl⟩
theorem vl_RL_41 : VL RL 41 M_X8_fault 9 0 := ⟨ws_of 441 (by decide +kernel) rfl, ws_of 442 (by decide +kernel) rfl, ws_of 443 (by decide +kernel) rfl, ws_of 1 (by decide +kernel) rfl, mw_X8_fault, ⟨by decide, by decide, by decide +kernel⟩, by decide, TX8, 13, rfl⟩
theorem vl_RL_44 : VL RL 44 M_X9_fault 10 0 := ⟨ws_of 1158 (by decide +kernel) rfl, ws_of 1159 (by decide +kernel) rfl, ws_of 1160 (by decide +kernel) rfl, ws_of 11 (by decide +kernel) rfl, mw_X9_fault, ⟨by decide, by decide, by decide +kernel⟩, by decide, TX9, 28, rfl⟩
theorem vl_RL_45 : VL RL 45 M_X8_round 9 0 := ⟨ws_of 445 (by decide +kernel) rfl, ws_of 446 (by decide +kernel) rfl, ws_of 447 (by decide +kernel) rfl, ws_of 1 (by decide +kernel) rfl, mw_X8_round, ⟨by decide, by decide, by decide +kernel⟩, by decide, TX8, 13, rfl⟩
theorem vl_RL_48 : VL RL 48 M_X9_round 10 0 := ⟨ws_of 1162 (by decide +kernel) rfl, ws_of 1163 (by decide +kernel) rfl, ws_of 1164 (by decide +kernel) rfl, ws_of 11 (by decide +kernel) rfl, mw_X9_round, ⟨by decide, by decide, by decide +kernel⟩, by decide, TX9, 28, rfl⟩
theorem vl_RL_49 : VL RL 49 M_X8_settle 9 0 := ⟨ws_of 479 (by decide +kernel) rfl, ws_of 480 (by decide +kernel) rfl, ws_of 481 (by decide +kernel) rfl, ws_of 1 (by decide +kernel) rfl, mw_X8_settle, ⟨by decide, by decide, by decide +kernel⟩, by decide, TX8, 13, rfl⟩
theorem vl_RL_52 : VL RL 52 M_X9_settle 10 0 := ⟨ws_of 1192 (by decide +kernel) rfl, ws_of 1193 (by decide +kernel) rfl, ws_of 1194 (by decide +kernel) rfl, ws_of 11 (by decide +kernel) rfl, mw_X9_settle, ⟨by decide, by decide, by decide +kernel⟩, by decide, TX9, 28, rfl⟩
theorem vl_RL_53 : VL RL 53 M_X8_number 9 2 := ⟨ws_of 514 (by decide +kernel) rfl, ws_of 515 (by decide +kernel) rfl, ws_of 516 (by decide +kernel) rfl, ws_of 1 (by decide +kernel) rfl, mw_X8_number, ⟨by decide, by decide, by decide +kernel⟩, by decide, TX8, 13, rfl⟩
theorem vl_RL_57 : VL RL 57 M_X9_number 10 2 := ⟨ws_of 1216 (by decide +kernel) rfl, ws_of 1217 (by decide +kernel) rfl, ws_of 1218 (by decide +kernel) rfl, ws_of 11 (by decide +kernel) rfl, mw_X9_number, ⟨by decide, by decide, by decide +kernel⟩, by decide, TX9, 28, rfl⟩
theorem vl_RL_58 : VL RL 58 M_X8_rule 9 2 := ⟨ws_of 520 (by decide +kernel) rfl, ws_of 521 (by decide +kernel) rfl, ws_of 522 (by decide +kernel) rfl, ws_of 1 (by decide +kernel) rfl, mw_X8_rule, ⟨by decide, by decide, by decide +kernel⟩, by decide, TX8, 13, rfl⟩
theorem vl_RL_61 : VL RL 61 M_X9_rule 10 2 := ⟨ws_of 1228 (by decide +kernel) rfl, ws_of 1229 (by decide +kernel) rfl, ws_of 1230 (by decide +kernel) rfl, ws_of 11 (by decide +kernel) rfl, mw_X9_rule, ⟨by decide, by decide, by decide +kernel⟩, by decide, TX9, 28, rfl⟩
theorem vl_RL_62 : VL RL 62 M_X8_anew 9 0 := ⟨ws_of 536 (by decide +kernel) rfl, ws_of 537 (by decide +kernel) rfl, ws_of 538 (by decide +kernel) rfl, ws_of 1 (by decide +kernel) rfl, mw_X8_anew, ⟨by decide, by decide, by decide +kernel⟩, by decide, TX8, 13, rfl⟩
theorem vl_RL_65 : VL RL 65 M_X9_anew 10 0 := ⟨ws_of 1232 (by decide +kernel) rfl, ws_of 1233 (by decide +kernel) rfl, ws_of 1234 (by decide +kernel) rfl, ws_of 11 (by decide +kernel) rfl, mw_X9_anew, ⟨by decide, by decide, by decide +kernel⟩, by decide, TX9, 28, rfl⟩
theorem vl_RL_66 : VL RL 66 M_X8_undo 9 0 := ⟨ws_of 551 (by decide +kernel) rfl, ws_of 552 (by decide +kernel) rfl, ws_of 553 (by decide +kernel) rfl, ws_of 1 (by decide +kernel) rfl, mw_X8_undo, ⟨by decide, by decide, by decide +kernel⟩, by decide, TX8, 13, rfl⟩
theorem vl_RL_69 : VL RL 69 M_X9_undo 10 0 := ⟨ws_of 1245 (by decide +kernel) rfl, ws_of 1246 (by decide +kernel) rfl, ws_of 1247 (by decide +kernel) rfl, ws_of 11 (by decide +kernel) rfl, mw_X9_undo, ⟨by decide, by decide, by decide +kernel⟩, by decide, TX9, 28, rfl⟩
theorem vl_RL_70 : VL RL 70 M_X8_item 9 2 := ⟨ws_of 559 (by decide +kernel) rfl, ws_of 560 (by decide +kernel) rfl, ws_of 561 (by decide +kernel) rfl, ws_of 1 (by decide +kernel) rfl, mw_X8_item, ⟨by decide, by decide, by decide +kernel⟩, by decide, TX8, 13, rfl⟩
theorem vl_RL_73 : VL RL 73 M_X9_item 10 2 := ⟨ws_of 1249 (by decide +kernel) rfl, ws_of 1250 (by decide +kernel) rfl, ws_of 1251 (by decide +kernel) rfl, ws_of 11 (by decide +kernel) rfl, mw_X9_item, ⟨by decide, by decide, by decide +kernel⟩, by decide, TX9, 28, rfl⟩
theorem vl_RL_74 : VL RL 74 M_X8_print 9 2 := ⟨ws_of 568 (by decide +kernel) rfl, ws_of 569 (by decide +kernel) rfl, ws_of 570 (by decide +kernel) rfl, ws_of 1 (by decide +kernel) rfl, mw_X8_print, ⟨by decide, by decide, by decide +kernel⟩, by decide, TX8, 13, rfl⟩
theorem vl_RL_77 : VL RL 77 M_X9_print 10 2 := ⟨ws_of 1253 (by decide +kernel) rfl, ws_of 1254 (by decide +kernel) rfl, ws_of 1255 (by decide +kernel) rfl, ws_of 11 (by decide +kernel) rfl, mw_X9_print, ⟨by decide, by decide, by decide +kernel⟩, by decide, TX9, 28, rfl⟩
theorem vl_RL_78 : VL RL 78 M_X8_behind 9 2 := ⟨ws_of 757 (by decide +kernel) rfl, ws_of 758 (by decide +kernel) rfl, ws_of 759 (by decide +kernel) rfl, ws_of 1 (by decide +kernel) rfl, mw_X8_behind, ⟨by decide, by decide, by decide +kernel⟩, by decide, TX8, 13, rfl⟩
theorem vl_RL_81 : VL RL 81 M_X9_behind 10 2 := ⟨ws_of 1260 (by decide +kernel) rfl, ws_of 1261 (by decide +kernel) rfl, ws_of 1262 (by decide +kernel) rfl, ws_of 11 (by decide +kernel) rfl, mw_X9_behind, ⟨by decide, by decide, by decide +kernel⟩, by decide, TX9, 28, rfl⟩
theorem vl_RL_82 : VL RL 82 M_X8_lies 9 0 := ⟨ws_of 767 (by decide +kernel) rfl, ws_of 768 (by decide +kernel) rfl, ws_of 769 (by decide +kernel) rfl, ws_of 1 (by decide +kernel) rfl, mw_X8_lies, ⟨by decide, by decide, by decide +kernel⟩, by decide, TX8, 13, rfl⟩
theorem vl_RL_85 : VL RL 85 M_X9_lies 10 0 := ⟨ws_of 1264 (by decide +kernel) rfl, ws_of 1265 (by decide +kernel) rfl, ws_of 1266 (by decide +kernel) rfl, ws_of 11 (by decide +kernel) rfl, mw_X9_lies, ⟨by decide, by decide, by decide +kernel⟩, by decide, TX9, 28, rfl⟩
theorem vl_RL_86 : VL RL 86 M_X8_settled 9 1 := ⟨ws_of 778 (by decide +kernel) rfl, ws_of 779 (by decide +kernel) rfl, ws_of 780 (by decide +kernel) rfl, ws_of 1 (by decide +kernel) rfl, mw_X8_settled, ⟨by decide, by decide, by decide +kernel⟩, by decide, TX8, 13, rfl⟩
theorem vl_RL_89 : VL RL 89 M_X9_settled 10 1 := ⟨ws_of 1268 (by decide +kernel) rfl, ws_of 1269 (by decide +kernel) rfl, ws_of 1270 (by decide +kernel) rfl, ws_of 11 (by decide +kernel) rfl, mw_X9_settled, ⟨by decide, by decide, by decide +kernel⟩, by decide, TX9, 28, rfl⟩
theorem vl_RL_90 : VL RL 90 M_X8_ends 9 1 := ⟨ws_of 786 (by decide +kernel) rfl, ws_of 787 (by decide +kernel) rfl, ws_of 788 (by decide +kernel) rfl, ws_of 1 (by decide +kernel) rfl, mw_X8_ends, ⟨by decide, by decide, by decide +kernel⟩, by decide, TX8, 13, rfl⟩
theorem vl_RL_93 : VL RL 93 M_X9_ends 10 1 := ⟨ws_of 1275 (by decide +kernel) rfl, ws_of 1276 (by decide +kernel) rfl, ws_of 1277 (by decide +kernel) rfl, ws_of 11 (by decide +kernel) rfl, mw_X9_ends, ⟨by decide, by decide, by decide +kernel⟩, by decide, TX9, 28, rfl⟩
theorem vl_RL_94 : VL RL 94 M_X8_moves 9 1 := ⟨ws_of 790 (by decide +kernel) rfl, ws_of 791 (by decide +kernel) rfl, ws_of 792 (by decide +kernel) rfl, ws_of 1 (by decide +kernel) rfl, mw_X8_moves, ⟨by decide, by decide, by decide +kernel⟩, by decide, TX8, 13, rfl⟩
theorem vl_RL_97 : VL RL 97 M_X9_moves 10 1 := ⟨ws_of 1279 (by decide +kernel) rfl, ws_of 1280 (by decide +kernel) rfl, ws_of 1281 (by decide +kernel) rfl, ws_of 11 (by decide +kernel) rfl, mw_X9_moves, ⟨by decide, by decide, by decide +kernel⟩, by decide, TX9, 28, rfl⟩
theorem vl_RL_98 : VL RL 98 M_X8_room 9 1 := ⟨ws_of 803 (by decide +kernel) rfl, ws_of 804 (by decide +kernel) rfl, ws_of 805 (by decide +kernel) rfl, ws_of 1 (by decide +kernel) rfl, mw_X8_room, ⟨by decide, by decide, by decide +kernel⟩, by decide, TX8, 13, rfl⟩
theorem vl_RL_101 : VL RL 101 M_X9_room 10 1 := ⟨ws_of 1283 (by decide +kernel) rfl, ws_of 1284 (by decide +kernel) rfl, ws_of 1285 (by decide +kernel) rfl, ws_of 11 (by decide +kernel) rfl, mw_X9_room, ⟨by decide, by decide, by decide +kernel⟩, by decide, TX9, 28, rfl⟩
theorem vl_RL_102 : VL RL 102 M_X8_restless 9 0 := ⟨ws_of 818 (by decide +kernel) rfl, ws_of 819 (by decide +kernel) rfl, ws_of 820 (by decide +kernel) rfl, ws_of 1 (by decide +kernel) rfl, mw_X8_restless, ⟨by decide, by decide, by decide +kernel⟩, by decide, TX8, 13, rfl⟩
theorem vl_RL_105 : VL RL 105 M_X9_restless 10 0 := ⟨ws_of 1291 (by decide +kernel) rfl, ws_of 1292 (by decide +kernel) rfl, ws_of 1293 (by decide +kernel) rfl, ws_of 11 (by decide +kernel) rfl, mw_X9_restless, ⟨by decide, by decide, by decide +kernel⟩, by decide, TX9, 28, rfl⟩
theorem vl_RL_106 : VL RL 106 M_X8_fits 9 5 := ⟨ws_of 827 (by decide +kernel) rfl, ws_of 828 (by decide +kernel) rfl, ws_of 829 (by decide +kernel) rfl, ws_of 1 (by decide +kernel) rfl, mw_X8_fits, ⟨by decide, by decide, by decide +kernel⟩, by decide, TX8, 13, rfl⟩
theorem vl_RL_109 : VL RL 109 M_X9_fits 10 5 := ⟨ws_of 1295 (by decide +kernel) rfl, ws_of 1296 (by decide +kernel) rfl, ws_of 1297 (by decide +kernel) rfl, ws_of 11 (by decide +kernel) rfl, mw_X9_fits, ⟨by decide, by decide, by decide +kernel⟩, by decide, TX9, 28, rfl⟩
theorem vl_RL_110 : VL RL 110 M_X8_chance 9 2 := ⟨ws_of 852 (by decide +kernel) rfl, ws_of 853 (by decide +kernel) rfl, ws_of 854 (by decide +kernel) rfl, ws_of 1 (by decide +kernel) rfl, mw_X8_chance, ⟨by decide, by decide, by decide +kernel⟩, by decide, TX8, 13, rfl⟩
theorem vl_RL_114 : VL RL 114 M_X9_chance 10 2 := ⟨ws_of 1303 (by decide +kernel) rfl, ws_of 1304 (by decide +kernel) rfl, ws_of 1305 (by decide +kernel) rfl, ws_of 11 (by decide +kernel) rfl, mw_X9_chance, ⟨by decide, by decide, by decide +kernel⟩, by decide, TX9, 28, rfl⟩
theorem vl_RL_115 : VL RL 115 M_X8_drawn 9 3 := ⟨ws_of 881 (by decide +kernel) rfl, ws_of 882 (by decide +kernel) rfl, ws_of 883 (by decide +kernel) rfl, ws_of 1 (by decide +kernel) rfl, mw_X8_drawn, ⟨by decide, by decide, by decide +kernel⟩, by decide, TX8, 13, rfl⟩
theorem vl_RL_118 : VL RL 118 M_X9_drawn 10 3 := ⟨ws_of 1313 (by decide +kernel) rfl, ws_of 1314 (by decide +kernel) rfl, ws_of 1315 (by decide +kernel) rfl, ws_of 11 (by decide +kernel) rfl, mw_X9_drawn, ⟨by decide, by decide, by decide +kernel⟩, by decide, TX9, 28, rfl⟩
theorem vl_RL_119 : VL RL 119 M_X8_image 9 1 := ⟨ws_of 893 (by decide +kernel) rfl, ws_of 894 (by decide +kernel) rfl, ws_of 895 (by decide +kernel) rfl, ws_of 1 (by decide +kernel) rfl, mw_X8_image, ⟨by decide, by decide, by decide +kernel⟩, by decide, TX8, 13, rfl⟩
theorem vl_RL_122 : VL RL 122 M_X9_image 10 1 := ⟨ws_of 1321 (by decide +kernel) rfl, ws_of 1322 (by decide +kernel) rfl, ws_of 1323 (by decide +kernel) rfl, ws_of 11 (by decide +kernel) rfl, mw_X9_image, ⟨by decide, by decide, by decide +kernel⟩, by decide, TX9, 28, rfl⟩
theorem vl_RL_123 : VL RL 123 M_X8_restore 9 1 := ⟨ws_of 897 (by decide +kernel) rfl, ws_of 898 (by decide +kernel) rfl, ws_of 899 (by decide +kernel) rfl, ws_of 1 (by decide +kernel) rfl, mw_X8_restore, ⟨by decide, by decide, by decide +kernel⟩, by decide, TX8, 13, rfl⟩
theorem vl_RL_126 : VL RL 126 M_X9_restore 10 1 := ⟨ws_of 1325 (by decide +kernel) rfl, ws_of 1326 (by decide +kernel) rfl, ws_of 1327 (by decide +kernel) rfl, ws_of 11 (by decide +kernel) rfl, mw_X9_restore, ⟨by decide, by decide, by decide +kernel⟩, by decide, TX9, 28, rfl⟩
theorem vl_RL_127 : VL RL 127 M_X8_kind 9 1 := ⟨ws_of 901 (by decide +kernel) rfl, ws_of 902 (by decide +kernel) rfl, ws_of 903 (by decide +kernel) rfl, ws_of 1 (by decide +kernel) rfl, mw_X8_kind, ⟨by decide, by decide, by decide +kernel⟩, by decide, TX8, 13, rfl⟩
theorem vl_RL_130 : VL RL 130 M_X9_kind 10 1 := ⟨ws_of 1329 (by decide +kernel) rfl, ws_of 1330 (by decide +kernel) rfl, ws_of 1331 (by decide +kernel) rfl, ws_of 11 (by decide +kernel) rfl, mw_X9_kind, ⟨by decide, by decide, by decide +kernel⟩, by decide, TX9, 28, rfl⟩
theorem vl_RL_131 : VL RL 131 M_X8_as 9 2 := ⟨ws_of 905 (by decide +kernel) rfl, ws_of 906 (by decide +kernel) rfl, ws_of 907 (by decide +kernel) rfl, ws_of 1 (by decide +kernel) rfl, mw_X8_as, ⟨by decide, by decide, by decide +kernel⟩, by decide, TX8, 13, rfl⟩
theorem vl_RL_134 : VL RL 134 M_X9_as 10 2 := ⟨ws_of 1337 (by decide +kernel) rfl, ws_of 1338 (by decide +kernel) rfl, ws_of 1339 (by decide +kernel) rfl, ws_of 11 (by decide +kernel) rfl, mw_X9_as, ⟨by decide, by decide, by decide +kernel⟩, by decide, TX9, 28, rfl⟩
theorem vl_RL_135 : VL RL 135 M_X8_ask 9 2 := ⟨ws_of 914 (by decide +kernel) rfl, ws_of 915 (by decide +kernel) rfl, ws_of 916 (by decide +kernel) rfl, ws_of 1 (by decide +kernel) rfl, mw_X8_ask, ⟨by decide, by decide, by decide +kernel⟩, by decide, TX8, 13, rfl⟩
theorem vl_RL_138 : VL RL 138 M_X9_ask 10 2 := ⟨ws_of 1341 (by decide +kernel) rfl, ws_of 1342 (by decide +kernel) rfl, ws_of 1343 (by decide +kernel) rfl, ws_of 11 (by decide +kernel) rfl, mw_X9_ask, ⟨by decide, by decide, by decide +kernel⟩, by decide, TX9, 28, rfl⟩
theorem vl_RL_139 : VL RL 139 M_X8_trace 9 1 := ⟨ws_of 953 (by decide +kernel) rfl, ws_of 954 (by decide +kernel) rfl, ws_of 955 (by decide +kernel) rfl, ws_of 1 (by decide +kernel) rfl, mw_X8_trace, ⟨by decide, by decide, by decide +kernel⟩, by decide, TX8, 13, rfl⟩
theorem vl_RL_142 : VL RL 142 M_X9_trace 10 1 := ⟨ws_of 1365 (by decide +kernel) rfl, ws_of 1366 (by decide +kernel) rfl, ws_of 1367 (by decide +kernel) rfl, ws_of 11 (by decide +kernel) rfl, mw_X9_trace, ⟨by decide, by decide, by decide +kernel⟩, by decide, TX9, 28, rfl⟩
theorem vl_RL_143 : VL RL 143 M_X8_count 9 1 := ⟨ws_of 958 (by decide +kernel) rfl, ws_of 959 (by decide +kernel) rfl, ws_of 960 (by decide +kernel) rfl, ws_of 1 (by decide +kernel) rfl, mw_X8_count, ⟨by decide, by decide, by decide +kernel⟩, by decide, TX8, 13, rfl⟩
theorem vl_RL_146 : VL RL 146 M_X9_count 10 1 := ⟨ws_of 1369 (by decide +kernel) rfl, ws_of 1370 (by decide +kernel) rfl, ws_of 1371 (by decide +kernel) rfl, ws_of 11 (by decide +kernel) rfl, mw_X9_count, ⟨by decide, by decide, by decide +kernel⟩, by decide, TX9, 28, rfl⟩
theorem vl_RL_147 : VL RL 147 M_X8_status 9 0 := ⟨ws_of 967 (by decide +kernel) rfl, ws_of 968 (by decide +kernel) rfl, ws_of 969 (by decide +kernel) rfl, ws_of 1 (by decide +kernel) rfl, mw_X8_status, ⟨by decide, by decide, by decide +kernel⟩, by decide, TX8, 13, rfl⟩
theorem vl_RL_150 : VL RL 150 M_X9_status 10 0 := ⟨ws_of 1373 (by decide +kernel) rfl, ws_of 1374 (by decide +kernel) rfl, ws_of 1375 (by decide +kernel) rfl, ws_of 11 (by decide +kernel) rfl, mw_X9_status, ⟨by decide, by decide, by decide +kernel⟩, by decide, TX9, 28, rfl⟩
