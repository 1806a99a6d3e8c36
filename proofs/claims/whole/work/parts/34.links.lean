theorem pm_arr : Cond.arrayClass .int ∈ pm_G := pm_inG 89 (by decide +kernel) rfl
theorem oi_X11_1 : pm_OI RX11 1 := ⟨pm_inG 66 (by decide +kernel) rfl, pm_inG 67 (by decide +kernel) rfl, pm_inG 68 (by decide +kernel) rfl⟩
theorem nw_X11_7 : pm_NW RX11 7 (RX9, TX9, 2) := ⟨cok_X9, pm_inG 69 (by decide +kernel) rfl, pm_inG 70 (by decide +kernel) rfl, pm_inG 45 (by decide +kernel) rfl⟩
theorem bk_X9 : pm_blank (RX9, TX9, 2) [some none, some none] := ⟨rfl, by decide +kernel⟩
theorem mb_X9_init : pm_MB mX9_init 0 := ⟨pm_inG 45 (by decide +kernel) rfl, pm_inG 73 (by decide +kernel) rfl, by decide +kernel, by decide +kernel, by decide +kernel⟩
theorem mi_X11_9 : pm_MI RX11 9 mX9_init 0 := ⟨mb_X9_init, pm_inG 71 (by decide +kernel) rfl, pm_inG 72 (by decide +kernel) rfl, rfl, rfl⟩
theorem oi_X9_3 : pm_OI RX9 3 := ⟨pm_inG 74 (by decide +kernel) rfl, pm_inG 67 (by decide +kernel) rfl, pm_inG 68 (by decide +kernel) rfl⟩
theorem ng_X9_9 : Cond.classLink RX9 9 "[[I" ∈ pm_G := pm_inG 75 (by decide +kernel) rfl
theorem lp_X9_11 : pm_LP RX9 11 9 0 true (.array (.array .int)) := ⟨(RX9, TX9, 2), rfl, cok_X9, by decide, pm_inG 82 (by decide +kernel) rfl, rfl, by decide +kernel, fun _ => rfl⟩
theorem lp_X9_16 : pm_LP RX9 16 9 1 true (.array (.array .int)) := ⟨(RX9, TX9, 2), rfl, cok_X9, by decide, pm_inG 83 (by decide +kernel) rfl, rfl, by decide +kernel, fun _ => rfl⟩
theorem mb_J7_fill_53178 : pm_MB mJ7_fill_53178 2 := ⟨pm_inG 46 (by decide +kernel) rfl, pm_inG 79 (by decide +kernel) rfl, by decide +kernel, by decide +kernel, by decide +kernel⟩
theorem mk_X9_19 : pm_MS RX9 19 mJ7_fill_53178 2 := ⟨mb_J7_fill_53178, pm_inG 77 (by decide +kernel) rfl, pm_inG 78 (by decide +kernel) rfl⟩
theorem lp_X11_10 : pm_LP RX11 10 11 0 true (.object "PaperMill$Weather") := ⟨(RX11, TX11, 11), rfl, cok_X11, by decide, pm_inG 422 (by decide +kernel) rfl, rfl, by decide +kernel, fun _ => rfl⟩
theorem nw_X11_16 : pm_NW RX11 16 (RX7, TX7, 4) := ⟨cok_X7, pm_inG 90 (by decide +kernel) rfl, pm_inG 91 (by decide +kernel) rfl, pm_inG 47 (by decide +kernel) rfl⟩
theorem bk_X7 : pm_blank (RX7, TX7, 4) [some none, some none, some none, some none] := ⟨rfl, by decide +kernel⟩
theorem mb_X7_init : pm_MB mX7_init 0 := ⟨pm_inG 47 (by decide +kernel) rfl, pm_inG 94 (by decide +kernel) rfl, by decide +kernel, by decide +kernel, by decide +kernel⟩
theorem mi_X11_18 : pm_MI RX11 18 mX7_init 0 := ⟨mb_X7_init, pm_inG 92 (by decide +kernel) rfl, pm_inG 93 (by decide +kernel) rfl, rfl, rfl⟩
theorem oi_X7_3 : pm_OI RX7 3 := ⟨pm_inG 95 (by decide +kernel) rfl, pm_inG 67 (by decide +kernel) rfl, pm_inG 68 (by decide +kernel) rfl⟩
theorem lp_X7_9 : pm_LP RX7 9 7 0 true (.array .int) := ⟨(RX7, TX7, 4), rfl, cok_X7, by decide, pm_inG 97 (by decide +kernel) rfl, rfl, by decide +kernel, fun _ => rfl⟩
theorem lp_X7_15 : pm_LP RX7 15 7 1 true (.array .int) := ⟨(RX7, TX7, 4), rfl, cok_X7, by decide, pm_inG 100 (by decide +kernel) rfl, rfl, by decide +kernel, fun _ => rfl⟩
theorem lp_X7_18 : pm_LP RX7 18 7 2 true (.array .int) := ⟨(RX7, TX7, 4), rfl, cok_X7, by decide, pm_inG 103 (by decide +kernel) rfl, rfl, by decide +kernel, fun _ => rfl⟩
theorem lp_X7_21 : pm_LP RX7 21 7 3 true (.array .int) := ⟨(RX7, TX7, 4), rfl, cok_X7, by decide, pm_inG 105 (by decide +kernel) rfl, rfl, by decide +kernel, fun _ => rfl⟩
theorem lk_X7_9 : pm_L RX7 9 7 0 := ⟨(RX7, TX7, 4), rfl, cok_X7, by decide, pm_inG 97 (by decide +kernel) rfl⟩
theorem mk_X7_24 : pm_MS RX7 24 mJ7_fill_53178 2 := ⟨mb_J7_fill_53178, pm_inG 96 (by decide +kernel) rfl, pm_inG 78 (by decide +kernel) rfl⟩
theorem lk_X7_15 : pm_L RX7 15 7 1 := ⟨(RX7, TX7, 4), rfl, cok_X7, by decide, pm_inG 100 (by decide +kernel) rfl⟩
theorem lk_X7_18 : pm_L RX7 18 7 2 := ⟨(RX7, TX7, 4), rfl, cok_X7, by decide, pm_inG 103 (by decide +kernel) rfl⟩
theorem lp_X11_19 : pm_LP RX11 19 11 1 true (.object "PaperMill$Rags") := ⟨(RX11, TX11, 11), rfl, cok_X11, by decide, pm_inG 423 (by decide +kernel) rfl, rfl, by decide +kernel, fun _ => rfl⟩
theorem nw_X11_23 : pm_NW RX11 23 (RX10, TX10, 8) := ⟨cok_X10, pm_inG 116 (by decide +kernel) rfl, pm_inG 117 (by decide +kernel) rfl, pm_inG 48 (by decide +kernel) rfl⟩
theorem bk_X10 : pm_blank (RX10, TX10, 8) [some none, some none, some none, some none, some none, some none, some none, none] := ⟨rfl, by decide +kernel⟩
theorem mb_X10_init : pm_MB mX10_init 2 := ⟨pm_inG 48 (by decide +kernel) rfl, pm_inG 120 (by decide +kernel) rfl, by decide +kernel, by decide +kernel, by decide +kernel⟩
theorem mi_X11_25 : pm_MI RX11 25 mX10_init 2 := ⟨mb_X10_init, pm_inG 118 (by decide +kernel) rfl, pm_inG 119 (by decide +kernel) rfl, rfl, rfl⟩
theorem oi_X10_3 : pm_OI RX10 3 := ⟨pm_inG 121 (by decide +kernel) rfl, pm_inG 67 (by decide +kernel) rfl, pm_inG 68 (by decide +kernel) rfl⟩
theorem lp_X10_9 : pm_LP RX10 9 10 1 true (.array .int) := ⟨(RX10, TX10, 8), rfl, cok_X10, by decide, pm_inG 318 (by decide +kernel) rfl, rfl, by decide +kernel, fun _ => rfl⟩
theorem nw_X10_15 : pm_NW RX10 15 (RX0, TX0, 4) := ⟨cok_X0, pm_inG 122 (by decide +kernel) rfl, pm_inG 123 (by decide +kernel) rfl, pm_inG 49 (by decide +kernel) rfl⟩
theorem bk_X0 : pm_blank (RX0, TX0, 4) [some none, some none, some none, some none] := ⟨rfl, by decide +kernel⟩
theorem mb_X0_init : pm_MB mX0_init 0 := ⟨pm_inG 49 (by decide +kernel) rfl, pm_inG 126 (by decide +kernel) rfl, by decide +kernel, by decide +kernel, by decide +kernel⟩
theorem mi_X10_17 : pm_MIN RX10 17 mX0_init 0 := ⟨mb_X0_init, ⟨_, pm_inN 124 (w := Cond.methodLinkNest RX10 17 yX0_init "PaperMill") (by decide +kernel) rfl⟩, pm_inG 125 (by decide +kernel) rfl, rfl, rfl⟩
theorem oi_X0_3 : pm_OI RX0 3 := ⟨pm_inG 127 (by decide +kernel) rfl, pm_inG 67 (by decide +kernel) rfl, pm_inG 68 (by decide +kernel) rfl⟩
theorem lp_X0_9 : pm_LP RX0 9 0 0 true (.array .int) := ⟨(RX0, TX0, 4), rfl, cok_X0, by decide, pm_inG 128 (by decide +kernel) rfl, rfl, by decide +kernel, fun _ => rfl⟩
theorem lp_X0_15 : pm_LP RX0 15 0 1 true (.array .int) := ⟨(RX0, TX0, 4), rfl, cok_X0, by decide, pm_inG 130 (by decide +kernel) rfl, rfl, by decide +kernel, fun _ => rfl⟩
theorem lp_X0_18 : pm_LP RX0 18 0 2 true (.array .int) := ⟨(RX0, TX0, 4), rfl, cok_X0, by decide, pm_inG 132 (by decide +kernel) rfl, rfl, by decide +kernel, fun _ => rfl⟩
theorem lp_X0_21 : pm_LP RX0 21 0 3 true (.array .int) := ⟨(RX0, TX0, 4), rfl, cok_X0, by decide, pm_inG 134 (by decide +kernel) rfl, rfl, by decide +kernel, fun _ => rfl⟩
theorem lp_X10_18 : pm_LP RX10 18 10 3 true (.object "PaperMill$Beaters") := ⟨(RX10, TX10, 8), rfl, cok_X10, by decide, pm_inG 322 (by decide +kernel) rfl, rfl, by decide +kernel, fun _ => rfl⟩
theorem nw_X10_22 : pm_NW RX10 22 (RX3, TX3, 4) := ⟨cok_X3, pm_inG 145 (by decide +kernel) rfl, pm_inG 146 (by decide +kernel) rfl, pm_inG 50 (by decide +kernel) rfl⟩
theorem bk_X3 : pm_blank (RX3, TX3, 4) [some none, some none, some none, none] := ⟨rfl, by decide +kernel⟩
theorem mb_X3_init : pm_MB mX3_init 0 := ⟨pm_inG 50 (by decide +kernel) rfl, pm_inG 149 (by decide +kernel) rfl, by decide +kernel, by decide +kernel, by decide +kernel⟩
theorem mi_X10_24 : pm_MIN RX10 24 mX3_init 0 := ⟨mb_X3_init, ⟨_, pm_inN 147 (w := Cond.methodLinkNest RX10 24 yX3_init "PaperMill") (by decide +kernel) rfl⟩, pm_inG 148 (by decide +kernel) rfl, rfl, rfl⟩
theorem oi_X3_3 : pm_OI RX3 3 := ⟨pm_inG 150 (by decide +kernel) rfl, pm_inG 67 (by decide +kernel) rfl, pm_inG 68 (by decide +kernel) rfl⟩
theorem lp_X3_9 : pm_LP RX3 9 3 0 true (.array .int) := ⟨(RX3, TX3, 4), rfl, cok_X3, by decide, pm_inG 151 (by decide +kernel) rfl, rfl, by decide +kernel, fun _ => rfl⟩
theorem lp_X3_15 : pm_LP RX3 15 3 1 true (.array .int) := ⟨(RX3, TX3, 4), rfl, cok_X3, by decide, pm_inG 154 (by decide +kernel) rfl, rfl, by decide +kernel, fun _ => rfl⟩
theorem lp_X3_18 : pm_LP RX3 18 3 2 true (.array .int) := ⟨(RX3, TX3, 4), rfl, cok_X3, by decide, pm_inG 157 (by decide +kernel) rfl, rfl, by decide +kernel, fun _ => rfl⟩
theorem lp_X10_25 : pm_LP RX10 25 10 4 true (.object "PaperMill$Moulds") := ⟨(RX10, TX10, 8), rfl, cok_X10, by decide, pm_inG 324 (by decide +kernel) rfl, rfl, by decide +kernel, fun _ => rfl⟩
theorem nw_X10_29 : pm_NW RX10 29 (RX6, TX6, 12) := ⟨cok_X6, pm_inG 171 (by decide +kernel) rfl, pm_inG 172 (by decide +kernel) rfl, pm_inG 51 (by decide +kernel) rfl⟩
theorem bk_X6 : pm_blank (RX6, TX6, 12) [some none, some none, some none, some none, some none, some none, some none, some none, none, none, none, none] := ⟨rfl, by decide +kernel⟩
theorem mb_X6_init : pm_MB mX6_init 0 := ⟨pm_inG 51 (by decide +kernel) rfl, pm_inG 175 (by decide +kernel) rfl, by decide +kernel, by decide +kernel, by decide +kernel⟩
theorem mi_X10_31 : pm_MIN RX10 31 mX6_init 0 := ⟨mb_X6_init, ⟨_, pm_inN 173 (w := Cond.methodLinkNest RX10 31 yX6_init "PaperMill") (by decide +kernel) rfl⟩, pm_inG 174 (by decide +kernel) rfl, rfl, rfl⟩
theorem oi_X6_3 : pm_OI RX6 3 := ⟨pm_inG 176 (by decide +kernel) rfl, pm_inG 67 (by decide +kernel) rfl, pm_inG 68 (by decide +kernel) rfl⟩
theorem nw_X6_9 : pm_NW RX6 9 (RX2, TX2, 2) := ⟨cok_X2, pm_inG 177 (by decide +kernel) rfl, pm_inG 178 (by decide +kernel) rfl, pm_inG 52 (by decide +kernel) rfl⟩
theorem bk_X2 : pm_blank (RX2, TX2, 2) [some none, some none] := ⟨rfl, by decide +kernel⟩
theorem mb_X2_init : pm_MB mX2_init 0 := ⟨pm_inG 52 (by decide +kernel) rfl, pm_inG 181 (by decide +kernel) rfl, by decide +kernel, by decide +kernel, by decide +kernel⟩
theorem mi_X6_11 : pm_MIN RX6 11 mX2_init 0 := ⟨mb_X2_init, ⟨_, pm_inN 179 (w := Cond.methodLinkNest RX6 11 yX2_init "PaperMill") (by decide +kernel) rfl⟩, pm_inG 180 (by decide +kernel) rfl, rfl, rfl⟩
theorem oi_X2_3 : pm_OI RX2 3 := ⟨pm_inG 182 (by decide +kernel) rfl, pm_inG 67 (by decide +kernel) rfl, pm_inG 68 (by decide +kernel) rfl⟩
theorem lp_X2_9 : pm_LP RX2 9 2 0 true (.array .int) := ⟨(RX2, TX2, 2), rfl, cok_X2, by decide, pm_inG 183 (by decide +kernel) rfl, rfl, by decide +kernel, fun _ => rfl⟩
theorem lp_X2_15 : pm_LP RX2 15 2 1 true (.array .int) := ⟨(RX2, TX2, 2), rfl, cok_X2, by decide, pm_inG 184 (by decide +kernel) rfl, rfl, by decide +kernel, fun _ => rfl⟩
theorem lp_X6_12 : pm_LP RX6 12 6 0 true (.object "PaperMill$Marks") := ⟨(RX6, TX6, 12), rfl, cok_X6, by decide, pm_inG 190 (by decide +kernel) rfl, rfl, by decide +kernel, fun _ => rfl⟩
theorem lp_X6_18 : pm_LP RX6 18 6 1 true (.array .int) := ⟨(RX6, TX6, 12), rfl, cok_X6, by decide, pm_inG 194 (by decide +kernel) rfl, rfl, by decide +kernel, fun _ => rfl⟩
theorem lp_X6_22 : pm_LP RX6 22 6 2 true (.array .int) := ⟨(RX6, TX6, 12), rfl, cok_X6, by decide, pm_inG 197 (by decide +kernel) rfl, rfl, by decide +kernel, fun _ => rfl⟩
theorem lp_X6_25 : pm_LP RX6 25 6 3 true (.array .int) := ⟨(RX6, TX6, 12), rfl, cok_X6, by decide, pm_inG 199 (by decide +kernel) rfl, rfl, by decide +kernel, fun _ => rfl⟩
theorem lp_X6_28 : pm_LP RX6 28 6 4 true (.array .int) := ⟨(RX6, TX6, 12), rfl, cok_X6, by decide, pm_inG 202 (by decide +kernel) rfl, rfl, by decide +kernel, fun _ => rfl⟩
theorem lp_X6_31 : pm_LP RX6 31 6 5 true (.array .int) := ⟨(RX6, TX6, 12), rfl, cok_X6, by decide, pm_inG 204 (by decide +kernel) rfl, rfl, by decide +kernel, fun _ => rfl⟩
theorem lp_X6_34 : pm_LP RX6 34 6 6 true (.array .int) := ⟨(RX6, TX6, 12), rfl, cok_X6, by decide, pm_inG 206 (by decide +kernel) rfl, rfl, by decide +kernel, fun _ => rfl⟩
theorem lp_X6_37 : pm_LP RX6 37 6 7 true (.array .int) := ⟨(RX6, TX6, 12), rfl, cok_X6, by decide, pm_inG 208 (by decide +kernel) rfl, rfl, by decide +kernel, fun _ => rfl⟩
theorem lp_X10_32 : pm_LP RX10 32 10 5 true (.object "PaperMill$Posts") := ⟨(RX10, TX10, 8), rfl, cok_X10, by decide, pm_inG 326 (by decide +kernel) rfl, rfl, by decide +kernel, fun _ => rfl⟩
theorem nw_X10_36 : pm_NW RX10 36 (RX8, TX8, 9) := ⟨cok_X8, pm_inG 244 (by decide +kernel) rfl, pm_inG 245 (by decide +kernel) rfl, pm_inG 53 (by decide +kernel) rfl⟩
theorem bk_X8 : pm_blank (RX8, TX8, 9) [some none, some none, some none, some none, some none, some none, some none, some none, none] := ⟨rfl, by decide +kernel⟩
theorem mb_X8_init : pm_MB mX8_init 3 := ⟨pm_inG 53 (by decide +kernel) rfl, pm_inG 248 (by decide +kernel) rfl, by decide +kernel, by decide +kernel, by decide +kernel⟩
theorem mi_X10_38 : pm_MI RX10 38 mX8_init 3 := ⟨mb_X8_init, pm_inG 246 (by decide +kernel) rfl, pm_inG 247 (by decide +kernel) rfl, rfl, rfl⟩
theorem oi_X8_3 : pm_OI RX8 3 := ⟨pm_inG 249 (by decide +kernel) rfl, pm_inG 67 (by decide +kernel) rfl, pm_inG 68 (by decide +kernel) rfl⟩
theorem lp_X8_9 : pm_LP RX8 9 8 3 true (.array .int) := ⟨(RX8, TX8, 9), rfl, cok_X8, by decide, pm_inG 254 (by decide +kernel) rfl, rfl, by decide +kernel, fun _ => rfl⟩
theorem lp_X8_15 : pm_LP RX8 15 8 4 true (.array .int) := ⟨(RX8, TX8, 9), rfl, cok_X8, by decide, pm_inG 256 (by decide +kernel) rfl, rfl, by decide +kernel, fun _ => rfl⟩
theorem lp_X8_18 : pm_LP RX8 18 8 5 true (.array .int) := ⟨(RX8, TX8, 9), rfl, cok_X8, by decide, pm_inG 258 (by decide +kernel) rfl, rfl, by decide +kernel, fun _ => rfl⟩
theorem lp_X8_21 : pm_LP RX8 21 8 6 true (.array .int) := ⟨(RX8, TX8, 9), rfl, cok_X8, by decide, pm_inG 260 (by decide +kernel) rfl, rfl, by decide +kernel, fun _ => rfl⟩
theorem lp_X8_24 : pm_LP RX8 24 8 7 true (.array .int) := ⟨(RX8, TX8, 9), rfl, cok_X8, by decide, pm_inG 262 (by decide +kernel) rfl, rfl, by decide +kernel, fun _ => rfl⟩
theorem lp_X8_27 : pm_LP RX8 27 8 0 true (.array .int) := ⟨(RX8, TX8, 9), rfl, cok_X8, by decide, pm_inG 251 (by decide +kernel) rfl, rfl, by decide +kernel, fun _ => rfl⟩
theorem lp_X8_30 : pm_LP RX8 30 8 1 true (.object "PaperMill$Moulds") := ⟨(RX8, TX8, 9), rfl, cok_X8, by decide, pm_inG 252 (by decide +kernel) rfl, rfl, by decide +kernel, fun _ => rfl⟩
theorem lp_X8_34 : pm_LP RX8 34 8 2 true (.object "PaperMill$Posts") := ⟨(RX8, TX8, 9), rfl, cok_X8, by decide, pm_inG 253 (by decide +kernel) rfl, rfl, by decide +kernel, fun _ => rfl⟩
theorem mk_X8_38 : pm_MS RX8 38 mJ7_fill_53178 2 := ⟨mb_J7_fill_53178, pm_inG 250 (by decide +kernel) rfl, pm_inG 78 (by decide +kernel) rfl⟩
theorem lp_X10_41 : pm_LP RX10 41 10 6 true (.object "PaperMill$Vats") := ⟨(RX10, TX10, 8), rfl, cok_X10, by decide, pm_inG 328 (by decide +kernel) rfl, rfl, by decide +kernel, fun _ => rfl⟩
theorem lp_X10_45 : pm_LP RX10 45 10 0 true (.object "PaperMill$Weather") := ⟨(RX10, TX10, 8), rfl, cok_X10, by decide, pm_inG 317 (by decide +kernel) rfl, rfl, by decide +kernel, fun _ => rfl⟩
theorem nw_X10_49 : pm_NW RX10 49 (RX1, TX1, 7) := ⟨cok_X1, pm_inG 284 (by decide +kernel) rfl, pm_inG 285 (by decide +kernel) rfl, pm_inG 54 (by decide +kernel) rfl⟩
theorem bk_X1 : pm_blank (RX1, TX1, 7) [some none, some none, some none, some none, some none, none, none] := ⟨rfl, by decide +kernel⟩
theorem mb_X1_init : pm_MB mX1_init 1 := ⟨pm_inG 54 (by decide +kernel) rfl, pm_inG 288 (by decide +kernel) rfl, by decide +kernel, by decide +kernel, by decide +kernel⟩
theorem mi_X10_51 : pm_MI RX10 51 mX1_init 1 := ⟨mb_X1_init, pm_inG 286 (by decide +kernel) rfl, pm_inG 287 (by decide +kernel) rfl, rfl, rfl⟩
theorem oi_X1_3 : pm_OI RX1 3 := ⟨pm_inG 289 (by decide +kernel) rfl, pm_inG 67 (by decide +kernel) rfl, pm_inG 68 (by decide +kernel) rfl⟩
theorem lp_X1_9 : pm_LP RX1 9 1 1 true (.array .int) := ⟨(RX1, TX1, 7), rfl, cok_X1, by decide, pm_inG 291 (by decide +kernel) rfl, rfl, by decide +kernel, fun _ => rfl⟩
theorem lp_X1_15 : pm_LP RX1 15 1 2 true (.array .int) := ⟨(RX1, TX1, 7), rfl, cok_X1, by decide, pm_inG 293 (by decide +kernel) rfl, rfl, by decide +kernel, fun _ => rfl⟩
theorem lp_X1_18 : pm_LP RX1 18 1 3 true (.array .int) := ⟨(RX1, TX1, 7), rfl, cok_X1, by decide, pm_inG 295 (by decide +kernel) rfl, rfl, by decide +kernel, fun _ => rfl⟩
theorem lp_X1_21 : pm_LP RX1 21 1 4 true (.array .int) := ⟨(RX1, TX1, 7), rfl, cok_X1, by decide, pm_inG 296 (by decide +kernel) rfl, rfl, by decide +kernel, fun _ => rfl⟩
theorem lp_X1_24 : pm_LP RX1 24 1 0 true (.object "PaperMill$Rags") := ⟨(RX1, TX1, 7), rfl, cok_X1, by decide, pm_inG 290 (by decide +kernel) rfl, rfl, by decide +kernel, fun _ => rfl⟩
theorem lp_X10_54 : pm_LP RX10 54 10 2 true (.object "PaperMill$Heaps") := ⟨(RX10, TX10, 8), rfl, cok_X10, by decide, pm_inG 320 (by decide +kernel) rfl, rfl, by decide +kernel, fun _ => rfl⟩
theorem lp_X11_28 : pm_LP RX11 28 11 2 true (.object "PaperMill$Works") := ⟨(RX11, TX11, 11), rfl, cok_X11, by decide, pm_inG 424 (by decide +kernel) rfl, rfl, by decide +kernel, fun _ => rfl⟩
theorem lp_X11_32 : pm_LP RX11 32 11 3 true (.object "PaperMill$Works") := ⟨(RX11, TX11, 11), rfl, cok_X11, by decide, pm_inG 425 (by decide +kernel) rfl, rfl, by decide +kernel, fun _ => rfl⟩
theorem nw_X11_35 : pm_NW RX11 35 (RX5, TX5, 10) := ⟨cok_X5, pm_inG 349 (by decide +kernel) rfl, pm_inG 350 (by decide +kernel) rfl, pm_inG 55 (by decide +kernel) rfl⟩
theorem bk_X5 : pm_blank (RX5, TX5, 10) [some none, some none, some none, some none, some none, some none, none, some none, none, none] := ⟨rfl, by decide +kernel⟩
theorem mb_X5_init : pm_MB mX5_init 0 := ⟨pm_inG 55 (by decide +kernel) rfl, pm_inG 353 (by decide +kernel) rfl, by decide +kernel, by decide +kernel, by decide +kernel⟩
theorem mi_X11_37 : pm_MIN RX11 37 mX5_init 0 := ⟨mb_X5_init, ⟨_, pm_inN 351 (w := Cond.methodLinkNest RX11 37 yX5_init "PaperMill") (by decide +kernel) rfl⟩, pm_inG 352 (by decide +kernel) rfl, rfl, rfl⟩
theorem oi_X5_3 : pm_OI RX5 3 := ⟨pm_inG 354 (by decide +kernel) rfl, pm_inG 67 (by decide +kernel) rfl, pm_inG 68 (by decide +kernel) rfl⟩
theorem lp_X5_9 : pm_LP RX5 9 5 0 true (.array .int) := ⟨(RX5, TX5, 10), rfl, cok_X5, by decide, pm_inG 355 (by decide +kernel) rfl, rfl, by decide +kernel, fun _ => rfl⟩
theorem lp_X5_15 : pm_LP RX5 15 5 1 true (.array .int) := ⟨(RX5, TX5, 10), rfl, cok_X5, by decide, pm_inG 357 (by decide +kernel) rfl, rfl, by decide +kernel, fun _ => rfl⟩
theorem lp_X5_18 : pm_LP RX5 18 5 2 true (.array .int) := ⟨(RX5, TX5, 10), rfl, cok_X5, by decide, pm_inG 359 (by decide +kernel) rfl, rfl, by decide +kernel, fun _ => rfl⟩
theorem lp_X5_21 : pm_LP RX5 21 5 3 true (.array .int) := ⟨(RX5, TX5, 10), rfl, cok_X5, by decide, pm_inG 361 (by decide +kernel) rfl, rfl, by decide +kernel, fun _ => rfl⟩
theorem lp_X5_24 : pm_LP RX5 24 5 4 true (.array .int) := ⟨(RX5, TX5, 10), rfl, cok_X5, by decide, pm_inG 363 (by decide +kernel) rfl, rfl, by decide +kernel, fun _ => rfl⟩
theorem lp_X5_27 : pm_LP RX5 27 5 5 true (.array .int) := ⟨(RX5, TX5, 10), rfl, cok_X5, by decide, pm_inG 365 (by decide +kernel) rfl, rfl, by decide +kernel, fun _ => rfl⟩
theorem lp_X5_30 : pm_LP RX5 30 5 7 true (.array .int) := ⟨(RX5, TX5, 10), rfl, cok_X5, by decide, pm_inG 369 (by decide +kernel) rfl, rfl, by decide +kernel, fun _ => rfl⟩
theorem lp_X11_38 : pm_LP RX11 38 11 4 true (.object "PaperMill$Orders") := ⟨(RX11, TX11, 11), rfl, cok_X11, by decide, pm_inG 426 (by decide +kernel) rfl, rfl, by decide +kernel, fun _ => rfl⟩
theorem nw_X11_42 : pm_NW RX11 42 (RX4, TX4, 5) := ⟨cok_X4, pm_inG 395 (by decide +kernel) rfl, pm_inG 396 (by decide +kernel) rfl, pm_inG 56 (by decide +kernel) rfl⟩
theorem bk_X4 : pm_blank (RX4, TX4, 5) [some none, some none, none, none, none] := ⟨rfl, by decide +kernel⟩
theorem mb_X4_init : pm_MB mX4_init 1 := ⟨pm_inG 56 (by decide +kernel) rfl, pm_inG 399 (by decide +kernel) rfl, by decide +kernel, by decide +kernel, by decide +kernel⟩
theorem mi_X11_48 : pm_MI RX11 48 mX4_init 1 := ⟨mb_X4_init, pm_inG 397 (by decide +kernel) rfl, pm_inG 398 (by decide +kernel) rfl, rfl, rfl⟩
theorem oi_X4_3 : pm_OI RX4 3 := ⟨pm_inG 400 (by decide +kernel) rfl, pm_inG 67 (by decide +kernel) rfl, pm_inG 68 (by decide +kernel) rfl⟩
theorem lp_X4_9 : pm_LP RX4 9 4 1 true (.array .int) := ⟨(RX4, TX4, 5), rfl, cok_X4, by decide, pm_inG 403 (by decide +kernel) rfl, rfl, by decide +kernel, fun _ => rfl⟩
theorem lp_X4_15 : pm_LP RX4 15 4 0 true (.object "PaperMill$Posts") := ⟨(RX4, TX4, 5), rfl, cok_X4, by decide, pm_inG 402 (by decide +kernel) rfl, rfl, by decide +kernel, fun _ => rfl⟩
theorem mk_X4_19 : pm_MS RX4 19 mJ7_fill_53178 2 := ⟨mb_J7_fill_53178, pm_inG 401 (by decide +kernel) rfl, pm_inG 78 (by decide +kernel) rfl⟩
theorem lp_X11_51 : pm_LP RX11 51 11 5 true (.object "PaperMill$OldSheet") := ⟨(RX11, TX11, 11), rfl, cok_X11, by decide, pm_inG 427 (by decide +kernel) rfl, rfl, by decide +kernel, fun _ => rfl⟩
theorem lp_X11_55 : pm_LP RX11 55 11 6 true (.array .int) := ⟨(RX11, TX11, 11), rfl, cok_X11, by decide, pm_inG 428 (by decide +kernel) rfl, rfl, by decide +kernel, fun _ => rfl⟩
theorem lp_X11_59 : pm_LP RX11 59 11 7 true (.array .int) := ⟨(RX11, TX11, 11), rfl, cok_X11, by decide, pm_inG 429 (by decide +kernel) rfl, rfl, by decide +kernel, fun _ => rfl⟩
theorem lp_X11_62 : pm_LP RX11 62 11 8 true (.array .int) := ⟨(RX11, TX11, 11), rfl, cok_X11, by decide, pm_inG 430 (by decide +kernel) rfl, rfl, by decide +kernel, fun _ => rfl⟩
theorem oi_X12_1 : pm_OI RX12 1 := ⟨pm_inG 916 (by decide +kernel) rfl, pm_inG 67 (by decide +kernel) rfl, pm_inG 68 (by decide +kernel) rfl⟩
theorem lp_X12_7 : pm_LP RX12 7 12 0 true (.array .int) := ⟨(RX12, TX12, 36), rfl, cok_X12, by decide, pm_inG 917 (by decide +kernel) rfl, rfl, by decide +kernel, fun _ => rfl⟩
theorem lp_X12_13 : pm_LP RX12 13 12 1 true (.array .int) := ⟨(RX12, TX12, 36), rfl, cok_X12, by decide, pm_inG 918 (by decide +kernel) rfl, rfl, by decide +kernel, fun _ => rfl⟩
theorem lp_X12_16 : pm_LP RX12 16 12 2 true (.array .int) := ⟨(RX12, TX12, 36), rfl, cok_X12, by decide, pm_inG 919 (by decide +kernel) rfl, rfl, by decide +kernel, fun _ => rfl⟩
theorem lp_X12_19 : pm_LP RX12 19 12 3 true (.array .int) := ⟨(RX12, TX12, 36), rfl, cok_X12, by decide, pm_inG 920 (by decide +kernel) rfl, rfl, by decide +kernel, fun _ => rfl⟩
theorem lp_X12_22 : pm_LP RX12 22 12 4 true (.array .int) := ⟨(RX12, TX12, 36), rfl, cok_X12, by decide, pm_inG 921 (by decide +kernel) rfl, rfl, by decide +kernel, fun _ => rfl⟩
theorem lp_X12_25 : pm_LP RX12 25 12 5 true (.array .int) := ⟨(RX12, TX12, 36), rfl, cok_X12, by decide, pm_inG 922 (by decide +kernel) rfl, rfl, by decide +kernel, fun _ => rfl⟩
theorem lp_X12_28 : pm_LP RX12 28 12 6 true (.array .int) := ⟨(RX12, TX12, 36), rfl, cok_X12, by decide, pm_inG 923 (by decide +kernel) rfl, rfl, by decide +kernel, fun _ => rfl⟩
theorem lp_X12_31 : pm_LP RX12 31 12 7 true (.array .int) := ⟨(RX12, TX12, 36), rfl, cok_X12, by decide, pm_inG 924 (by decide +kernel) rfl, rfl, by decide +kernel, fun _ => rfl⟩
theorem lp_X12_34 : pm_LP RX12 34 12 8 true (.array .int) := ⟨(RX12, TX12, 36), rfl, cok_X12, by decide, pm_inG 925 (by decide +kernel) rfl, rfl, by decide +kernel, fun _ => rfl⟩
theorem lp_X12_37 : pm_LP RX12 37 12 9 true (.array .int) := ⟨(RX12, TX12, 36), rfl, cok_X12, by decide, pm_inG 926 (by decide +kernel) rfl, rfl, by decide +kernel, fun _ => rfl⟩
theorem lp_X12_40 : pm_LP RX12 40 12 10 true (.array .int) := ⟨(RX12, TX12, 36), rfl, cok_X12, by decide, pm_inG 927 (by decide +kernel) rfl, rfl, by decide +kernel, fun _ => rfl⟩
theorem lp_X12_43 : pm_LP RX12 43 12 11 true (.array .int) := ⟨(RX12, TX12, 36), rfl, cok_X12, by decide, pm_inG 928 (by decide +kernel) rfl, rfl, by decide +kernel, fun _ => rfl⟩
theorem lp_X12_46 : pm_LP RX12 46 12 12 true (.array .int) := ⟨(RX12, TX12, 36), rfl, cok_X12, by decide, pm_inG 929 (by decide +kernel) rfl, rfl, by decide +kernel, fun _ => rfl⟩
theorem lp_X12_49 : pm_LP RX12 49 12 13 true (.array .int) := ⟨(RX12, TX12, 36), rfl, cok_X12, by decide, pm_inG 930 (by decide +kernel) rfl, rfl, by decide +kernel, fun _ => rfl⟩
theorem lp_X12_52 : pm_LP RX12 52 12 14 true (.array .int) := ⟨(RX12, TX12, 36), rfl, cok_X12, by decide, pm_inG 931 (by decide +kernel) rfl, rfl, by decide +kernel, fun _ => rfl⟩
theorem lp_X12_59 : pm_LP RX12 59 12 21 true (.array .int) := ⟨(RX12, TX12, 36), rfl, cok_X12, by decide, pm_inG 938 (by decide +kernel) rfl, rfl, by decide +kernel, fun _ => rfl⟩
theorem lp_X12_62 : pm_LP RX12 62 12 22 true (.array .int) := ⟨(RX12, TX12, 36), rfl, cok_X12, by decide, pm_inG 939 (by decide +kernel) rfl, rfl, by decide +kernel, fun _ => rfl⟩
theorem lp_X12_65 : pm_LP RX12 65 12 23 true (.array .int) := ⟨(RX12, TX12, 36), rfl, cok_X12, by decide, pm_inG 940 (by decide +kernel) rfl, rfl, by decide +kernel, fun _ => rfl⟩
theorem lp_X12_68 : pm_LP RX12 68 12 24 true (.array .int) := ⟨(RX12, TX12, 36), rfl, cok_X12, by decide, pm_inG 941 (by decide +kernel) rfl, rfl, by decide +kernel, fun _ => rfl⟩
theorem lp_X12_71 : pm_LP RX12 71 12 25 true (.array .int) := ⟨(RX12, TX12, 36), rfl, cok_X12, by decide, pm_inG 942 (by decide +kernel) rfl, rfl, by decide +kernel, fun _ => rfl⟩
theorem lp_X12_74 : pm_LP RX12 74 12 26 true (.array .int) := ⟨(RX12, TX12, 36), rfl, cok_X12, by decide, pm_inG 943 (by decide +kernel) rfl, rfl, by decide +kernel, fun _ => rfl⟩
theorem lp_X12_77 : pm_LP RX12 77 12 27 true (.array .int) := ⟨(RX12, TX12, 36), rfl, cok_X12, by decide, pm_inG 944 (by decide +kernel) rfl, rfl, by decide +kernel, fun _ => rfl⟩
theorem lp_X12_80 : pm_LP RX12 80 12 28 true (.array .int) := ⟨(RX12, TX12, 36), rfl, cok_X12, by decide, pm_inG 945 (by decide +kernel) rfl, rfl, by decide +kernel, fun _ => rfl⟩
theorem lp_X12_83 : pm_LP RX12 83 12 29 true (.array .int) := ⟨(RX12, TX12, 36), rfl, cok_X12, by decide, pm_inG 946 (by decide +kernel) rfl, rfl, by decide +kernel, fun _ => rfl⟩
theorem lp_X12_86 : pm_LP RX12 86 12 30 true (.array .int) := ⟨(RX12, TX12, 36), rfl, cok_X12, by decide, pm_inG 947 (by decide +kernel) rfl, rfl, by decide +kernel, fun _ => rfl⟩
theorem lp_X12_89 : pm_LP RX12 89 12 31 true (.array .int) := ⟨(RX12, TX12, 36), rfl, cok_X12, by decide, pm_inG 948 (by decide +kernel) rfl, rfl, by decide +kernel, fun _ => rfl⟩
theorem lp_X12_92 : pm_LP RX12 92 12 33 true (.array .int) := ⟨(RX12, TX12, 36), rfl, cok_X12, by decide, pm_inG 950 (by decide +kernel) rfl, rfl, by decide +kernel, fun _ => rfl⟩
