theorem fX0_9 : FD RX0 9 0 0 (.array .int) true := ⟨RX0, TX0, 5, tyX0, rfl, inlX0, tyX0_ok, nmX0, by decide, big_1 (i := 124) rfl rfl, rfl, by decide +kernel⟩
theorem fX0_15 : FD RX0 15 0 1 (.array .int) true := ⟨RX0, TX0, 5, tyX0, rfl, inlX0, tyX0_ok, nmX0, by decide, big_1 (i := 127) rfl rfl, rfl, by decide +kernel⟩
theorem fX0_18 : FD RX0 18 0 2 (.array .int) true := ⟨RX0, TX0, 5, tyX0, rfl, inlX0, tyX0_ok, nmX0, by decide, big_1 (i := 128) rfl rfl, rfl, by decide +kernel⟩
theorem fX0_21 : FD RX0 21 0 3 (.int) false := ⟨RX0, TX0, 5, tyX0, rfl, inlX0, tyX0_ok, nmX0, by decide, big_1 (i := 129) rfl rfl, rfl, by decide +kernel⟩
theorem fX0_25 : FD RX0 25 0 4 (.int) false := ⟨RX0, TX0, 5, tyX0, rfl, inlX0, tyX0_ok, nmX0, by decide, big_1 (i := 131) rfl rfl, rfl, by decide +kernel⟩
theorem fX0_28 : FD RX0 28 1 2 (.array .int) true := ⟨RX1, TX1, 8, tyX1, rfl, inlX1, tyX1_ok, nmX1, by decide, big_1 (i := 46) rfl rfl, rfl, by decide +kernel⟩
theorem fX0_33 : FD RX0 33 1 3 (.array .int) true := ⟨RX1, TX1, 8, tyX1, rfl, inlX1, tyX1_ok, nmX1, by decide, big_1 (i := 48) rfl rfl, rfl, by decide +kernel⟩
theorem fX1_9 : FD RX1 9 1 0 (.int) false := ⟨RX1, TX1, 8, tyX1, rfl, inlX1, tyX1_ok, nmX1, by decide, big_1 (i := 40) rfl rfl, rfl, by decide +kernel⟩
theorem fX1_15 : FD RX1 15 1 1 (.array .int) true := ⟨RX1, TX1, 8, tyX1, rfl, inlX1, tyX1_ok, nmX1, by decide, big_1 (i := 43) rfl rfl, rfl, by decide +kernel⟩
theorem fX1_19 : FD RX1 19 1 2 (.array .int) true := ⟨RX1, TX1, 8, tyX1, rfl, inlX1, tyX1_ok, nmX1, by decide, big_1 (i := 45) rfl rfl, rfl, by decide +kernel⟩
theorem fX1_22 : FD RX1 22 1 3 (.array .int) true := ⟨RX1, TX1, 8, tyX1, rfl, inlX1, tyX1_ok, nmX1, by decide, big_1 (i := 47) rfl rfl, rfl, by decide +kernel⟩
theorem fX1_25 : FD RX1 25 1 4 (.array .int) true := ⟨RX1, TX1, 8, tyX1, rfl, inlX1, tyX1_ok, nmX1, by decide, big_1 (i := 49) rfl rfl, rfl, by decide +kernel⟩
theorem fX1_28 : FD RX1 28 1 5 (.array .int) true := ⟨RX1, TX1, 8, tyX1, rfl, inlX1, tyX1_ok, nmX1, by decide, big_1 (i := 51) rfl rfl, rfl, by decide +kernel⟩
theorem fX1_31 : FD RX1 31 1 6 (.array .boolean) true := ⟨RX1, TX1, 8, tyX1, rfl, inlX1, tyX1_ok, nmX1, by decide, big_1 (i := 54) rfl rfl, rfl, by decide +kernel⟩
theorem fX1_35 : FD RX1 35 1 7 (.array .boolean) true := ⟨RX1, TX1, 8, tyX1, rfl, inlX1, tyX1_ok, nmX1, by decide, big_1 (i := 57) rfl rfl, rfl, by decide +kernel⟩
theorem fX2_9 : FD RX2 9 2 0 (.int) false := ⟨RX2, TX2, 4, tyX2, rfl, inlX2, tyX2_ok, nmX2, by decide, big_1 (i := 150) rfl rfl, rfl, by decide +kernel⟩
theorem fX2_15 : FD RX2 15 2 1 (.array .int) true := ⟨RX2, TX2, 4, tyX2, rfl, inlX2, tyX2_ok, nmX2, by decide, big_1 (i := 152) rfl rfl, rfl, by decide +kernel⟩
theorem fX2_19 : FD RX2 19 2 2 (.array .int) true := ⟨RX2, TX2, 4, tyX2, rfl, inlX2, tyX2_ok, nmX2, by decide, big_1 (i := 153) rfl rfl, rfl, by decide +kernel⟩
theorem fX2_22 : FD RX2 22 2 3 (.array .int) true := ⟨RX2, TX2, 4, tyX2, rfl, inlX2, tyX2_ok, nmX2, by decide, big_1 (i := 154) rfl rfl, rfl, by decide +kernel⟩
theorem fX2_25 : FD RX2 25 1 0 (.int) false := ⟨RX1, TX1, 8, tyX1, rfl, inlX1, tyX1_ok, nmX1, by decide, big_1 (i := 41) rfl rfl, rfl, by decide +kernel⟩
theorem fX2_28 : FD RX2 28 1 5 (.array .int) true := ⟨RX1, TX1, 8, tyX1, rfl, inlX1, tyX1_ok, nmX1, by decide, big_1 (i := 52) rfl rfl, rfl, by decide +kernel⟩
theorem fX2_35 : FD RX2 35 1 6 (.array .boolean) true := ⟨RX1, TX1, 8, tyX1, rfl, inlX1, tyX1_ok, nmX1, by decide, big_1 (i := 55) rfl rfl, rfl, by decide +kernel⟩
theorem fX2_45 : FD RX2 45 0 3 (.int) false := ⟨RX0, TX0, 5, tyX0, rfl, inlX0, tyX0_ok, nmX0, by decide, big_1 (i := 130) rfl rfl, rfl, by decide +kernel⟩
theorem fX2_48 : FD RX2 48 0 4 (.int) false := ⟨RX0, TX0, 5, tyX0, rfl, inlX0, tyX0_ok, nmX0, by decide, big_1 (i := 132) rfl rfl, rfl, by decide +kernel⟩
theorem fX3_9 : FD RX3 9 3 0 (.array .int) true := ⟨RX3, TX3, 2, tyX3, rfl, inlX3, tyX3_ok, nmX3, by decide, big_1 (i := 25) rfl rfl, rfl, by decide +kernel⟩
theorem fX3_15 : FD RX3 15 3 1 (.array .int) true := ⟨RX3, TX3, 2, tyX3, rfl, inlX3, tyX3_ok, nmX3, by decide, big_1 (i := 27) rfl rfl, rfl, by decide +kernel⟩
theorem fX3_22 : FD RX3 22 0 0 (.array .int) true := ⟨RX0, TX0, 5, tyX0, rfl, inlX0, tyX0_ok, nmX0, by decide, big_1 (i := 125) rfl rfl, rfl, by decide +kernel⟩
theorem fX4_9 : FD RX4 9 4 0 (.int) false := ⟨RX4, TX4, 10, tyX4, rfl, inlX4, tyX4_ok, nmX4, by decide, big_1 (i := 83) rfl rfl, rfl, by decide +kernel⟩
theorem fX4_15 : FD RX4 15 4 1 (.array .int) true := ⟨RX4, TX4, 10, tyX4, rfl, inlX4, tyX4_ok, nmX4, by decide, big_1 (i := 85) rfl rfl, rfl, by decide +kernel⟩
theorem fX4_19 : FD RX4 19 4 2 (.array .int) true := ⟨RX4, TX4, 10, tyX4, rfl, inlX4, tyX4_ok, nmX4, by decide, big_1 (i := 87) rfl rfl, rfl, by decide +kernel⟩
theorem fX4_22 : FD RX4 22 4 3 (.array .int) true := ⟨RX4, TX4, 10, tyX4, rfl, inlX4, tyX4_ok, nmX4, by decide, big_1 (i := 88) rfl rfl, rfl, by decide +kernel⟩
theorem fX4_25 : FD RX4 25 4 4 (.array .int) true := ⟨RX4, TX4, 10, tyX4, rfl, inlX4, tyX4_ok, nmX4, by decide, big_1 (i := 89) rfl rfl, rfl, by decide +kernel⟩
theorem fX4_28 : FD RX4 28 4 5 (.array .int) true := ⟨RX4, TX4, 10, tyX4, rfl, inlX4, tyX4_ok, nmX4, by decide, big_1 (i := 90) rfl rfl, rfl, by decide +kernel⟩
theorem fX4_31 : FD RX4 31 4 6 (.array .int) true := ⟨RX4, TX4, 10, tyX4, rfl, inlX4, tyX4_ok, nmX4, by decide, big_1 (i := 91) rfl rfl, rfl, by decide +kernel⟩
theorem fX4_34 : FD RX4 34 4 7 (.array .int) true := ⟨RX4, TX4, 10, tyX4, rfl, inlX4, tyX4_ok, nmX4, by decide, big_1 (i := 92) rfl rfl, rfl, by decide +kernel⟩
theorem fX4_37 : FD RX4 37 4 8 (.array .int) true := ⟨RX4, TX4, 10, tyX4, rfl, inlX4, tyX4_ok, nmX4, by decide, big_1 (i := 93) rfl rfl, rfl, by decide +kernel⟩
theorem fX4_40 : FD RX4 40 4 9 (.array .boolean) true := ⟨RX4, TX4, 10, tyX4, rfl, inlX4, tyX4_ok, nmX4, by decide, big_1 (i := 95) rfl rfl, rfl, by decide +kernel⟩
theorem fX4_55 : FD RX4 55 0 0 (.array .int) true := ⟨RX0, TX0, 5, tyX0, rfl, inlX0, tyX0_ok, nmX0, by decide, big_1 (i := 126) rfl rfl, rfl, by decide +kernel⟩
theorem fX5_10 : FD RX5 10 5 0 (.object "SunCourt$Sky") true := ⟨RX5, TX5, 10, tyX5, rfl, inlX5, tyX5_ok, nmX5, by decide, big_1 (i := 167) rfl rfl, rfl, by decide +kernel⟩
theorem fX5_19 : FD RX5 19 5 1 (.object "SunCourt$Blocks") true := ⟨RX5, TX5, 10, tyX5, rfl, inlX5, tyX5_ok, nmX5, by decide, big_1 (i := 168) rfl rfl, rfl, by decide +kernel⟩
theorem fX5_26 : FD RX5 26 5 2 (.object "SunCourt$Windows") true := ⟨RX5, TX5, 10, tyX5, rfl, inlX5, tyX5_ok, nmX5, by decide, big_1 (i := 169) rfl rfl, rfl, by decide +kernel⟩
theorem fX5_33 : FD RX5 33 5 3 (.object "SunCourt$Beam") true := ⟨RX5, TX5, 10, tyX5, rfl, inlX5, tyX5_ok, nmX5, by decide, big_1 (i := 170) rfl rfl, rfl, by decide +kernel⟩
theorem fX5_40 : FD RX5 40 5 4 (.object "SunCourt$Shade") true := ⟨RX5, TX5, 10, tyX5, rfl, inlX5, tyX5_ok, nmX5, by decide, big_1 (i := 171) rfl rfl, rfl, by decide +kernel⟩
theorem fX5_44 : FD RX5 44 5 5 (.array .int) true := ⟨RX5, TX5, 10, tyX5, rfl, inlX5, tyX5_ok, nmX5, by decide, big_1 (i := 172) rfl rfl, rfl, by decide +kernel⟩
theorem fX5_48 : FD RX5 48 5 6 (.array .int) true := ⟨RX5, TX5, 10, tyX5, rfl, inlX5, tyX5_ok, nmX5, by decide, big_1 (i := 173) rfl rfl, rfl, by decide +kernel⟩
theorem fX5_51 : FD RX5 51 5 7 (.array .int) true := ⟨RX5, TX5, 10, tyX5, rfl, inlX5, tyX5_ok, nmX5, by decide, big_1 (i := 174) rfl rfl, rfl, by decide +kernel⟩
theorem fX5_54 : FD RX5 54 5 8 (.int) false := ⟨RX5, TX5, 10, tyX5, rfl, inlX5, tyX5_ok, nmX5, by decide, big_1 (i := 175) rfl rfl, rfl, by decide +kernel⟩
theorem fX5_58 : FD RX5 58 5 9 (.int) false := ⟨RX5, TX5, 10, tyX5, rfl, inlX5, tyX5_ok, nmX5, by decide, big_1 (i := 176) rfl rfl, rfl, by decide +kernel⟩
theorem fX5_94 : FD RX5 94 1 5 (.array .int) true := ⟨RX1, TX1, 8, tyX1, rfl, inlX1, tyX1_ok, nmX1, by decide, big_1 (i := 53) rfl rfl, rfl, by decide +kernel⟩
theorem fX5_100 : FD RX5 100 1 4 (.array .int) true := ⟨RX1, TX1, 8, tyX1, rfl, inlX1, tyX1_ok, nmX1, by decide, big_1 (i := 50) rfl rfl, rfl, by decide +kernel⟩
theorem fX5_103 : FD RX5 103 1 7 (.array .boolean) true := ⟨RX1, TX1, 8, tyX1, rfl, inlX1, tyX1_ok, nmX1, by decide, big_1 (i := 58) rfl rfl, rfl, by decide +kernel⟩
theorem fX5_117 : FD RX5 117 1 6 (.array .boolean) true := ⟨RX1, TX1, 8, tyX1, rfl, inlX1, tyX1_ok, nmX1, by decide, big_1 (i := 56) rfl rfl, rfl, by decide +kernel⟩
theorem fX5_160 : FD RX5 160 3 0 (.array .int) true := ⟨RX3, TX3, 2, tyX3, rfl, inlX3, tyX3_ok, nmX3, by decide, big_1 (i := 26) rfl rfl, rfl, by decide +kernel⟩
theorem fX5_184 : FD RX5 184 4 9 (.array .boolean) true := ⟨RX4, TX4, 10, tyX4, rfl, inlX4, tyX4_ok, nmX4, by decide, big_1 (i := 96) rfl rfl, rfl, by decide +kernel⟩
theorem fX5_187 : FD RX5 187 1 1 (.array .int) true := ⟨RX1, TX1, 8, tyX1, rfl, inlX1, tyX1_ok, nmX1, by decide, big_1 (i := 44) rfl rfl, rfl, by decide +kernel⟩
theorem fX5_190 : FD RX5 190 4 1 (.array .int) true := ⟨RX4, TX4, 10, tyX4, rfl, inlX4, tyX4_ok, nmX4, by decide, big_1 (i := 86) rfl rfl, rfl, by decide +kernel⟩
theorem fX5_196 : FD RX5 196 4 8 (.array .int) true := ⟨RX4, TX4, 10, tyX4, rfl, inlX4, tyX4_ok, nmX4, by decide, big_1 (i := 94) rfl rfl, rfl, by decide +kernel⟩
theorem fX5_205 : FD RX5 205 1 0 (.int) false := ⟨RX1, TX1, 8, tyX1, rfl, inlX1, tyX1_ok, nmX1, by decide, big_1 (i := 42) rfl rfl, rfl, by decide +kernel⟩
theorem fX5_208 : FD RX5 208 4 0 (.int) false := ⟨RX4, TX4, 10, tyX4, rfl, inlX4, tyX4_ok, nmX4, by decide, big_1 (i := 84) rfl rfl, rfl, by decide +kernel⟩
theorem fX5_231 : FD RX5 231 2 0 (.int) false := ⟨RX2, TX2, 4, tyX2, rfl, inlX2, tyX2_ok, nmX2, by decide, big_1 (i := 151) rfl rfl, rfl, by decide +kernel⟩
theorem fX6_7 : FD RX6 7 6 0 (.array .int) true := ⟨RX6, TX6, 43, tyX6, rfl, inlX6, tyX6_ok, nmX6, by decide, big_3 (i := 12) rfl rfl, rfl, by decide +kernel⟩
theorem fX6_13 : FD RX6 13 6 1 (.array .int) true := ⟨RX6, TX6, 43, tyX6, rfl, inlX6, tyX6_ok, nmX6, by decide, big_3 (i := 13) rfl rfl, rfl, by decide +kernel⟩
theorem fX6_16 : FD RX6 16 6 2 (.array .int) true := ⟨RX6, TX6, 43, tyX6, rfl, inlX6, tyX6_ok, nmX6, by decide, big_3 (i := 14) rfl rfl, rfl, by decide +kernel⟩
theorem fX6_19 : FD RX6 19 6 3 (.array .int) true := ⟨RX6, TX6, 43, tyX6, rfl, inlX6, tyX6_ok, nmX6, by decide, big_3 (i := 15) rfl rfl, rfl, by decide +kernel⟩
theorem fX6_22 : FD RX6 22 6 4 (.array .int) true := ⟨RX6, TX6, 43, tyX6, rfl, inlX6, tyX6_ok, nmX6, by decide, big_3 (i := 16) rfl rfl, rfl, by decide +kernel⟩
theorem fX6_25 : FD RX6 25 6 5 (.int) false := ⟨RX6, TX6, 43, tyX6, rfl, inlX6, tyX6_ok, nmX6, by decide, big_3 (i := 17) rfl rfl, rfl, by decide +kernel⟩
theorem fX6_29 : FD RX6 29 6 8 (.array .int) true := ⟨RX6, TX6, 43, tyX6, rfl, inlX6, tyX6_ok, nmX6, by decide, big_3 (i := 20) rfl rfl, rfl, by decide +kernel⟩
theorem fX6_32 : FD RX6 32 6 9 (.array .int) true := ⟨RX6, TX6, 43, tyX6, rfl, inlX6, tyX6_ok, nmX6, by decide, big_3 (i := 21) rfl rfl, rfl, by decide +kernel⟩
theorem fX6_35 : FD RX6 35 6 10 (.array .int) true := ⟨RX6, TX6, 43, tyX6, rfl, inlX6, tyX6_ok, nmX6, by decide, big_3 (i := 22) rfl rfl, rfl, by decide +kernel⟩
theorem fX6_38 : FD RX6 38 6 11 (.array .int) true := ⟨RX6, TX6, 43, tyX6, rfl, inlX6, tyX6_ok, nmX6, by decide, big_3 (i := 23) rfl rfl, rfl, by decide +kernel⟩
theorem fX6_41 : FD RX6 41 6 12 (.array .int) true := ⟨RX6, TX6, 43, tyX6, rfl, inlX6, tyX6_ok, nmX6, by decide, big_3 (i := 24) rfl rfl, rfl, by decide +kernel⟩
theorem fX6_44 : FD RX6 44 6 13 (.array .int) true := ⟨RX6, TX6, 43, tyX6, rfl, inlX6, tyX6_ok, nmX6, by decide, big_3 (i := 25) rfl rfl, rfl, by decide +kernel⟩
theorem fX6_47 : FD RX6 47 6 14 (.array .int) true := ⟨RX6, TX6, 43, tyX6, rfl, inlX6, tyX6_ok, nmX6, by decide, big_3 (i := 26) rfl rfl, rfl, by decide +kernel⟩
theorem fX6_50 : FD RX6 50 6 15 (.array .int) true := ⟨RX6, TX6, 43, tyX6, rfl, inlX6, tyX6_ok, nmX6, by decide, big_3 (i := 27) rfl rfl, rfl, by decide +kernel⟩
theorem fX6_53 : FD RX6 53 6 16 (.array .int) true := ⟨RX6, TX6, 43, tyX6, rfl, inlX6, tyX6_ok, nmX6, by decide, big_3 (i := 28) rfl rfl, rfl, by decide +kernel⟩
theorem fX6_56 : FD RX6 56 6 17 (.array .boolean) true := ⟨RX6, TX6, 43, tyX6, rfl, inlX6, tyX6_ok, nmX6, by decide, big_3 (i := 29) rfl rfl, rfl, by decide +kernel⟩
theorem fX6_60 : FD RX6 60 6 18 (.array .boolean) true := ⟨RX6, TX6, 43, tyX6, rfl, inlX6, tyX6_ok, nmX6, by decide, big_3 (i := 30) rfl rfl, rfl, by decide +kernel⟩
theorem fX6_63 : FD RX6 63 6 20 (.array .int) true := ⟨RX6, TX6, 43, tyX6, rfl, inlX6, tyX6_ok, nmX6, by decide, big_3 (i := 32) rfl rfl, rfl, by decide +kernel⟩
theorem fX6_66 : FD RX6 66 6 21 (.array .int) true := ⟨RX6, TX6, 43, tyX6, rfl, inlX6, tyX6_ok, nmX6, by decide, big_3 (i := 33) rfl rfl, rfl, by decide +kernel⟩
theorem fX6_69 : FD RX6 69 6 22 (.array .int) true := ⟨RX6, TX6, 43, tyX6, rfl, inlX6, tyX6_ok, nmX6, by decide, big_3 (i := 34) rfl rfl, rfl, by decide +kernel⟩
theorem fX6_72 : FD RX6 72 6 23 (.array .int) true := ⟨RX6, TX6, 43, tyX6, rfl, inlX6, tyX6_ok, nmX6, by decide, big_3 (i := 35) rfl rfl, rfl, by decide +kernel⟩
theorem fX6_75 : FD RX6 75 6 24 (.array .int) true := ⟨RX6, TX6, 43, tyX6, rfl, inlX6, tyX6_ok, nmX6, by decide, big_3 (i := 36) rfl rfl, rfl, by decide +kernel⟩
theorem fX6_78 : FD RX6 78 6 25 (.array .int) true := ⟨RX6, TX6, 43, tyX6, rfl, inlX6, tyX6_ok, nmX6, by decide, big_3 (i := 37) rfl rfl, rfl, by decide +kernel⟩
theorem fX6_81 : FD RX6 81 6 26 (.array .int) true := ⟨RX6, TX6, 43, tyX6, rfl, inlX6, tyX6_ok, nmX6, by decide, big_3 (i := 38) rfl rfl, rfl, by decide +kernel⟩
theorem fX6_84 : FD RX6 84 6 27 (.array .boolean) true := ⟨RX6, TX6, 43, tyX6, rfl, inlX6, tyX6_ok, nmX6, by decide, big_3 (i := 39) rfl rfl, rfl, by decide +kernel⟩
theorem fX6_87 : FD RX6 87 6 28 (.array .int) true := ⟨RX6, TX6, 43, tyX6, rfl, inlX6, tyX6_ok, nmX6, by decide, big_3 (i := 40) rfl rfl, rfl, by decide +kernel⟩
theorem fX6_90 : FD RX6 90 6 29 (.int) false := ⟨RX6, TX6, 43, tyX6, rfl, inlX6, tyX6_ok, nmX6, by decide, big_3 (i := 41) rfl rfl, rfl, by decide +kernel⟩
theorem fX6_93 : FD RX6 93 6 42 (.array .boolean) true := ⟨RX6, TX6, 43, tyX6, rfl, inlX6, tyX6_ok, nmX6, by decide, big_3 (i := 54) rfl rfl, rfl, by decide +kernel⟩
theorem fX6_97 : FD RX6 97 6 7 (.int) false := ⟨RX6, TX6, 43, tyX6, rfl, inlX6, tyX6_ok, nmX6, by decide, big_3 (i := 19) rfl rfl, rfl, by decide +kernel⟩
theorem fX6_104 : FD RX6 104 6 19 (.int) false := ⟨RX6, TX6, 43, tyX6, rfl, inlX6, tyX6_ok, nmX6, by decide, big_3 (i := 31) rfl rfl, rfl, by decide +kernel⟩
theorem fX6_121 : FD RX6 121 6 30 (.int) false := ⟨RX6, TX6, 43, tyX6, rfl, inlX6, tyX6_ok, nmX6, by decide, big_3 (i := 42) rfl rfl, rfl, by decide +kernel⟩
theorem fX6_124 : FD RX6 124 6 36 (.int) false := ⟨RX6, TX6, 43, tyX6, rfl, inlX6, tyX6_ok, nmX6, by decide, big_3 (i := 48) rfl rfl, rfl, by decide +kernel⟩
theorem fX6_127 : FD RX6 127 6 37 (.int) false := ⟨RX6, TX6, 43, tyX6, rfl, inlX6, tyX6_ok, nmX6, by decide, big_3 (i := 49) rfl rfl, rfl, by decide +kernel⟩
theorem fX6_130 : FD RX6 130 6 38 (.int) false := ⟨RX6, TX6, 43, tyX6, rfl, inlX6, tyX6_ok, nmX6, by decide, big_3 (i := 50) rfl rfl, rfl, by decide +kernel⟩
theorem fX6_133 : FD RX6 133 6 39 (.int) false := ⟨RX6, TX6, 43, tyX6, rfl, inlX6, tyX6_ok, nmX6, by decide, big_3 (i := 51) rfl rfl, rfl, by decide +kernel⟩
theorem fX6_136 : FD RX6 136 6 40 (.int) false := ⟨RX6, TX6, 43, tyX6, rfl, inlX6, tyX6_ok, nmX6, by decide, big_3 (i := 52) rfl rfl, rfl, by decide +kernel⟩
theorem fX6_139 : FD RX6 139 6 41 (.int) false := ⟨RX6, TX6, 43, tyX6, rfl, inlX6, tyX6_ok, nmX6, by decide, big_3 (i := 53) rfl rfl, rfl, by decide +kernel⟩
theorem fX6_142 : FD RX6 142 6 35 (.boolean) false := ⟨RX6, TX6, 43, tyX6, rfl, inlX6, tyX6_ok, nmX6, by decide, big_3 (i := 47) rfl rfl, rfl, by decide +kernel⟩
theorem fX6_146 : FD RX6 146 6 32 (.int) false := ⟨RX6, TX6, 43, tyX6, rfl, inlX6, tyX6_ok, nmX6, by decide, big_3 (i := 44) rfl rfl, rfl, by decide +kernel⟩
theorem fX6_149 : FD RX6 149 6 31 (.int) false := ⟨RX6, TX6, 43, tyX6, rfl, inlX6, tyX6_ok, nmX6, by decide, big_3 (i := 43) rfl rfl, rfl, by decide +kernel⟩
theorem fX6_152 : FD RX6 152 6 34 (.int) false := ⟨RX6, TX6, 43, tyX6, rfl, inlX6, tyX6_ok, nmX6, by decide, big_3 (i := 46) rfl rfl, rfl, by decide +kernel⟩
theorem fX6_155 : FD RX6 155 6 33 (.int) false := ⟨RX6, TX6, 43, tyX6, rfl, inlX6, tyX6_ok, nmX6, by decide, big_3 (i := 45) rfl rfl, rfl, by decide +kernel⟩
theorem fX6_222 : FD RX6 222 6 6 (.int) false := ⟨RX6, TX6, 43, tyX6, rfl, inlX6, tyX6_ok, nmX6, by decide, big_3 (i := 18) rfl rfl, rfl, by decide +kernel⟩
theorem vL_13 : CwV RL 13 yX5_minute cX5_minute 5 (some .int) 4 := ⟨⟨big_1 (i := 201) rfl rfl, big_1 (i := 1) rfl rfl, big_1 (i := 198) rfl rfl, by decide +kernel⟩, big_1 (i := 199) rfl rfl, big_1 (i := 200) rfl rfl⟩
theorem vL_17 : CwV RL 17 yX6_minute cX6_minute 6 (some .int) 4 := ⟨⟨big_3 (i := 145) rfl rfl, big_1 (i := 8) rfl rfl, big_3 (i := 142) rfl rfl, by decide +kernel⟩, big_3 (i := 143) rfl rfl, big_3 (i := 144) rfl rfl⟩
theorem vL_18 : CwV RL 18 yX5_block cX5_block 8 (some .int) 7 := ⟨⟨big_1 (i := 224) rfl rfl, big_1 (i := 1) rfl rfl, big_1 (i := 221) rfl rfl, by decide +kernel⟩, big_1 (i := 222) rfl rfl, big_1 (i := 223) rfl rfl⟩
theorem vL_22 : CwV RL 22 yX6_block cX6_block 8 (some .int) 7 := ⟨⟨big_3 (i := 159) rfl rfl, big_1 (i := 8) rfl rfl, big_3 (i := 156) rfl rfl, by decide +kernel⟩, big_3 (i := 157) rfl rfl, big_3 (i := 158) rfl rfl⟩
theorem vL_23 : CwV RL 23 yX5_share cX5_share 6 (some .int) 3 := ⟨⟨big_1 (i := 236) rfl rfl, big_1 (i := 1) rfl rfl, big_1 (i := 233) rfl rfl, by decide +kernel⟩, big_1 (i := 234) rfl rfl, big_1 (i := 235) rfl rfl⟩
theorem vL_27 : CwV RL 27 yX6_share cX6_share 5 (some .int) 3 := ⟨⟨big_3 (i := 163) rfl rfl, big_1 (i := 8) rfl rfl, big_3 (i := 160) rfl rfl, by decide +kernel⟩, big_3 (i := 161) rfl rfl, big_3 (i := 162) rfl rfl⟩
theorem vL_28 : CwV RL 28 yX5_most cX5_most 5 (some .int) 2 := ⟨⟨big_2 (i := 8) rfl rfl, big_1 (i := 1) rfl rfl, big_2 (i := 5) rfl rfl, by decide +kernel⟩, big_2 (i := 6) rfl rfl, big_2 (i := 7) rfl rfl⟩
theorem vL_32 : CwV RL 32 yX6_most cX6_most 4 (some .int) 2 := ⟨⟨big_3 (i := 171) rfl rfl, big_1 (i := 8) rfl rfl, big_3 (i := 168) rfl rfl, by decide +kernel⟩, big_3 (i := 169) rfl rfl, big_3 (i := 170) rfl rfl⟩
theorem vL_33 : CwV RL 33 yX5_cut cX5_cut 5 (some .int) 2 := ⟨⟨big_2 (i := 16) rfl rfl, big_1 (i := 1) rfl rfl, big_2 (i := 13) rfl rfl, by decide +kernel⟩, big_2 (i := 14) rfl rfl, big_2 (i := 15) rfl rfl⟩
theorem vL_36 : CwV RL 36 yX6_cut cX6_cut 4 (some .int) 2 := ⟨⟨big_3 (i := 175) rfl rfl, big_1 (i := 8) rfl rfl, big_3 (i := 172) rfl rfl, by decide +kernel⟩, big_3 (i := 173) rfl rfl, big_3 (i := 174) rfl rfl⟩
theorem vL_37 : CwV RL 37 yX5_build cX5_build 3 (some .int) 1 := ⟨⟨big_2 (i := 28) rfl rfl, big_1 (i := 1) rfl rfl, big_2 (i := 25) rfl rfl, by decide +kernel⟩, big_2 (i := 26) rfl rfl, big_2 (i := 27) rfl rfl⟩
theorem vL_41 : CwV RL 41 yX6_build cX6_build 3 (some .int) 1 := ⟨⟨big_3 (i := 179) rfl rfl, big_1 (i := 8) rfl rfl, big_3 (i := 176) rfl rfl, by decide +kernel⟩, big_3 (i := 177) rfl rfl, big_3 (i := 178) rfl rfl⟩
theorem vL_42 : CwV RL 42 yX5_go cX5_go 2 (some .int) 1 := ⟨⟨big_2 (i := 36) rfl rfl, big_1 (i := 1) rfl rfl, big_2 (i := 33) rfl rfl, by decide +kernel⟩, big_2 (i := 34) rfl rfl, big_2 (i := 35) rfl rfl⟩
theorem vL_45 : CwV RL 45 yX6_go cX6_go 2 (some .int) 1 := ⟨⟨big_3 (i := 187) rfl rfl, big_1 (i := 8) rfl rfl, big_3 (i := 184) rfl rfl, by decide +kernel⟩, big_3 (i := 185) rfl rfl, big_3 (i := 186) rfl rfl⟩
theorem vL_46 : CwV RL 46 yX5_window cX5_window 7 (some .int) 6 := ⟨⟨big_2 (i := 41) rfl rfl, big_1 (i := 1) rfl rfl, big_2 (i := 38) rfl rfl, by decide +kernel⟩, big_2 (i := 39) rfl rfl, big_2 (i := 40) rfl rfl⟩
theorem vL_50 : CwV RL 50 yX6_window cX6_window 7 (some .int) 6 := ⟨⟨big_3 (i := 191) rfl rfl, big_1 (i := 8) rfl rfl, big_3 (i := 188) rfl rfl, by decide +kernel⟩, big_3 (i := 189) rfl rfl, big_3 (i := 190) rfl rfl⟩
theorem vL_51 : CwV RL 51 yX5_part cX5_part 3 (some .int) 1 := ⟨⟨big_2 (i := 53) rfl rfl, big_1 (i := 1) rfl rfl, big_2 (i := 50) rfl rfl, by decide +kernel⟩, big_2 (i := 51) rfl rfl, big_2 (i := 52) rfl rfl⟩
theorem vL_54 : CwV RL 54 yX6_part cX6_part 3 (some .int) 1 := ⟨⟨big_3 (i := 195) rfl rfl, big_1 (i := 8) rfl rfl, big_3 (i := 192) rfl rfl, by decide +kernel⟩, big_3 (i := 193) rfl rfl, big_3 (i := 194) rfl rfl⟩
theorem vL_55 : CwV RL 55 yX5_law cX5_law 4 (some .int) 2 := ⟨⟨big_2 (i := 57) rfl rfl, big_1 (i := 1) rfl rfl, big_2 (i := 54) rfl rfl, by decide +kernel⟩, big_2 (i := 55) rfl rfl, big_2 (i := 56) rfl rfl⟩
theorem vL_58 : CwV RL 58 yX6_law cX6_law 4 (some .int) 2 := ⟨⟨big_3 (i := 199) rfl rfl, big_1 (i := 8) rfl rfl, big_3 (i := 196) rfl rfl, by decide +kernel⟩, big_3 (i := 197) rfl rfl, big_3 (i := 198) rfl rfl⟩
theorem vL_59 : CwV RL 59 yX5_sun cX5_sun 4 (some .int) 3 := ⟨⟨big_2 (i := 61) rfl rfl, big_1 (i := 1) rfl rfl, big_2 (i := 58) rfl rfl, by decide +kernel⟩, big_2 (i := 59) rfl rfl, big_2 (i := 60) rfl rfl⟩
theorem vL_62 : CwV RL 62 yX6_sun cX6_sun 4 (some .int) 3 := ⟨⟨big_3 (i := 203) rfl rfl, big_1 (i := 8) rfl rfl, big_3 (i := 200) rfl rfl, by decide +kernel⟩, big_3 (i := 201) rfl rfl, big_3 (i := 202) rfl rfl⟩
theorem vL_63 : CwV RL 63 yX5_light cX5_light 5 (some .int) 4 := ⟨⟨big_2 (i := 125) rfl rfl, big_1 (i := 1) rfl rfl, big_2 (i := 122) rfl rfl, by decide +kernel⟩, big_2 (i := 123) rfl rfl, big_2 (i := 124) rfl rfl⟩
theorem vL_66 : CwV RL 66 yX6_light cX6_light 5 (some .int) 4 := ⟨⟨big_4 (i := 11) rfl rfl, big_1 (i := 8) rfl rfl, big_4 (i := 8) rfl rfl, by decide +kernel⟩, big_4 (i := 9) rfl rfl, big_4 (i := 10) rfl rfl⟩
theorem vL_67 : CwV RL 67 yX5_taker cX5_taker 5 (some .int) 4 := ⟨⟨big_2 (i := 135) rfl rfl, big_1 (i := 1) rfl rfl, big_2 (i := 132) rfl rfl, by decide +kernel⟩, big_2 (i := 133) rfl rfl, big_2 (i := 134) rfl rfl⟩
theorem vL_70 : CwV RL 70 yX6_taker cX6_taker 5 (some .int) 4 := ⟨⟨big_4 (i := 15) rfl rfl, big_1 (i := 8) rfl rfl, big_4 (i := 12) rfl rfl, by decide +kernel⟩, big_4 (i := 13) rfl rfl, big_4 (i := 14) rfl rfl⟩
theorem vL_71 : CwV RL 71 yX5_takes cX5_takes 6 (some .int) 3 := ⟨⟨big_2 (i := 148) rfl rfl, big_1 (i := 1) rfl rfl, big_2 (i := 145) rfl rfl, by decide +kernel⟩, big_2 (i := 146) rfl rfl, big_2 (i := 147) rfl rfl⟩
theorem vL_74 : CwV RL 74 yX6_takes cX6_takes 7 (some .int) 3 := ⟨⟨big_4 (i := 28) rfl rfl, big_1 (i := 8) rfl rfl, big_4 (i := 25) rfl rfl, by decide +kernel⟩, big_4 (i := 26) rfl rfl, big_4 (i := 27) rfl rfl⟩
theorem vL_75 : CwV RL 75 yX5_hours cX5_hours 3 (some .int) 2 := ⟨⟨big_2 (i := 156) rfl rfl, big_1 (i := 1) rfl rfl, big_2 (i := 153) rfl rfl, by decide +kernel⟩, big_2 (i := 154) rfl rfl, big_2 (i := 155) rfl rfl⟩
theorem vL_78 : CwV RL 78 yX6_hours cX6_hours 3 (some .int) 2 := ⟨⟨big_4 (i := 32) rfl rfl, big_1 (i := 8) rfl rfl, big_4 (i := 29) rfl rfl, by decide +kernel⟩, big_4 (i := 30) rfl rfl, big_4 (i := 31) rfl rfl⟩
theorem vL_79 : CwV RL 79 yX5_loss cX5_loss 6 (some .int) 3 := ⟨⟨big_2 (i := 174) rfl rfl, big_1 (i := 1) rfl rfl, big_2 (i := 171) rfl rfl, by decide +kernel⟩, big_2 (i := 172) rfl rfl, big_2 (i := 173) rfl rfl⟩
theorem vL_82 : CwV RL 82 yX6_loss cX6_loss 7 (some .int) 3 := ⟨⟨big_4 (i := 40) rfl rfl, big_1 (i := 8) rfl rfl, big_4 (i := 37) rfl rfl, by decide +kernel⟩, big_4 (i := 38) rfl rfl, big_4 (i := 39) rfl rfl⟩
theorem vL_83 : CwV RL 83 yX5_high cX5_high 5 (some .int) 1 := ⟨⟨big_2 (i := 182) rfl rfl, big_1 (i := 1) rfl rfl, big_2 (i := 179) rfl rfl, by decide +kernel⟩, big_2 (i := 180) rfl rfl, big_2 (i := 181) rfl rfl⟩
theorem vL_86 : CwV RL 86 yX6_high cX6_high 6 (some .int) 1 := ⟨⟨big_4 (i := 48) rfl rfl, big_1 (i := 8) rfl rfl, big_4 (i := 45) rfl rfl, by decide +kernel⟩, big_4 (i := 46) rfl rfl, big_4 (i := 47) rfl rfl⟩
theorem vL_87 : CwV RL 87 yX5_breach cX5_breach 4 (some .int) 2 := ⟨⟨big_2 (i := 202) rfl rfl, big_1 (i := 1) rfl rfl, big_2 (i := 199) rfl rfl, by decide +kernel⟩, big_2 (i := 200) rfl rfl, big_2 (i := 201) rfl rfl⟩
theorem vL_90 : CwV RL 90 yX6_breach cX6_breach 4 (some .int) 2 := ⟨⟨big_4 (i := 68) rfl rfl, big_1 (i := 8) rfl rfl, big_4 (i := 65) rfl rfl, by decide +kernel⟩, big_4 (i := 66) rfl rfl, big_4 (i := 67) rfl rfl⟩
theorem vL_91 : CwV RL 91 yX5_years cX5_years 3 (some .int) 1 := ⟨⟨big_2 (i := 206) rfl rfl, big_1 (i := 1) rfl rfl, big_2 (i := 203) rfl rfl, by decide +kernel⟩, big_2 (i := 204) rfl rfl, big_2 (i := 205) rfl rfl⟩
theorem vL_94 : CwV RL 94 yX6_years cX6_years 4 (some .int) 1 := ⟨⟨big_4 (i := 72) rfl rfl, big_1 (i := 8) rfl rfl, big_4 (i := 69) rfl rfl, by decide +kernel⟩, big_4 (i := 70) rfl rfl, big_4 (i := 71) rfl rfl⟩
theorem vL_95 : CwV RL 95 yX5_release cX5_release 2 (some .boolean) 1 := ⟨⟨big_2 (i := 220) rfl rfl, big_1 (i := 1) rfl rfl, big_2 (i := 217) rfl rfl, by decide +kernel⟩, big_2 (i := 218) rfl rfl, big_2 (i := 219) rfl rfl⟩
theorem vL_99 : CwV RL 99 yX6_release cX6_release 2 (some .boolean) 1 := ⟨⟨big_4 (i := 76) rfl rfl, big_1 (i := 8) rfl rfl, big_4 (i := 73) rfl rfl, by decide +kernel⟩, big_4 (i := 74) rfl rfl, big_4 (i := 75) rfl rfl⟩
theorem vL_100 : CwV RL 100 yX5_blockOf cX5_blockOf 3 (some .int) 2 := ⟨⟨big_2 (i := 224) rfl rfl, big_1 (i := 1) rfl rfl, big_2 (i := 221) rfl rfl, by decide +kernel⟩, big_2 (i := 222) rfl rfl, big_2 (i := 223) rfl rfl⟩
theorem vL_103 : CwV RL 103 yX6_blockOf cX6_blockOf 3 (some .int) 2 := ⟨⟨big_4 (i := 80) rfl rfl, big_1 (i := 8) rfl rfl, big_4 (i := 77) rfl rfl, by decide +kernel⟩, big_4 (i := 78) rfl rfl, big_4 (i := 79) rfl rfl⟩
theorem vL_104 : CwV RL 104 yX5_windowOf cX5_windowOf 3 (some .int) 2 := ⟨⟨big_2 (i := 228) rfl rfl, big_1 (i := 1) rfl rfl, big_2 (i := 225) rfl rfl, by decide +kernel⟩, big_2 (i := 226) rfl rfl, big_2 (i := 227) rfl rfl⟩
theorem vL_107 : CwV RL 107 yX6_windowOf cX6_windowOf 3 (some .int) 2 := ⟨⟨big_4 (i := 84) rfl rfl, big_1 (i := 8) rfl rfl, big_4 (i := 81) rfl rfl, by decide +kernel⟩, big_4 (i := 82) rfl rfl, big_4 (i := 83) rfl rfl⟩
theorem vL_108 : CwV RL 108 yX5_count cX5_count 2 (some .int) 1 := ⟨⟨big_2 (i := 232) rfl rfl, big_1 (i := 1) rfl rfl, big_2 (i := 229) rfl rfl, by decide +kernel⟩, big_2 (i := 230) rfl rfl, big_2 (i := 231) rfl rfl⟩
theorem vL_111 : CwV RL 111 yX6_count cX6_count 4 (some .int) 1 := ⟨⟨big_4 (i := 88) rfl rfl, big_1 (i := 8) rfl rfl, big_4 (i := 85) rfl rfl, by decide +kernel⟩, big_4 (i := 86) rfl rfl, big_4 (i := 87) rfl rfl⟩
theorem vX1_38 : CwV RX1 38 yX1_has cX1_has 2 (some .boolean) 1 := ⟨⟨big_2 (i := 4) rfl rfl, big_1 (i := 3) rfl rfl, big_2 (i := 1) rfl rfl, by decide +kernel⟩, big_2 (i := 2) rfl rfl, big_2 (i := 3) rfl rfl⟩
theorem vX1_42 : CwV RX1 42 yX1_topOf cX1_topOf 2 (some .int) 1 := ⟨⟨big_2 (i := 12) rfl rfl, big_1 (i := 3) rfl rfl, big_2 (i := 215) rfl rfl, by decide +kernel⟩, big_2 (i := 10) rfl rfl, big_2 (i := 11) rfl rfl⟩
theorem vX1_46 : CwV RX1 46 yX1_setTop cX1_setTop 3 (none) 2 := ⟨⟨big_2 (i := 24) rfl rfl, big_1 (i := 3) rfl rfl, big_2 (i := 216) rfl rfl, by decide +kernel⟩, big_2 (i := 22) rfl rfl, big_2 (i := 23) rfl rfl⟩
theorem vX2_31 : CwV RX2 31 yX1_topOf cX1_topOf 2 (some .int) 1 := ⟨⟨big_2 (i := 12) rfl rfl, big_1 (i := 3) rfl rfl, big_2 (i := 106) rfl rfl, by decide +kernel⟩, big_2 (i := 10) rfl rfl, big_2 (i := 11) rfl rfl⟩
theorem vX2_39 : CwV RX2 39 yX0_meets cX0_meets 13 (some .boolean) 3 := ⟨⟨big_2 (i := 110) rfl rfl, big_1 (i := 5) rfl rfl, big_2 (i := 107) rfl rfl, by decide +kernel⟩, big_2 (i := 108) rfl rfl, big_2 (i := 109) rfl rfl⟩
theorem nX3_18 : CwN RX3 18 yX5_isDay cX5_isDay 1 (some .boolean) 1 := ⟨big_1 (i := 204) rfl rfl, big_1 (i := 1) rfl rfl, by simp [nestW, RX3], by decide +kernel⟩
theorem nsX3_18 : Cond.static yX5_isDay ∈ lw_big := big_1 (i := 203) rfl rfl
theorem vX4_44 : CwV RX4 44 yX4_has cX4_has 2 (some .boolean) 1 := ⟨⟨big_2 (i := 65) rfl rfl, big_1 (i := 4) rfl rfl, big_2 (i := 130) rfl rfl, by decide +kernel⟩, big_2 (i := 63) rfl rfl, big_2 (i := 64) rfl rfl⟩
theorem vX4_48 : CwV RX4 48 yX4_cellsOf cX4_cellsOf 2 (some .int) 1 := ⟨⟨big_2 (i := 90) rfl rfl, big_1 (i := 4) rfl rfl, big_2 (i := 131) rfl rfl, by decide +kernel⟩, big_2 (i := 88) rfl rfl, big_2 (i := 89) rfl rfl⟩
theorem vX4_52 : CwV RX4 52 yX4_isKept cX4_isKept 2 (some .boolean) 1 := ⟨⟨big_2 (i := 190) rfl rfl, big_1 (i := 4) rfl rfl, big_3 (i := 5) rfl rfl, by decide +kernel⟩, big_2 (i := 188) rfl rfl, big_2 (i := 189) rfl rfl⟩
theorem vX4_60 : CwS RX4 60 yJ9_max_7cf53 cJ9_max_7cf53 2 (some .int) 2 := ⟨⟨big_2 (i := 117) rfl rfl, big_1 (i := 9) rfl rfl, big_2 (i := 115) rfl rfl, by decide +kernel⟩, big_2 (i := 116) rfl rfl⟩
theorem vX4_66 : CwS RX4 66 yX4_middle cX4_middle 1 (some .int) 1 := ⟨⟨big_2 (i := 101) rfl rfl, big_1 (i := 4) rfl rfl, big_2 (i := 99) rfl rfl, by decide +kernel⟩, big_2 (i := 100) rfl rfl⟩
theorem vX4_69 : CwV RX4 69 yX0_startAt cX0_startAt 4 (none) 3 := ⟨⟨big_2 (i := 98) rfl rfl, big_1 (i := 5) rfl rfl, big_2 (i := 95) rfl rfl, by decide +kernel⟩, big_2 (i := 96) rfl rfl, big_2 (i := 97) rfl rfl⟩
theorem vX5_61 : CwS RX5 61 yJ7_fill_53178 cJ7_fill_53178 4 (none) 2 := ⟨⟨big_1 (i := 166) rfl rfl, big_1 (i := 7) rfl rfl, big_1 (i := 164) rfl rfl, by decide +kernel⟩, big_1 (i := 165) rfl rfl⟩
theorem vX5_67 : CwS RX5 67 yX5_isDay cX5_isDay 1 (some .boolean) 1 := ⟨⟨big_1 (i := 204) rfl rfl, big_1 (i := 1) rfl rfl, big_1 (i := 202) rfl rfl, by decide +kernel⟩, big_1 (i := 203) rfl rfl⟩
theorem vX5_71 : CwV RX5 71 yX5_refuse cX5_refuse 2 (some .int) 1 := ⟨⟨big_1 (i := 208) rfl rfl, big_1 (i := 1) rfl rfl, big_1 (i := 205) rfl rfl, by decide +kernel⟩, big_1 (i := 207) rfl rfl, big_s (i := 0) rfl rfl⟩
theorem vX5_75 : CwV RX5 75 yX3_isFull cX3_isFull 2 (some .boolean) 1 := ⟨⟨big_1 (i := 212) rfl rfl, big_1 (i := 2) rfl rfl, big_1 (i := 209) rfl rfl, by decide +kernel⟩, big_1 (i := 210) rfl rfl, big_1 (i := 211) rfl rfl⟩
theorem vX5_78 : CwV RX5 78 yX5_forgetLight cX5_forgetLight 1 (none) 0 := ⟨⟨big_1 (i := 216) rfl rfl, big_1 (i := 1) rfl rfl, big_1 (i := 213) rfl rfl, by decide +kernel⟩, big_1 (i := 215) rfl rfl, big_s (i := 1) rfl rfl⟩
theorem vX5_81 : CwV RX5 81 yX3_add cX3_add 7 (some .int) 4 := ⟨⟨big_1 (i := 220) rfl rfl, big_1 (i := 2) rfl rfl, big_1 (i := 217) rfl rfl, by decide +kernel⟩, big_1 (i := 218) rfl rfl, big_1 (i := 219) rfl rfl⟩
theorem vX5_85 : CwV RX5 85 yX1_isFull cX1_isFull 1 (some .boolean) 0 := ⟨⟨big_1 (i := 228) rfl rfl, big_1 (i := 3) rfl rfl, big_1 (i := 225) rfl rfl, by decide +kernel⟩, big_1 (i := 226) rfl rfl, big_1 (i := 227) rfl rfl⟩
theorem vX5_88 : CwV RX5 88 yX1_add cX1_add 10 (some .int) 7 := ⟨⟨big_1 (i := 232) rfl rfl, big_1 (i := 3) rfl rfl, big_1 (i := 229) rfl rfl, by decide +kernel⟩, big_1 (i := 230) rfl rfl, big_1 (i := 231) rfl rfl⟩
theorem vX5_91 : CwV RX5 91 yX1_treeFault cX1_treeFault 2 (some .int) 1 := ⟨⟨big_2 (i := 0) rfl rfl, big_1 (i := 3) rfl rfl, big_1 (i := 237) rfl rfl, by decide +kernel⟩, big_1 (i := 238) rfl rfl, big_1 (i := 239) rfl rfl⟩
theorem vX5_97 : CwV RX5 97 yX1_topOf cX1_topOf 2 (some .int) 1 := ⟨⟨big_2 (i := 12) rfl rfl, big_1 (i := 3) rfl rfl, big_2 (i := 9) rfl rfl, by decide +kernel⟩, big_2 (i := 10) rfl rfl, big_2 (i := 11) rfl rfl⟩
theorem vX5_107 : CwV RX5 107 yX1_footOf cX1_footOf 2 (some .int) 1 := ⟨⟨big_2 (i := 20) rfl rfl, big_1 (i := 3) rfl rfl, big_2 (i := 17) rfl rfl, by decide +kernel⟩, big_2 (i := 18) rfl rfl, big_2 (i := 19) rfl rfl⟩
theorem vX5_110 : CwV RX5 110 yX1_setTop cX1_setTop 3 (none) 2 := ⟨⟨big_2 (i := 24) rfl rfl, big_1 (i := 3) rfl rfl, big_2 (i := 21) rfl rfl, by decide +kernel⟩, big_2 (i := 22) rfl rfl, big_2 (i := 23) rfl rfl⟩
theorem vX5_114 : CwV RX5 114 yX1_planFault cX1_planFault 2 (some .int) 1 := ⟨⟨big_2 (i := 32) rfl rfl, big_1 (i := 3) rfl rfl, big_2 (i := 29) rfl rfl, by decide +kernel⟩, big_2 (i := 30) rfl rfl, big_2 (i := 31) rfl rfl⟩
theorem vX5_120 : CwV RX5 120 yX1_has cX1_has 2 (some .boolean) 1 := ⟨⟨big_2 (i := 4) rfl rfl, big_1 (i := 3) rfl rfl, big_2 (i := 37) rfl rfl, by decide +kernel⟩, big_2 (i := 2) rfl rfl, big_2 (i := 3) rfl rfl⟩
theorem vX5_123 : CwV RX5 123 yX4_isFull cX4_isFull 1 (some .boolean) 0 := ⟨⟨big_2 (i := 45) rfl rfl, big_1 (i := 4) rfl rfl, big_2 (i := 42) rfl rfl, by decide +kernel⟩, big_2 (i := 43) rfl rfl, big_2 (i := 44) rfl rfl⟩
theorem vX5_124 : CwV RX5 124 yX4_add cX4_add 8 (some .int) 6 := ⟨⟨big_2 (i := 49) rfl rfl, big_1 (i := 4) rfl rfl, big_2 (i := 46) rfl rfl, by decide +kernel⟩, big_2 (i := 47) rfl rfl, big_2 (i := 48) rfl rfl⟩
theorem vX5_127 : CwV RX5 127 yX4_has cX4_has 2 (some .boolean) 1 := ⟨⟨big_2 (i := 65) rfl rfl, big_1 (i := 4) rfl rfl, big_2 (i := 62) rfl rfl, by decide +kernel⟩, big_2 (i := 63) rfl rfl, big_2 (i := 64) rfl rfl⟩
theorem vX5_128 : CwV RX5 128 yX3_has cX3_has 3 (some .boolean) 2 := ⟨⟨big_2 (i := 69) rfl rfl, big_1 (i := 2) rfl rfl, big_2 (i := 66) rfl rfl, by decide +kernel⟩, big_2 (i := 67) rfl rfl, big_2 (i := 68) rfl rfl⟩
theorem vX5_131 : CwV RX5 131 yX5_sunAt cX5_sunAt 9 (some .int) 5 := ⟨⟨big_2 (i := 74) rfl rfl, big_1 (i := 1) rfl rfl, big_2 (i := 71) rfl rfl, by decide +kernel⟩, big_2 (i := 73) rfl rfl, big_s (i := 2) rfl rfl⟩
theorem vX5_135 : CwV RX5 135 yX4_hasCell cX4_hasCell 3 (some .boolean) 2 := ⟨⟨big_2 (i := 129) rfl rfl, big_1 (i := 4) rfl rfl, big_2 (i := 126) rfl rfl, by decide +kernel⟩, big_2 (i := 127) rfl rfl, big_2 (i := 128) rfl rfl⟩
theorem vX5_138 : CwV RX5 138 yX5_aim cX5_aim 4 (some .boolean) 3 := ⟨⟨big_2 (i := 78) rfl rfl, big_1 (i := 1) rfl rfl, big_2 (i := 75) rfl rfl, by decide +kernel⟩, big_2 (i := 77) rfl rfl, big_s (i := 3) rfl rfl⟩
theorem vX5_142 : CwV RX5 142 yX4_standOn cX4_standOn 8 (none) 3 := ⟨⟨big_2 (i := 114) rfl rfl, big_1 (i := 4) rfl rfl, big_2 (i := 111) rfl rfl, by decide +kernel⟩, big_2 (i := 112) rfl rfl, big_2 (i := 113) rfl rfl⟩
theorem vX5_146 : CwV RX5 146 yX2_gather cX2_gather 11 (none) 5 := ⟨⟨big_2 (i := 105) rfl rfl, big_1 (i := 6) rfl rfl, big_2 (i := 102) rfl rfl, by decide +kernel⟩, big_2 (i := 103) rfl rfl, big_2 (i := 104) rfl rfl⟩
theorem vX5_150 : CwV RX5 150 yX2_lightAlong cX2_lightAlong 5 (some .int) 2 := ⟨⟨big_2 (i := 121) rfl rfl, big_1 (i := 6) rfl rfl, big_2 (i := 118) rfl rfl, by decide +kernel⟩, big_2 (i := 119) rfl rfl, big_2 (i := 120) rfl rfl⟩
theorem vX5_154 : CwV RX5 154 yX5_refuseAsTold cX5_refuseAsTold 2 (some .int) 1 := ⟨⟨big_2 (i := 139) rfl rfl, big_1 (i := 1) rfl rfl, big_2 (i := 136) rfl rfl, by decide +kernel⟩, big_2 (i := 138) rfl rfl, big_s (i := 4) rfl rfl⟩
theorem vX5_157 : CwV RX5 157 yX2_nearestAlong cX2_nearestAlong 7 (some .int) 2 := ⟨⟨big_2 (i := 144) rfl rfl, big_1 (i := 6) rfl rfl, big_2 (i := 141) rfl rfl, by decide +kernel⟩, big_2 (i := 142) rfl rfl, big_2 (i := 143) rfl rfl⟩
theorem vX5_163 : CwV RX5 163 yX5_cellsTaken cX5_cellsTaken 7 (some .int) 4 := ⟨⟨big_2 (i := 152) rfl rfl, big_1 (i := 1) rfl rfl, big_2 (i := 149) rfl rfl, by decide +kernel⟩, big_2 (i := 151) rfl rfl, big_s (i := 5) rfl rfl⟩
theorem vX5_166 : CwV RX5 166 yX5_litMinutes cX5_litMinutes 6 (some .int) 2 := ⟨⟨big_2 (i := 160) rfl rfl, big_1 (i := 1) rfl rfl, big_2 (i := 157) rfl rfl, by decide +kernel⟩, big_2 (i := 159) rfl rfl, big_s (i := 6) rfl rfl⟩
theorem vX5_170 : CwS RX5 170 yJ6_bitCount_0f7a4 cJ6_bitCount_0f7a4 1 (some .int) 1 := ⟨⟨big_2 (i := 167) rfl rfl, big_1 (i := 10) rfl rfl, big_2 (i := 165) rfl rfl, by decide +kernel⟩, big_2 (i := 166) rfl rfl⟩
theorem vX5_175 : CwV RX5 175 yX5_hoursWith cX5_hoursWith 9 (some .int) 5 := ⟨⟨big_2 (i := 178) rfl rfl, big_1 (i := 1) rfl rfl, big_2 (i := 175) rfl rfl, by decide +kernel⟩, big_2 (i := 177) rfl rfl, big_s (i := 8) rfl rfl⟩
theorem vX5_178 : CwV RX5 178 yX5_firstBreach cX5_firstBreach 5 (some .int) 2 := ⟨⟨big_2 (i := 186) rfl rfl, big_1 (i := 1) rfl rfl, big_2 (i := 183) rfl rfl, by decide +kernel⟩, big_2 (i := 185) rfl rfl, big_s (i := 9) rfl rfl⟩
theorem vX5_181 : CwV RX5 181 yX5_passYear cX5_passYear 3 (none) 0 := ⟨⟨big_2 (i := 210) rfl rfl, big_1 (i := 1) rfl rfl, big_2 (i := 207) rfl rfl, by decide +kernel⟩, big_2 (i := 209) rfl rfl, big_s (i := 12) rfl rfl⟩
theorem vX5_193 : CwV RX5 193 yX4_cellsOf cX4_cellsOf 2 (some .int) 1 := ⟨⟨big_2 (i := 90) rfl rfl, big_1 (i := 4) rfl rfl, big_2 (i := 87) rfl rfl, by decide +kernel⟩, big_2 (i := 88) rfl rfl, big_2 (i := 89) rfl rfl⟩
theorem vX5_199 : CwV RX5 199 yX5_firstFall cX5_firstFall 4 (some .int) 1 := ⟨⟨big_2 (i := 194) rfl rfl, big_1 (i := 1) rfl rfl, big_2 (i := 191) rfl rfl, by decide +kernel⟩, big_2 (i := 193) rfl rfl, big_s (i := 10) rfl rfl⟩
theorem vX5_202 : CwV RX5 202 yX4_isKept cX4_isKept 2 (some .boolean) 1 := ⟨⟨big_2 (i := 190) rfl rfl, big_1 (i := 4) rfl rfl, big_2 (i := 187) rfl rfl, by decide +kernel⟩, big_2 (i := 188) rfl rfl, big_2 (i := 189) rfl rfl⟩
theorem vX5_209 : CwV RX5 209 yX3_minutesInAll cX3_minutesInAll 3 (some .int) 0 := ⟨⟨big_2 (i := 236) rfl rfl, big_1 (i := 2) rfl rfl, big_2 (i := 233) rfl rfl, by decide +kernel⟩, big_2 (i := 234) rfl rfl, big_2 (i := 235) rfl rfl⟩
theorem vX5_213 : CwV RX5 213 yX5_lawfulWindows cX5_lawfulWindows 3 (some .int) 0 := ⟨⟨big_3 (i := 0) rfl rfl, big_1 (i := 1) rfl rfl, big_2 (i := 237) rfl rfl, by decide +kernel⟩, big_2 (i := 239) rfl rfl, big_s (i := 13) rfl rfl⟩
theorem vX5_216 : CwV RX5 216 yX4_keptOnes cX4_keptOnes 3 (some .int) 0 := ⟨⟨big_3 (i := 4) rfl rfl, big_1 (i := 4) rfl rfl, big_3 (i := 1) rfl rfl, by decide +kernel⟩, big_3 (i := 2) rfl rfl, big_3 (i := 3) rfl rfl⟩
theorem vX5_220 : CwV RX5 220 yX3_turn cX3_turn 6 (none) 3 := ⟨⟨big_2 (i := 82) rfl rfl, big_1 (i := 2) rfl rfl, big_2 (i := 79) rfl rfl, by decide +kernel⟩, big_2 (i := 80) rfl rfl, big_2 (i := 81) rfl rfl⟩
theorem vX5_223 : CwV RX5 223 yX4_faces cX4_faces 4 (some .boolean) 2 := ⟨⟨big_2 (i := 86) rfl rfl, big_1 (i := 4) rfl rfl, big_2 (i := 83) rfl rfl, by decide +kernel⟩, big_2 (i := 84) rfl rfl, big_2 (i := 85) rfl rfl⟩
theorem vX5_227 : CwV RX5 227 yX4_standOnAll cX4_standOnAll 6 (none) 2 := ⟨⟨big_2 (i := 94) rfl rfl, big_1 (i := 4) rfl rfl, big_2 (i := 91) rfl rfl, by decide +kernel⟩, big_2 (i := 92) rfl rfl, big_2 (i := 93) rfl rfl⟩
theorem vX5_232 : CwV RX5 232 yX5_isLitBy cX5_isLitBy 3 (some .boolean) 2 := ⟨⟨big_2 (i := 164) rfl rfl, big_1 (i := 1) rfl rfl, big_2 (i := 161) rfl rfl, by decide +kernel⟩, big_2 (i := 163) rfl rfl, big_s (i := 7) rfl rfl⟩
theorem vX5_235 : CwV RX5 235 yX5_firstFallWith cX5_firstFallWith 7 (some .int) 3 := ⟨⟨big_2 (i := 198) rfl rfl, big_1 (i := 1) rfl rfl, big_2 (i := 195) rfl rfl, by decide +kernel⟩, big_2 (i := 197) rfl rfl, big_s (i := 11) rfl rfl⟩
theorem vX5_239 : CwV RX5 239 yX1_growTrees cX1_growTrees 3 (some .boolean) 0 := ⟨⟨big_2 (i := 214) rfl rfl, big_1 (i := 3) rfl rfl, big_2 (i := 211) rfl rfl, by decide +kernel⟩, big_2 (i := 212) rfl rfl, big_2 (i := 213) rfl rfl⟩
theorem vX6_100 : CwS RX6 100 yX6_in cX6_in 3 (some .boolean) 3 := ⟨⟨big_3 (i := 151) rfl rfl, big_1 (i := 8) rfl rfl, big_3 (i := 149) rfl rfl, by decide +kernel⟩, big_3 (i := 150) rfl rfl⟩
theorem vX6_107 : CwS RX6 107 yX6_isDay cX6_isDay 1 (some .boolean) 1 := ⟨⟨big_3 (i := 148) rfl rfl, big_1 (i := 8) rfl rfl, big_3 (i := 146) rfl rfl, by decide +kernel⟩, big_3 (i := 147) rfl rfl⟩
theorem vX6_111 : CwV RX6 111 yX6_refuse cX6_refuse 2 (some .int) 1 := ⟨⟨big_3 (i := 155) rfl rfl, big_1 (i := 8) rfl rfl, big_3 (i := 152) rfl rfl, by decide +kernel⟩, big_3 (i := 154) rfl rfl, big_s (i := 14) rfl rfl⟩
theorem vX6_115 : CwV RX6 115 yX6_isBlock cX6_isBlock 2 (some .boolean) 1 := ⟨⟨big_3 (i := 167) rfl rfl, big_1 (i := 8) rfl rfl, big_3 (i := 164) rfl rfl, by decide +kernel⟩, big_3 (i := 166) rfl rfl, big_s (i := 15) rfl rfl⟩
theorem vX6_118 : CwV RX6 118 yX6_lackOfPlan cX6_lackOfPlan 2 (some .int) 1 := ⟨⟨big_3 (i := 183) rfl rfl, big_1 (i := 8) rfl rfl, big_3 (i := 180) rfl rfl, by decide +kernel⟩, big_3 (i := 182) rfl rfl, big_s (i := 16) rfl rfl⟩
theorem vX6_158 : CwV RX6 158 yX6_bound cX6_bound 8 (none) 4 := ⟨⟨big_4 (i := 3) rfl rfl, big_1 (i := 8) rfl rfl, big_4 (i := 0) rfl rfl, by decide +kernel⟩, big_4 (i := 2) rfl rfl, big_s (i := 26) rfl rfl⟩
theorem vX6_162 : CwV RX6 162 yX6_topOf cX6_topOf 2 (some .int) 1 := ⟨⟨big_4 (i := 7) rfl rfl, big_1 (i := 8) rfl rfl, big_4 (i := 4) rfl rfl, by decide +kernel⟩, big_4 (i := 6) rfl rfl, big_s (i := 27) rfl rfl⟩
theorem vX6_165 : CwV RX6 165 yX6_isInFront cX6_isInFront 4 (some .boolean) 2 := ⟨⟨big_3 (i := 223) rfl rfl, big_1 (i := 8) rfl rfl, big_3 (i := 220) rfl rfl, by decide +kernel⟩, big_3 (i := 222) rfl rfl, big_s (i := 21) rfl rfl⟩
theorem vX6_169 : CwV RX6 169 yX6_show cX6_show 6 (none) 3 := ⟨⟨big_3 (i := 231) rfl rfl, big_1 (i := 8) rfl rfl, big_3 (i := 228) rfl rfl, by decide +kernel⟩, big_3 (i := 230) rfl rfl, big_s (i := 23) rfl rfl⟩
theorem vX6_173 : CwV RX6 173 yX6_isThere cX6_isThere 2 (some .boolean) 1 := ⟨⟨big_3 (i := 235) rfl rfl, big_1 (i := 8) rfl rfl, big_3 (i := 232) rfl rfl, by decide +kernel⟩, big_3 (i := 234) rfl rfl, big_s (i := 24) rfl rfl⟩
theorem vX6_176 : CwV RX6 176 yX6_stands cX6_stands 2 (some .boolean) 1 := ⟨⟨big_3 (i := 239) rfl rfl, big_1 (i := 8) rfl rfl, big_3 (i := 236) rfl rfl, by decide +kernel⟩, big_3 (i := 238) rfl rfl, big_s (i := 25) rfl rfl⟩
theorem vX6_179 : CwV RX6 179 yX6_cellsOf cX6_cellsOf 2 (some .int) 1 := ⟨⟨big_3 (i := 219) rfl rfl, big_1 (i := 8) rfl rfl, big_3 (i := 216) rfl rfl, by decide +kernel⟩, big_3 (i := 218) rfl rfl, big_s (i := 20) rfl rfl⟩
theorem vX6_182 : CwV RX6 182 yX6_lightOf cX6_lightOf 8 (some .int) 4 := ⟨⟨big_3 (i := 227) rfl rfl, big_1 (i := 8) rfl rfl, big_3 (i := 224) rfl rfl, by decide +kernel⟩, big_3 (i := 226) rfl rfl, big_s (i := 22) rfl rfl⟩
theorem vX6_186 : CwV RX6 186 yX6_sunOf cX6_sunOf 6 (some .int) 3 := ⟨⟨big_3 (i := 215) rfl rfl, big_1 (i := 8) rfl rfl, big_3 (i := 212) rfl rfl, by decide +kernel⟩, big_3 (i := 214) rfl rfl, big_s (i := 19) rfl rfl⟩
theorem vX6_190 : CwV RX6 190 yX6_hoursOf cX6_hoursOf 5 (some .int) 2 := ⟨⟨big_4 (i := 36) rfl rfl, big_1 (i := 8) rfl rfl, big_4 (i := 33) rfl rfl, by decide +kernel⟩, big_4 (i := 35) rfl rfl, big_s (i := 30) rfl rfl⟩
theorem vX6_194 : CwV RX6 194 yX6_isWindow cX6_isWindow 2 (some .boolean) 1 := ⟨⟨big_3 (i := 207) rfl rfl, big_1 (i := 8) rfl rfl, big_3 (i := 204) rfl rfl, by decide +kernel⟩, big_3 (i := 206) rfl rfl, big_s (i := 17) rfl rfl⟩
theorem vX6_197 : CwV RX6 197 yX6_isMinute cX6_isMinute 3 (some .boolean) 2 := ⟨⟨big_3 (i := 211) rfl rfl, big_1 (i := 8) rfl rfl, big_3 (i := 208) rfl rfl, by decide +kernel⟩, big_3 (i := 210) rfl rfl, big_s (i := 18) rfl rfl⟩
theorem vX6_200 : CwV RX6 200 yX6_takerOf cX6_takerOf 10 (some .int) 4 := ⟨⟨big_4 (i := 19) rfl rfl, big_1 (i := 8) rfl rfl, big_4 (i := 16) rfl rfl, by decide +kernel⟩, big_4 (i := 18) rfl rfl, big_s (i := 28) rfl rfl⟩
theorem vX6_203 : CwV RX6 203 yX6_refuseBig cX6_refuseBig 2 (some .int) 1 := ⟨⟨big_4 (i := 23) rfl rfl, big_1 (i := 8) rfl rfl, big_4 (i := 20) rfl rfl, by decide +kernel⟩, big_4 (i := 22) rfl rfl, big_s (i := 29) rfl rfl⟩
theorem vX6_206 : CwV RX6 206 yX6_think cX6_think 3 (none) 2 := ⟨⟨big_4 (i := 44) rfl rfl, big_1 (i := 8) rfl rfl, big_4 (i := 41) rfl rfl, by decide +kernel⟩, big_4 (i := 43) rfl rfl, big_s (i := 31) rfl rfl⟩
theorem vX6_210 : CwV RX6 210 yX6_isKept cX6_isKept 2 (some .boolean) 1 := ⟨⟨big_4 (i := 56) rfl rfl, big_1 (i := 8) rfl rfl, big_4 (i := 53) rfl rfl, by decide +kernel⟩, big_4 (i := 55) rfl rfl, big_s (i := 33) rfl rfl⟩
theorem vX6_213 : CwV RX6 213 yX6_fallsOn cX6_fallsOn 3 (some .int) 1 := ⟨⟨big_4 (i := 60) rfl rfl, big_1 (i := 8) rfl rfl, big_4 (i := 57) rfl rfl, by decide +kernel⟩, big_4 (i := 59) rfl rfl, big_s (i := 34) rfl rfl⟩
theorem vX6_216 : CwV RX6 216 yX6_ask cX6_ask 2 (none) 0 := ⟨⟨big_4 (i := 52) rfl rfl, big_1 (i := 8) rfl rfl, big_4 (i := 49) rfl rfl, by decide +kernel⟩, big_4 (i := 51) rfl rfl, big_s (i := 32) rfl rfl⟩
theorem vX6_219 : CwV RX6 219 yX6_firstBreach cX6_firstBreach 6 (some .int) 2 := ⟨⟨big_4 (i := 64) rfl rfl, big_1 (i := 8) rfl rfl, big_4 (i := 61) rfl rfl, by decide +kernel⟩, big_4 (i := 63) rfl rfl, big_s (i := 35) rfl rfl⟩
theorem kJ6_265 : Cond.constant RJ6 265 (1431655765) ∈ lw_big := big_2 (i := 168) rfl rfl
theorem kJ6_266 : Cond.constant RJ6 266 (858993459) ∈ lw_big := big_2 (i := 169) rfl rfl
theorem kJ6_267 : Cond.constant RJ6 267 (252645135) ∈ lw_big := big_2 (i := 170) rfl rfl
theorem kX5_219 : Cond.constant RX5 219 (1000000) ∈ lw_big := big_2 (i := 140) rfl rfl
theorem kX6_96 : Cond.constant RX6 96 (1000000) ∈ lw_big := big_4 (i := 24) rfl rfl
